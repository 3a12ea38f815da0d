set_option maxHeartbeats 4000000 in
set_option maxRecDepth 100000 in
theorem c_X7_opens_1 {l : Launch} {D : va_G} {k : Nat → ClassId} {g b : Nat → Nat} (μ ν : St) (u : Int32) (L p : Nat) (s : Int32) (hI : Inv (μ 0)) (hP : PIn (nN (μ 0 5)) (ν 12 0) (ν 13 0) (ν 14 0) (ν 15 0) (ν 16 0) u 4 L p) (hs : s = lkS (μ 0) p) (hc : lkS (μ 0) p = 33 ∨ lkS (μ 0) p = 40) : Ct l D k g yX7_opens cX7_opens 2 none 8 169 [.ref (b 20), .int s] (S := Rw × Rw × Int32 × Int32 × Int32 × Int32) (wM k b μ ν) (fun uu => wM k b μ (va_up (va_up (va_up (va_up (va_up (va_up ν 8 uu.1) 9 uu.2.1) 12 (fun _ => uu.2.2.1)) 13 (fun _ => uu.2.2.2.1)) 14 (fun _ => uu.2.2.2.2.1)) 15 (fun _ => uu.2.2.2.2.2))) (fun vv uu => vv = none ∧ POut 4 (ν 8) (ν 9) L (opG (lkS (μ 0)) true (sgS (lkS (μ 0)) u 0) (lvS (lkS (μ 0)) (sgS (lkS (μ 0)) u 0) 5) p) uu.1 uu.2.1 uu.2.2.1 uu.2.2.2.1 uu.2.2.2.2.1 uu.2.2.2.2.2) := by
  refine Ct.ofV RX7 rfl (by decide +kernel) (Nat.le_of_ble_eq_true rfl) (fun X hC hR => ?_)
  have hb60 := hI.bb; have hle := hP.2.2.2.2.2
  have hlt : p < nN (μ 0 5) := tok_lt lk_tok (fun q => by rw [q] at hc; exact absurd hc (by decide))
  show V X (wM k b μ ν) [(0, .ref (b 20)), (1, .int s)] [] 0
  refine V.aload_n (pc := 0) 0 hC dX7_opens_0 rfl ?_
  refine V.get (pc := 1) (v := .int (ν 14 0)) hC cf_X7 0 14 fl_X7_143 (by decide) gm_0 rfl dX7_opens_1 ?_
  refine V.eqi (y := 4) (hP.2.2.2.1) ?_
  refine V.iconst (pc := 4) 5 hC dX7_opens_4 (by decide) ?_
  refine V.icmp_ne (pc := 5) 14 hC dX7_opens_5 (by decide) (fun c_5 => ?_) (fun c_5 => ?_)
  · have nc_5 : ¬ (4 = 5) := fun z => c_5 ((neq (nl 4) (nl 5) (by omega) (by omega)).mpr z)
    refine V.aload_n (pc := 14) 0 hC dX7_opens_14 rfl ?_
    refine V.dup (pc := 15) hC dX7_opens_15 rfl ?_
    refine V.get (pc := 16) (v := .int (ν 14 0)) hC cf_X7 0 14 fl_X7_143 (by decide) gm_0 rfl dX7_opens_16 ?_
    refine V.eqi (y := 4) (hP.2.2.2.1) ?_
    refine V.iconst (pc := 19) 1 hC dX7_opens_19 (by decide) ?_
    refine V.iadd (pc := 20) hC dX7_opens_20 ?_
    refine V.put (pc := 21) (v := .int (4 + 1)) hC cf_X7 0 14 (wM k b μ (va_up ν 14 (fun _ => 4 + 1))) fl_X7_143 (by decide) gm_0 rfl rfl rfl (Nat.le_of_ble_eq_true rfl) rfl dX7_opens_21 ?_
    refine V.aload_n (pc := 24) 0 hC dX7_opens_24 rfl ?_
    refine V.dup (pc := 25) hC dX7_opens_25 rfl ?_
    refine V.get (pc := 26) (v := .int (ν 13 0)) hC cf_X7 0 13 fl_X7_121 (by decide) gm_0 rfl dX7_opens_26 ?_
    refine V.iconst (pc := 29) 1 hC dX7_opens_29 (by decide) ?_
    refine V.iadd (pc := 30) hC dX7_opens_30 ?_
    refine V.put (pc := 31) (v := .int ((ν 13 0) + 1)) hC cf_X7 0 13 (wM k b μ (va_up (va_up ν 14 (fun _ => 4 + 1)) 13 (fun _ => (ν 13 0) + 1))) fl_X7_121 (by decide) gm_0 rfl rfl rfl (Nat.le_of_ble_eq_true rfl) rfl dX7_opens_31 ?_
    refine V.iload_n (pc := 34) 1 hC dX7_opens_34 rfl ?_
    refine V.bipush (pc := 35) 33 hC dX7_opens_35 (by decide) ?_
    refine V.icmp_ne (pc := 37) 53 hC dX7_opens_37 (by decide) (fun c_37 => ?_) (fun c_37 => ?_)
    · refine V.aload_n (pc := 53) 0 hC dX7_opens_53 rfl ?_
      refine V.callV0 (pc := 54) (as := []) hC (c_X7_any_0 μ (va_up (va_up ν 14 (fun _ => 4 + 1)) 13 (fun _ => (ν 13 0) + 1)) u L (p + 1) hI ⟨hP.1, hP.2.1, nadd hP.2.2.1 (nl 1), rfl, hP.2.2.2.2.1, by omega, hlt⟩) mu_X7_any ml_X7_149 (by decide) ⟨0, 7, TX7, 20, _, rfl, gm_0⟩ rfl (Nat.le_of_ble_eq_true rfl) dX7_opens_54 ?_
      rintro _ ⟨f54_0, f54_1, i54_2, i54_3, i54_4, i54_5⟩ ⟨rfl, hu54_0⟩
      have hu54_0 : POut 5 ((ν 8)) ((ν 9)) L ((lvS (lkS (μ 0)) (sgS (lkS (μ 0)) u 0) 5) (p + 1)) f54_0 f54_1 i54_2 i54_3 i54_4 i54_5 := hu54_0
      show V X (wM k b μ (va_up (va_up (va_up (va_up (va_up (va_up ν 14 (fun _ => i54_4)) 13 (fun _ => i54_3)) 8 f54_0) 9 f54_1) 12 (fun _ => i54_2)) 15 (fun _ => i54_5))) [(0, .ref (b 20)), (1, .int s)] [] 57
      refine V.aload_n (pc := 57) 0 hC dX7_opens_57 rfl ?_
      refine V.aload_n (pc := 58) 0 hC dX7_opens_58 rfl ?_
      refine V.get (pc := 59) (v := .int i54_5) hC cf_X7 0 15 fl_X7_135 (by decide) gm_0 rfl dX7_opens_59 ?_
      refine V.eqi (y := bdS ((lvS (lkS (μ 0)) (sgS (lkS (μ 0)) u 0) 5) (p + 1))) (hu54_0.2.2.1) ?_
      refine V.if_ne (pc := 62) 74 hC dX7_opens_62 (by decide) (fun c_62 => ?_) (fun c_62 => ?_)
      · refine V.iconst (pc := 74) 1 hC dX7_opens_74 (by decide) ?_
        refine V.goto (pc := 75) 79 hC dX7_opens_75 (by decide) ?_
        refine V.put (pc := 79) (v := .int 1) hC cf_X7 0 15 (wM k b μ (va_up (va_up (va_up (va_up (va_up (va_up ν 14 (fun _ => i54_4)) 13 (fun _ => i54_3)) 8 f54_0) 9 f54_1) 12 (fun _ => i54_2)) 15 (fun _ => 1))) fl_X7_135 (by decide) gm_0 rfl rfl rfl (Nat.le_of_ble_eq_true rfl) rfl dX7_opens_79 ?_
        refine V.aload_n (pc := 82) 0 hC dX7_opens_82 rfl ?_
        refine V.dup (pc := 83) hC dX7_opens_83 rfl ?_
        refine V.get (pc := 84) (v := .int i54_3) hC cf_X7 0 13 fl_X7_121 (by decide) gm_0 rfl dX7_opens_84 ?_
        refine V.aload_n (pc := 87) 0 hC dX7_opens_87 rfl ?_
        refine V.get (pc := 88) (v := .int 1) hC cf_X7 0 15 fl_X7_135 (by decide) gm_0 rfl dX7_opens_88 ?_
        refine V.if_eq (pc := 91) 98 hC dX7_opens_91 (by decide) (fun c_91 => ?_) (fun c_91 => ?_)
        · exact absurd c_91 (by decide)
        · refine V.iconst (pc := 94) 0 hC dX7_opens_94 (by decide) ?_
          refine V.goto (pc := 95) 99 hC dX7_opens_95 (by decide) ?_
          refine V.iadd (pc := 99) hC dX7_opens_99 ?_
          refine V.put (pc := 100) (v := .int (i54_3 + 0)) hC cf_X7 0 13 (wM k b μ (va_up (va_up (va_up (va_up (va_up (va_up ν 14 (fun _ => i54_4)) 13 (fun _ => i54_3 + 0)) 8 f54_0) 9 f54_1) 12 (fun _ => i54_2)) 15 (fun _ => 1))) fl_X7_121 (by decide) gm_0 rfl rfl rfl (Nat.le_of_ble_eq_true rfl) rfl dX7_opens_100 ?_
          refine V.aload_n (pc := 103) 0 hC dX7_opens_103 rfl ?_
          refine V.dup (pc := 104) hC dX7_opens_104 rfl ?_
          refine V.get (pc := 105) (v := .int i54_4) hC cf_X7 0 14 fl_X7_143 (by decide) gm_0 rfl dX7_opens_105 ?_
          refine V.iconst (pc := 108) 1 hC dX7_opens_108 (by decide) ?_
          refine V.isub (pc := 109) hC dX7_opens_109 ?_
          refine V.put (pc := 110) (v := .int (i54_4 - 1)) hC cf_X7 0 14 (wM k b μ (va_up (va_up (va_up (va_up (va_up (va_up ν 14 (fun _ => i54_4 - 1)) 13 (fun _ => i54_3 + 0)) 8 f54_0) 9 f54_1) 12 (fun _ => i54_2)) 15 (fun _ => 1))) fl_X7_143 (by decide) gm_0 rfl rfl rfl (Nat.le_of_ble_eq_true rfl) rfl dX7_opens_110 ?_
          exact hR (f54_0, f54_1, i54_2, i54_3 + 0, i54_4 - 1, 1) _ _ dX7_opens_113 ⟨rfl, by rw [opG, if_neg (by decide), if_neg (fun q => c_37 (hs.trans q)), if_neg (fun q => c_62 (if_pos q.1))]; exact PO_bad (nadd hu54_0.1 (nl 0)) (by rw [hu54_0.2.1]; rfl) rfl hu54_0.2.2.2.1⟩
      · refine V.aload_n (pc := 65) 0 hC dX7_opens_65 rfl ?_
        refine V.callV0 (pc := 66) (as := []) hC (c_X7_look μ (va_up (va_up (va_up (va_up (va_up (va_up ν 14 (fun _ => i54_4)) 13 (fun _ => i54_3)) 8 f54_0) 9 f54_1) 12 (fun _ => i54_2)) 15 (fun _ => i54_5)) (((lvS (lkS (μ 0)) (sgS (lkS (μ 0)) u 0) 5) (p + 1)).2.1) hI hu54_0.1 (by have := ((lv_g (lk_tok (ρ := μ 0)) (sg_g (u := u) (lk_tok (ρ := μ 0)) 0) 5) (p + 1) hlt).2.1; omega)) mu_X7_look ml_X7_131 (by decide) ⟨0, 7, TX7, 20, _, rfl, gm_0⟩ rfl (Nat.le_of_ble_eq_true rfl) dX7_opens_66 ?_
        rintro _ _ rfl
        show V X (wM k b μ (va_up (va_up (va_up (va_up (va_up (va_up ν 14 (fun _ => i54_4)) 13 (fun _ => i54_3)) 8 f54_0) 9 f54_1) 12 (fun _ => i54_2)) 15 (fun _ => i54_5))) [(0, .ref (b 20)), (1, .int s)] [.int (lkS (μ 0) (((lvS (lkS (μ 0)) (sgS (lkS (μ 0)) u 0) 5) (p + 1)).2.1)), .ref (b 20)] 69
        refine V.bipush (pc := 69) 41 hC dX7_opens_69 (by decide) ?_
        refine V.icmp_eq (pc := 71) 78 hC dX7_opens_71 (by decide) (fun c_71 => ?_) (fun c_71 => ?_)
        · refine V.iconst (pc := 78) 0 hC dX7_opens_78 (by decide) ?_
          refine V.put (pc := 79) (v := .int 0) hC cf_X7 0 15 (wM k b μ (va_up (va_up (va_up (va_up (va_up (va_up ν 14 (fun _ => i54_4)) 13 (fun _ => i54_3)) 8 f54_0) 9 f54_1) 12 (fun _ => i54_2)) 15 (fun _ => 0))) fl_X7_135 (by decide) gm_0 rfl rfl rfl (Nat.le_of_ble_eq_true rfl) rfl dX7_opens_79 ?_
          refine V.aload_n (pc := 82) 0 hC dX7_opens_82 rfl ?_
          refine V.dup (pc := 83) hC dX7_opens_83 rfl ?_
          refine V.get (pc := 84) (v := .int i54_3) hC cf_X7 0 13 fl_X7_121 (by decide) gm_0 rfl dX7_opens_84 ?_
          refine V.aload_n (pc := 87) 0 hC dX7_opens_87 rfl ?_
          refine V.get (pc := 88) (v := .int 0) hC cf_X7 0 15 fl_X7_135 (by decide) gm_0 rfl dX7_opens_88 ?_
          refine V.if_eq (pc := 91) 98 hC dX7_opens_91 (by decide) (fun c_91 => ?_) (fun c_91 => ?_)
          · refine V.iconst (pc := 98) 1 hC dX7_opens_98 (by decide) ?_
            refine V.iadd (pc := 99) hC dX7_opens_99 ?_
            refine V.put (pc := 100) (v := .int (i54_3 + 1)) hC cf_X7 0 13 (wM k b μ (va_up (va_up (va_up (va_up (va_up (va_up ν 14 (fun _ => i54_4)) 13 (fun _ => i54_3 + 1)) 8 f54_0) 9 f54_1) 12 (fun _ => i54_2)) 15 (fun _ => 0))) fl_X7_121 (by decide) gm_0 rfl rfl rfl (Nat.le_of_ble_eq_true rfl) rfl dX7_opens_100 ?_
            refine V.aload_n (pc := 103) 0 hC dX7_opens_103 rfl ?_
            refine V.dup (pc := 104) hC dX7_opens_104 rfl ?_
            refine V.get (pc := 105) (v := .int i54_4) hC cf_X7 0 14 fl_X7_143 (by decide) gm_0 rfl dX7_opens_105 ?_
            refine V.iconst (pc := 108) 1 hC dX7_opens_108 (by decide) ?_
            refine V.isub (pc := 109) hC dX7_opens_109 ?_
            refine V.put (pc := 110) (v := .int (i54_4 - 1)) hC cf_X7 0 14 (wM k b μ (va_up (va_up (va_up (va_up (va_up (va_up ν 14 (fun _ => i54_4 - 1)) 13 (fun _ => i54_3 + 1)) 8 f54_0) 9 f54_1) 12 (fun _ => i54_2)) 15 (fun _ => 0))) fl_X7_143 (by decide) gm_0 rfl rfl rfl (Nat.le_of_ble_eq_true rfl) rfl dX7_opens_110 ?_
            exact hR (f54_0, f54_1, i54_2, i54_3 + 1, i54_4 - 1, 0) _ _ dX7_opens_113 ⟨rfl, by rw [opG, if_neg (by decide), if_neg (fun q => c_37 (hs.trans q)), if_pos ⟨bd_0 c_62, c_71⟩]; exact ⟨nadd hu54_0.1 (nl 1), (by rw [hu54_0.2.1]; rfl), rfl, hu54_0.2.2.2.1, fun _ => hu54_0.2.2.2.2 (bd_0 c_62)⟩⟩
          · exact absurd c_91 (by decide)
        · refine V.iconst (pc := 74) 1 hC dX7_opens_74 (by decide) ?_
          refine V.goto (pc := 75) 79 hC dX7_opens_75 (by decide) ?_
          refine V.put (pc := 79) (v := .int 1) hC cf_X7 0 15 (wM k b μ (va_up (va_up (va_up (va_up (va_up (va_up ν 14 (fun _ => i54_4)) 13 (fun _ => i54_3)) 8 f54_0) 9 f54_1) 12 (fun _ => i54_2)) 15 (fun _ => 1))) fl_X7_135 (by decide) gm_0 rfl rfl rfl (Nat.le_of_ble_eq_true rfl) rfl dX7_opens_79 ?_
          refine V.aload_n (pc := 82) 0 hC dX7_opens_82 rfl ?_
          refine V.dup (pc := 83) hC dX7_opens_83 rfl ?_
          refine V.get (pc := 84) (v := .int i54_3) hC cf_X7 0 13 fl_X7_121 (by decide) gm_0 rfl dX7_opens_84 ?_
          refine V.aload_n (pc := 87) 0 hC dX7_opens_87 rfl ?_
          refine V.get (pc := 88) (v := .int 1) hC cf_X7 0 15 fl_X7_135 (by decide) gm_0 rfl dX7_opens_88 ?_
          refine V.if_eq (pc := 91) 98 hC dX7_opens_91 (by decide) (fun c_91 => ?_) (fun c_91 => ?_)
          · exact absurd c_91 (by decide)
          · refine V.iconst (pc := 94) 0 hC dX7_opens_94 (by decide) ?_
            refine V.goto (pc := 95) 99 hC dX7_opens_95 (by decide) ?_
            refine V.iadd (pc := 99) hC dX7_opens_99 ?_
            refine V.put (pc := 100) (v := .int (i54_3 + 0)) hC cf_X7 0 13 (wM k b μ (va_up (va_up (va_up (va_up (va_up (va_up ν 14 (fun _ => i54_4)) 13 (fun _ => i54_3 + 0)) 8 f54_0) 9 f54_1) 12 (fun _ => i54_2)) 15 (fun _ => 1))) fl_X7_121 (by decide) gm_0 rfl rfl rfl (Nat.le_of_ble_eq_true rfl) rfl dX7_opens_100 ?_
            refine V.aload_n (pc := 103) 0 hC dX7_opens_103 rfl ?_
            refine V.dup (pc := 104) hC dX7_opens_104 rfl ?_
            refine V.get (pc := 105) (v := .int i54_4) hC cf_X7 0 14 fl_X7_143 (by decide) gm_0 rfl dX7_opens_105 ?_
            refine V.iconst (pc := 108) 1 hC dX7_opens_108 (by decide) ?_
            refine V.isub (pc := 109) hC dX7_opens_109 ?_
            refine V.put (pc := 110) (v := .int (i54_4 - 1)) hC cf_X7 0 14 (wM k b μ (va_up (va_up (va_up (va_up (va_up (va_up ν 14 (fun _ => i54_4 - 1)) 13 (fun _ => i54_3 + 0)) 8 f54_0) 9 f54_1) 12 (fun _ => i54_2)) 15 (fun _ => 1))) fl_X7_143 (by decide) gm_0 rfl rfl rfl (Nat.le_of_ble_eq_true rfl) rfl dX7_opens_110 ?_
            exact hR (f54_0, f54_1, i54_2, i54_3 + 0, i54_4 - 1, 1) _ _ dX7_opens_113 ⟨rfl, by rw [opG, if_neg (by decide), if_neg (fun q => c_37 (hs.trans q)), if_neg (fun q => c_71 q.2)]; exact PO_bad (nadd hu54_0.1 (nl 0)) (by rw [hu54_0.2.1]; rfl) rfl hu54_0.2.2.2.1⟩
    · refine V.aload_n (pc := 40) 0 hC dX7_opens_40 rfl ?_
      refine V.callV0 (pc := 41) (as := []) hC (c_X7_one_0 μ (va_up (va_up ν 14 (fun _ => 4 + 1)) 13 (fun _ => (ν 13 0) + 1)) u L (p + 1) hI ⟨hP.1, hP.2.1, nadd hP.2.2.1 (nl 1), rfl, hP.2.2.2.2.1, by omega, hlt⟩) mu_X7_one ml_X7_146 (by decide) ⟨0, 7, TX7, 20, _, rfl, gm_0⟩ rfl (Nat.le_of_ble_eq_true rfl) dX7_opens_41 ?_
      rintro _ ⟨f41_0, f41_1, i41_2, i41_3, i41_4, i41_5⟩ ⟨rfl, hu41_0⟩
      have hu41_0 : POut 5 ((ν 8)) ((ν 9)) L ((sgS (lkS (μ 0)) u 0) (p + 1)) f41_0 f41_1 i41_2 i41_3 i41_4 i41_5 := hu41_0
      show V X (wM k b μ (va_up (va_up (va_up (va_up (va_up (va_up ν 14 (fun _ => i41_4)) 13 (fun _ => i41_3)) 8 f41_0) 9 f41_1) 12 (fun _ => i41_2)) 15 (fun _ => i41_5))) [(0, .ref (b 20)), (1, .int s)] [] 44
      refine V.aload_n (pc := 44) 0 hC dX7_opens_44 rfl ?_
      refine V.iconst (pc := 45) 3 hC dX7_opens_45 (by decide) ?_
      refine V.iconst (pc := 46) 0 hC dX7_opens_46 (by decide) ?_
      refine V.callV0 (pc := 47) (as := [.int 3, .int 0]) hC (c_X7_step μ (va_up (va_up (va_up (va_up (va_up (va_up ν 14 (fun _ => i41_4)) 13 (fun _ => i41_3)) 8 f41_0) 9 f41_1) 12 (fun _ => i41_2)) 15 (fun _ => i41_5)) 3 0 hu41_0.2.2.2.1) mu_X7_step ml_X7_139 (by decide) ⟨0, 7, TX7, 20, _, rfl, gm_0⟩ rfl (Nat.le_of_ble_eq_true rfl) dX7_opens_47 ?_
      rintro _ ⟨f47_0, f47_1, i47_2⟩ ⟨rfl, hu47_0⟩
      have hu47_0 : StF (f41_0) (f41_1) (i41_2) 3 0 f47_0 f47_1 i47_2 := hu47_0
      show V X (wM k b μ (va_up (va_up (va_up (va_up (va_up (va_up ν 14 (fun _ => i41_4)) 13 (fun _ => i41_3)) 8 f47_0) 9 f47_1) 12 (fun _ => i47_2)) 15 (fun _ => i41_5))) [(0, .ref (b 20)), (1, .int s)] [] 50
      refine V.goto (pc := 50) 103 hC dX7_opens_50 (by decide) ?_
      refine V.aload_n (pc := 103) 0 hC dX7_opens_103 rfl ?_
      refine V.dup (pc := 104) hC dX7_opens_104 rfl ?_
      refine V.get (pc := 105) (v := .int i41_4) hC cf_X7 0 14 fl_X7_143 (by decide) gm_0 rfl dX7_opens_105 ?_
      refine V.iconst (pc := 108) 1 hC dX7_opens_108 (by decide) ?_
      refine V.isub (pc := 109) hC dX7_opens_109 ?_
      refine V.put (pc := 110) (v := .int (i41_4 - 1)) hC cf_X7 0 14 (wM k b μ (va_up (va_up (va_up (va_up (va_up (va_up ν 14 (fun _ => i41_4 - 1)) 13 (fun _ => i41_3)) 8 f47_0) 9 f47_1) 12 (fun _ => i47_2)) 15 (fun _ => i41_5))) fl_X7_143 (by decide) gm_0 rfl rfl rfl (Nat.le_of_ble_eq_true rfl) rfl dX7_opens_110 ?_
      exact hR (f47_0, f47_1, i47_2, i41_3, i41_4 - 1, i41_5) _ _ dX7_opens_113 ⟨rfl, by rw [opG, if_neg (by decide), if_pos (hs.symm.trans c_37)]; exact PO_deny hu41_0 hu47_0 (fun q => by have := ((sg_g (u := u) (lk_tok (ρ := μ 0)) 0) (p + 1) hlt).2.2 q; have := ((sg_g (u := u) (lk_tok (ρ := μ 0)) 0) (p + 1) hlt).2.1; omega) (by rw [hu41_0.2.1]; rfl)⟩
  · have nc_5 : 4 = 5 := (neq (nl 4) (nl 5) (by omega) (by omega)).mp c_5
    exact absurd c_5 (by decide)
set_option maxHeartbeats 4000000 in
set_option maxRecDepth 100000 in
theorem c_X7_one_1 {l : Launch} {D : va_G} {k : Nat → ClassId} {g b : Nat → Nat} (μ ν : St) (u : Int32) (L p : Nat) (hI : Inv (μ 0)) (hP : PIn (nN (μ 0 5)) (ν 12 0) (ν 13 0) (ν 14 0) (ν 15 0) (ν 16 0) u 4 L p) : Ct l D k g yX7_one cX7_one 3 none 9 190 [.ref (b 20)] (S := Rw × Rw × Int32 × Int32 × Int32 × Int32) (wM k b μ ν) (fun uu => wM k b μ (va_up (va_up (va_up (va_up (va_up (va_up ν 8 uu.1) 9 uu.2.1) 12 (fun _ => uu.2.2.1)) 13 (fun _ => uu.2.2.2.1)) 14 (fun _ => uu.2.2.2.2.1)) 15 (fun _ => uu.2.2.2.2.2))) (fun vv uu => vv = none ∧ POut 4 (ν 8) (ν 9) L ((sgS (lkS (μ 0)) u 1) p) uu.1 uu.2.1 uu.2.2.1 uu.2.2.2.1 uu.2.2.2.2.1 uu.2.2.2.2.2) := by
  refine Ct.ofV RX7 rfl (by decide +kernel) (Nat.le_of_ble_eq_true rfl) (fun X hC hR => ?_)
  have hb60 := hI.bb; have hle := hP.2.2.2.2.2
  show V X (wM k b μ ν) [(0, .ref (b 20))] [] 0
  refine V.aload_n (pc := 0) 0 hC dX7_one_0 rfl ?_
  refine V.callV0 (pc := 1) (as := []) hC (c_X7_look μ ν p hI hP.2.2.1 (by omega)) mu_X7_look ml_X7_131 (by decide) ⟨0, 7, TX7, 20, _, rfl, gm_0⟩ rfl (Nat.le_of_ble_eq_true rfl) dX7_one_1 ?_
  rintro _ _ rfl
  show V X (wM k b μ ν) [(0, .ref (b 20))] [.int (lkS (μ 0) p)] 4
  refine V.istore_n (pc := 4) [(1, .int (lkS (μ 0) p)), (0, .ref (b 20))] hC dX7_one_4 (by decide) rfl ?_
  refine V.aload_n (pc := 5) 1 hC dX7_one_5 rfl ?_
  refine V.iload_n (pc := 6) 0 hC dX7_one_6 rfl ?_
  refine V.callV0 (pc := 7) (as := [.int (lkS (μ 0) p)]) hC (c_X7_nameOf μ ν (lkS (μ 0) p) ) mu_X7_nameOf ml_X7_152 (by decide) ⟨0, 7, TX7, 20, _, rfl, gm_0⟩ rfl (Nat.le_of_ble_eq_true rfl) dX7_one_7 ?_
  rintro _ _ rfl
  show V X (wM k b μ ν) [(1, .int (lkS (μ 0) p)), (0, .ref (b 20))] [.int (namS (ν 16 0) (lkS (μ 0) p))] 10
  refine V.eqi (y := namS u (lkS (μ 0) p)) (by rw [hP.1]) ?_
  refine V.istore_n (pc := 10) [(2, .int (namS u (lkS (μ 0) p))), (1, .int (lkS (μ 0) p)), (0, .ref (b 20))] hC dX7_one_10 (by decide) rfl ?_
  refine V.iload_n (pc := 11) 0 hC dX7_one_11 rfl ?_
  refine V.if_lt (pc := 12) 34 hC dX7_one_12 (by decide) (fun c_12 => ?_) (fun c_12 => ?_)
  · refine V.iload_n (pc := 34) 1 hC dX7_one_34 rfl ?_
    refine V.bipush (pc := 35) 33 hC dX7_one_35 (by decide) ?_
    refine V.icmp_eq (pc := 37) 46 hC dX7_one_37 (by decide) (fun c_37 => ?_) (fun c_37 => ?_)
    · refine V.aload_n (pc := 46) 2 hC dX7_one_46 rfl ?_
      refine V.iload_n (pc := 47) 1 hC dX7_one_47 rfl ?_
      refine V.callV0 (pc := 48) (as := [.int (lkS (μ 0) p)]) hC (c_X7_opens_1 μ ν u L p (lkS (μ 0) p) hI hP rfl (Or.inl c_37)) mu_X7_opens ml_X7_155 (by decide) ⟨0, 7, TX7, 20, _, rfl, gm_0⟩ rfl (Nat.le_of_ble_eq_true rfl) dX7_one_48 ?_
      rintro _ ⟨f48_0, f48_1, i48_2, i48_3, i48_4, i48_5⟩ ⟨rfl, hu48_0⟩
      have hu48_0 : POut 4 (ν 8) (ν 9) L (opG (lkS (μ 0)) true (sgS (lkS (μ 0)) u 0) (lvS (lkS (μ 0)) (sgS (lkS (μ 0)) u 0) 5) p) f48_0 f48_1 i48_2 i48_3 i48_4 i48_5 := hu48_0
      show V X (wM k b μ (va_up (va_up (va_up (va_up (va_up (va_up ν 8 f48_0) 9 f48_1) 12 (fun _ => i48_2)) 13 (fun _ => i48_3)) 14 (fun _ => i48_4)) 15 (fun _ => i48_5))) [(2, .int (namS u (lkS (μ 0) p))), (1, .int (lkS (μ 0) p)), (0, .ref (b 20))] [] 51
      refine V.goto (pc := 51) 58 hC dX7_one_51 (by decide) ?_
      exact hR (f48_0, f48_1, i48_2, i48_3, i48_4, i48_5) _ _ dX7_one_58 ⟨rfl, by rw [show (sgS (lkS (μ 0)) u 1) p = _ from (if_neg (i_gt c_12)).trans (if_pos (Or.inl c_37))]; exact hu48_0⟩
    · refine V.iload_n (pc := 40) 1 hC dX7_one_40 rfl ?_
      refine V.bipush (pc := 41) 40 hC dX7_one_41 (by decide) ?_
      refine V.icmp_ne (pc := 43) 54 hC dX7_one_43 (by decide) (fun c_43 => ?_) (fun c_43 => ?_)
      · refine V.aload_n (pc := 54) 2 hC dX7_one_54 rfl ?_
        refine V.callV0 (pc := 55) (as := []) hC (c_X7_number μ ν u L p 4 hI hP) mu_X7_number ml_X7_159 (by decide) ⟨0, 7, TX7, 20, _, rfl, gm_0⟩ rfl (Nat.le_of_ble_eq_true rfl) dX7_one_55 ?_
        rintro _ ⟨f55_0, f55_1, i55_2, i55_3, i55_4, i55_5⟩ ⟨rfl, hu55_0⟩
        have hu55_0 : POut 4 (ν 8) (ν 9) L (numS (lkS (μ 0)) p) f55_0 f55_1 i55_2 i55_3 i55_4 i55_5 := hu55_0
        show V X (wM k b μ (va_up (va_up (va_up (va_up (va_up (va_up ν 8 f55_0) 9 f55_1) 12 (fun _ => i55_2)) 13 (fun _ => i55_3)) 14 (fun _ => i55_4)) 15 (fun _ => i55_5))) [(2, .int (namS u (lkS (μ 0) p))), (1, .int (lkS (μ 0) p)), (0, .ref (b 20))] [] 58
        exact hR (f55_0, f55_1, i55_2, i55_3, i55_4, i55_5) _ _ dX7_one_58 ⟨rfl, by rw [show (sgS (lkS (μ 0)) u 1) p = _ from (if_neg (i_gt c_12)).trans (if_neg (fun q => q.elim c_37 c_43))]; exact hu55_0⟩
      · refine V.aload_n (pc := 46) 2 hC dX7_one_46 rfl ?_
        refine V.iload_n (pc := 47) 1 hC dX7_one_47 rfl ?_
        refine V.callV0 (pc := 48) (as := [.int (lkS (μ 0) p)]) hC (c_X7_opens_1 μ ν u L p (lkS (μ 0) p) hI hP rfl (Or.inr c_43)) mu_X7_opens ml_X7_155 (by decide) ⟨0, 7, TX7, 20, _, rfl, gm_0⟩ rfl (Nat.le_of_ble_eq_true rfl) dX7_one_48 ?_
        rintro _ ⟨f48_0, f48_1, i48_2, i48_3, i48_4, i48_5⟩ ⟨rfl, hu48_0⟩
        have hu48_0 : POut 4 (ν 8) (ν 9) L (opG (lkS (μ 0)) true (sgS (lkS (μ 0)) u 0) (lvS (lkS (μ 0)) (sgS (lkS (μ 0)) u 0) 5) p) f48_0 f48_1 i48_2 i48_3 i48_4 i48_5 := hu48_0
        show V X (wM k b μ (va_up (va_up (va_up (va_up (va_up (va_up ν 8 f48_0) 9 f48_1) 12 (fun _ => i48_2)) 13 (fun _ => i48_3)) 14 (fun _ => i48_4)) 15 (fun _ => i48_5))) [(2, .int (namS u (lkS (μ 0) p))), (1, .int (lkS (μ 0) p)), (0, .ref (b 20))] [] 51
        refine V.goto (pc := 51) 58 hC dX7_one_51 (by decide) ?_
        exact hR (f48_0, f48_1, i48_2, i48_3, i48_4, i48_5) _ _ dX7_one_58 ⟨rfl, by rw [show (sgS (lkS (μ 0)) u 1) p = _ from (if_neg (i_gt c_12)).trans (if_pos (Or.inr c_43))]; exact hu48_0⟩
  · refine V.aload_n (pc := 15) 2 hC dX7_one_15 rfl ?_
    refine V.dup (pc := 16) hC dX7_one_16 rfl ?_
    refine V.get (pc := 17) (v := .int (ν 13 0)) hC cf_X7 0 13 fl_X7_121 (by decide) gm_0 rfl dX7_one_17 ?_
    refine V.iconst (pc := 20) 1 hC dX7_one_20 (by decide) ?_
    refine V.iadd (pc := 21) hC dX7_one_21 ?_
    refine V.put (pc := 22) (v := .int ((ν 13 0) + 1)) hC cf_X7 0 13 (wM k b μ (va_up ν 13 (fun _ => (ν 13 0) + 1))) fl_X7_121 (by decide) gm_0 rfl rfl rfl (Nat.le_of_ble_eq_true rfl) rfl dX7_one_22 ?_
    refine V.aload_n (pc := 25) 2 hC dX7_one_25 rfl ?_
    refine V.iconst (pc := 26) 2 hC dX7_one_26 (by decide) ?_
    refine V.iload_n (pc := 27) 0 hC dX7_one_27 rfl ?_
    refine V.callV0 (pc := 28) (as := [.int 2, .int (namS u (lkS (μ 0) p))]) hC (c_X7_step μ (va_up ν 13 (fun _ => (ν 13 0) + 1)) 2 (namS u (lkS (μ 0) p)) (isN.mk hP.2.1 (by omega) (by omega))) mu_X7_step ml_X7_139 (by decide) ⟨0, 7, TX7, 20, _, rfl, gm_0⟩ rfl (Nat.le_of_ble_eq_true rfl) dX7_one_28 ?_
    rintro _ ⟨f28_0, f28_1, i28_2⟩ ⟨rfl, hu28_0⟩
    have hu28_0 : StF ((ν 8)) ((ν 9)) ((ν 12 0)) 2 (namS u (lkS (μ 0) p)) f28_0 f28_1 i28_2 := hu28_0
    show V X (wM k b μ (va_up (va_up (va_up (va_up ν 13 (fun _ => (ν 13 0) + 1)) 8 f28_0) 9 f28_1) 12 (fun _ => i28_2))) [(2, .int (namS u (lkS (μ 0) p))), (1, .int (lkS (μ 0) p)), (0, .ref (b 20))] [] 31
    refine V.goto (pc := 31) 58 hC dX7_one_31 (by decide) ?_
    exact hR (f28_0, f28_1, i28_2, (ν 13 0) + 1, ν 14 0, ν 15 0) _ _ dX7_one_58 ⟨rfl, by rw [show (sgS (lkS (μ 0)) u 1) p = (true, p + 1, [(2, (namS u (lkS (μ 0) p)))]) from if_pos (i_nlt c_12)]; exact PO_one hP.2.1 (by have := tok_lt lk_tok (nam_b (i_nlt c_12)).2; omega) hu28_0 (nadd hP.2.2.1 (nl 1)) hP.2.2.2.1 hP.2.2.2.2.1⟩
set_option maxHeartbeats 4000000 in
set_option maxRecDepth 100000 in
theorem c_X7_times_1 {l : Launch} {D : va_G} {k : Nat → ClassId} {g b : Nat → Nat} (μ ν : St) (u : Int32) (L p : Nat) (hI : Inv (μ 0)) (hP : PIn (nN (μ 0 5)) (ν 12 0) (ν 13 0) (ν 14 0) (ν 15 0) (ν 16 0) u 4 L p) : Ct l D k g yX7_times cX7_times 2 none 10 212 [.ref (b 20)] (S := Rw × Rw × Int32 × Int32 × Int32 × Int32) (wM k b μ ν) (fun uu => wM k b μ (va_up (va_up (va_up (va_up (va_up (va_up ν 8 uu.1) 9 uu.2.1) 12 (fun _ => uu.2.2.1)) 13 (fun _ => uu.2.2.2.1)) 14 (fun _ => uu.2.2.2.2.1)) 15 (fun _ => uu.2.2.2.2.2))) (fun vv uu => vv = none ∧ POut 4 (ν 8) (ν 9) L ((lvS (lkS (μ 0)) (sgS (lkS (μ 0)) u 1) 1) p) uu.1 uu.2.1 uu.2.2.1 uu.2.2.2.1 uu.2.2.2.2.1 uu.2.2.2.2.2) := by
  refine Ct.ofV RX7 rfl (by decide +kernel) (Nat.le_of_ble_eq_true rfl) (fun X hC hR => ?_)
  have hb60 := hI.bb; have hle := hP.2.2.2.2.2
  show V X (wM k b μ ν) [(0, .ref (b 20))] [] 0
  refine V.aload_n (pc := 0) 0 hC dX7_times_0 rfl ?_
  refine V.callV0 (pc := 1) (as := []) hC (c_X7_one_1 μ ν u L p hI hP) mu_X7_one ml_X7_146 (by decide) ⟨0, 7, TX7, 20, _, rfl, gm_0⟩ rfl (Nat.le_of_ble_eq_true rfl) dX7_times_1 ?_
  rintro _ ⟨f1_0, f1_1, i1_2, i1_3, i1_4, i1_5⟩ ⟨rfl, hu1_0⟩
  have hu1_0 : POut 4 (ν 8) (ν 9) L ((sgS (lkS (μ 0)) u 1) p) f1_0 f1_1 i1_2 i1_3 i1_4 i1_5 := hu1_0
  show V X (wM k b μ (va_up (va_up (va_up (va_up (va_up (va_up ν 8 f1_0) 9 f1_1) 12 (fun _ => i1_2)) 13 (fun _ => i1_3)) 14 (fun _ => i1_4)) 15 (fun _ => i1_5))) [(0, .ref (b 20))] [] 4
  have loop_4 : ∀ (n : Nat) (x : Res) (f8 f9 : Rw) (i12 i13 i14 i15 : Int32), GR (nN (μ 0 5)) p x → POut 4 (ν 8) (ν 9) L x f8 f9 i12 i13 i14 i15 → 60 ≤ n + x.2.1 → (lvS (lkS (μ 0)) (sgS (lkS (μ 0)) u 1) 1) p = lpS (lkS (μ 0)) (sgS (lkS (μ 0)) u 1) 4 n x → V X (wM k b μ (va_up (va_up (va_up (va_up (va_up (va_up ν 8 f8) 9 f9) 12 (fun _ => i12)) 13 (fun _ => i13)) 14 (fun _ => i14)) 15 (fun _ => i15))) [(0, .ref (b 20))] [] 4 := by
    intro n
    induction n with
    | zero =>
      intro x f8 f9 i12 i13 i14 i15 hg hx hi hv
      have hxb := hg.2.1
      have hz : lkS (μ 0) x.2.1 = -1 := lk_tok x.2.1 (by omega)
      refine V.aload_n (pc := 4) 0 hC dX7_times_4 rfl ?_
      refine V.get (pc := 5) (v := .int i15) hC cf_X7 0 15 fl_X7_135 (by decide) gm_0 rfl dX7_times_5 ?_
      refine V.eqi (y := bdS x) (hx.2.2.1) ?_
      refine V.if_ne (pc := 8) 66 hC dX7_times_8 (by decide) (fun c_8 => ?_) (fun c_8 => ?_)
      · exact hR (f8, f9, i12, i13, i14, i15) _ _ dX7_times_66 ⟨rfl, by rw [show (lvS (lkS (μ 0)) (sgS (lkS (μ 0)) u 1) 1) p = x from hv.trans (lp_no (fun q => bd_1 c_8 q.1))]; exact hx⟩
      · refine V.aload_n (pc := 11) 0 hC dX7_times_11 rfl ?_
        refine V.callV0 (pc := 12) (as := []) hC (c_X7_look μ (va_up (va_up (va_up (va_up (va_up (va_up ν 8 f8) 9 f9) 12 (fun _ => i12)) 13 (fun _ => i13)) 14 (fun _ => i14)) 15 (fun _ => i15)) x.2.1 hI hx.1 (by omega)) mu_X7_look ml_X7_131 (by decide) ⟨0, 7, TX7, 20, _, rfl, gm_0⟩ rfl (Nat.le_of_ble_eq_true rfl) dX7_times_12 ?_
        rintro _ _ rfl
        show V X (wM k b μ (va_up (va_up (va_up (va_up (va_up (va_up ν 8 f8) 9 f9) 12 (fun _ => i12)) 13 (fun _ => i13)) 14 (fun _ => i14)) 15 (fun _ => i15))) [(0, .ref (b 20))] [.int (lkS (μ 0) x.2.1)] 15
        refine V.bipush (pc := 15) 42 hC dX7_times_15 (by decide) ?_
        refine V.icmp_eq (pc := 17) 38 hC dX7_times_17 (by decide) (fun c_17 => ?_) (fun c_17 => ?_)
        · exact absurd c_17 (by rw [hz]; decide)
        · refine V.aload_n (pc := 20) 0 hC dX7_times_20 rfl ?_
          refine V.callV0 (pc := 21) (as := []) hC (c_X7_look μ (va_up (va_up (va_up (va_up (va_up (va_up ν 8 f8) 9 f9) 12 (fun _ => i12)) 13 (fun _ => i13)) 14 (fun _ => i14)) 15 (fun _ => i15)) x.2.1 hI hx.1 (by omega)) mu_X7_look ml_X7_131 (by decide) ⟨0, 7, TX7, 20, _, rfl, gm_0⟩ rfl (Nat.le_of_ble_eq_true rfl) dX7_times_21 ?_
          rintro _ _ rfl
          show V X (wM k b μ (va_up (va_up (va_up (va_up (va_up (va_up ν 8 f8) 9 f9) 12 (fun _ => i12)) 13 (fun _ => i13)) 14 (fun _ => i14)) 15 (fun _ => i15))) [(0, .ref (b 20))] [.int (lkS (μ 0) x.2.1)] 24
          refine V.bipush (pc := 24) 47 hC dX7_times_24 (by decide) ?_
          refine V.icmp_eq (pc := 26) 38 hC dX7_times_26 (by decide) (fun c_26 => ?_) (fun c_26 => ?_)
          · exact absurd c_26 (by rw [hz]; decide)
          · refine V.aload_n (pc := 29) 0 hC dX7_times_29 rfl ?_
            refine V.callV0 (pc := 30) (as := []) hC (c_X7_look μ (va_up (va_up (va_up (va_up (va_up (va_up ν 8 f8) 9 f9) 12 (fun _ => i12)) 13 (fun _ => i13)) 14 (fun _ => i14)) 15 (fun _ => i15)) x.2.1 hI hx.1 (by omega)) mu_X7_look ml_X7_131 (by decide) ⟨0, 7, TX7, 20, _, rfl, gm_0⟩ rfl (Nat.le_of_ble_eq_true rfl) dX7_times_30 ?_
            rintro _ _ rfl
            show V X (wM k b μ (va_up (va_up (va_up (va_up (va_up (va_up ν 8 f8) 9 f9) 12 (fun _ => i12)) 13 (fun _ => i13)) 14 (fun _ => i14)) 15 (fun _ => i15))) [(0, .ref (b 20))] [.int (lkS (μ 0) x.2.1)] 33
            refine V.bipush (pc := 33) 37 hC dX7_times_33 (by decide) ?_
            refine V.icmp_ne (pc := 35) 66 hC dX7_times_35 (by decide) (fun c_35 => ?_) (fun c_35 => ?_)
            · exact hR (f8, f9, i12, i13, i14, i15) _ _ dX7_times_66 ⟨rfl, by rw [show (lvS (lkS (μ 0)) (sgS (lkS (μ 0)) u 1) 1) p = x from hv.trans (lp_no (fun q => (rk_4.mp q.2).elim c_17 (fun q => q.elim c_26 c_35)))]; exact hx⟩
            · exact absurd c_35 (by rw [hz]; decide)
    | succ n ih =>
      intro x f8 f9 i12 i13 i14 i15 hg hx hi hv
      have hxb := hg.2.1
      refine V.aload_n (pc := 4) 0 hC dX7_times_4 rfl ?_
      refine V.get (pc := 5) (v := .int i15) hC cf_X7 0 15 fl_X7_135 (by decide) gm_0 rfl dX7_times_5 ?_
      refine V.eqi (y := bdS x) (hx.2.2.1) ?_
      refine V.if_ne (pc := 8) 66 hC dX7_times_8 (by decide) (fun c_8 => ?_) (fun c_8 => ?_)
      · exact hR (f8, f9, i12, i13, i14, i15) _ _ dX7_times_66 ⟨rfl, by rw [show (lvS (lkS (μ 0)) (sgS (lkS (μ 0)) u 1) 1) p = x from hv.trans (lp_no (fun q => bd_1 c_8 q.1))]; exact hx⟩
      · refine V.aload_n (pc := 11) 0 hC dX7_times_11 rfl ?_
        refine V.callV0 (pc := 12) (as := []) hC (c_X7_look μ (va_up (va_up (va_up (va_up (va_up (va_up ν 8 f8) 9 f9) 12 (fun _ => i12)) 13 (fun _ => i13)) 14 (fun _ => i14)) 15 (fun _ => i15)) x.2.1 hI hx.1 (by omega)) mu_X7_look ml_X7_131 (by decide) ⟨0, 7, TX7, 20, _, rfl, gm_0⟩ rfl (Nat.le_of_ble_eq_true rfl) dX7_times_12 ?_
        rintro _ _ rfl
        show V X (wM k b μ (va_up (va_up (va_up (va_up (va_up (va_up ν 8 f8) 9 f9) 12 (fun _ => i12)) 13 (fun _ => i13)) 14 (fun _ => i14)) 15 (fun _ => i15))) [(0, .ref (b 20))] [.int (lkS (μ 0) x.2.1)] 15
        refine V.bipush (pc := 15) 42 hC dX7_times_15 (by decide) ?_
        refine V.icmp_eq (pc := 17) 38 hC dX7_times_17 (by decide) (fun c_17 => ?_) (fun c_17 => ?_)
        · have hok := bd_0 c_8
          have hgx := hg.2.2 hok
          have hrk : rkS (lkS (μ 0) x.2.1) = 4 := rk_4.mpr (Or.inl c_17)
          have hlt : x.2.1 < nN (μ 0 5) := tok_lt lk_tok (rk_op hrk (by omega)).2
          have hgy := (sg_g (u := u) (lk_tok (ρ := μ 0)) 1) (x.2.1 + 1) hlt
          have hgb := hg.2.1
          refine V.aload_n (pc := 38) 0 hC dX7_times_38 rfl ?_
          refine V.callV0 (pc := 39) (as := []) hC (c_X7_look μ (va_up (va_up (va_up (va_up (va_up (va_up ν 8 f8) 9 f9) 12 (fun _ => i12)) 13 (fun _ => i13)) 14 (fun _ => i14)) 15 (fun _ => i15)) x.2.1 hI hx.1 (by omega)) mu_X7_look ml_X7_131 (by decide) ⟨0, 7, TX7, 20, _, rfl, gm_0⟩ rfl (Nat.le_of_ble_eq_true rfl) dX7_times_39 ?_
          rintro _ _ rfl
          show V X (wM k b μ (va_up (va_up (va_up (va_up (va_up (va_up ν 8 f8) 9 f9) 12 (fun _ => i12)) 13 (fun _ => i13)) 14 (fun _ => i14)) 15 (fun _ => i15))) [(0, .ref (b 20))] [.int (lkS (μ 0) x.2.1)] 42
          refine V.istore_n (pc := 42) [(1, .int (lkS (μ 0) x.2.1)), (0, .ref (b 20))] hC dX7_times_42 (by decide) rfl ?_
          refine V.aload_n (pc := 43) 1 hC dX7_times_43 rfl ?_
          refine V.dup (pc := 44) hC dX7_times_44 rfl ?_
          refine V.get (pc := 45) (v := .int i13) hC cf_X7 0 13 fl_X7_121 (by decide) gm_0 rfl dX7_times_45 ?_
          refine V.iconst (pc := 48) 1 hC dX7_times_48 (by decide) ?_
          refine V.iadd (pc := 49) hC dX7_times_49 ?_
          refine V.put (pc := 50) (v := .int (i13 + 1)) hC cf_X7 0 13 (wM k b μ (va_up (va_up (va_up (va_up (va_up (va_up ν 8 f8) 9 f9) 12 (fun _ => i12)) 13 (fun _ => i13 + 1)) 14 (fun _ => i14)) 15 (fun _ => i15))) fl_X7_121 (by decide) gm_0 rfl rfl rfl (Nat.le_of_ble_eq_true rfl) rfl dX7_times_50 ?_
          refine V.aload_n (pc := 53) 1 hC dX7_times_53 rfl ?_
          refine V.callV0 (pc := 54) (as := []) hC (c_X7_one_1 μ (va_up (va_up (va_up (va_up (va_up (va_up ν 8 f8) 9 f9) 12 (fun _ => i12)) 13 (fun _ => i13 + 1)) 14 (fun _ => i14)) 15 (fun _ => i15)) u (L + x.2.2.length) (x.2.1 + 1) hI ⟨hP.1, (hx.2.2.2.2 hok).1, nadd hx.1 (nl 1), hx.2.1, hx.2.2.1.trans c_8, by omega, hlt⟩) mu_X7_one ml_X7_146 (by decide) ⟨0, 7, TX7, 20, _, rfl, gm_0⟩ rfl (Nat.le_of_ble_eq_true rfl) dX7_times_54 ?_
          rintro _ ⟨f54_0, f54_1, i54_2, i54_3, i54_4, i54_5⟩ ⟨rfl, hu54_0⟩
          have hu54_0 : POut 4 (f8) (f9) (L + x.2.2.length) ((sgS (lkS (μ 0)) u 1) (x.2.1 + 1)) f54_0 f54_1 i54_2 i54_3 i54_4 i54_5 := hu54_0
          show V X (wM k b μ (va_up (va_up (va_up (va_up (va_up (va_up ν 8 f54_0) 9 f54_1) 12 (fun _ => i54_2)) 13 (fun _ => i54_3)) 14 (fun _ => i54_4)) 15 (fun _ => i54_5))) [(1, .int (lkS (μ 0) x.2.1)), (0, .ref (b 20))] [] 57
          refine V.aload_n (pc := 57) 1 hC dX7_times_57 rfl ?_
          refine V.iload_n (pc := 58) 0 hC dX7_times_58 rfl ?_
          refine V.iconst (pc := 59) 0 hC dX7_times_59 (by decide) ?_
          refine V.callV0 (pc := 60) (as := [.int (lkS (μ 0) x.2.1), .int 0]) hC (c_X7_step μ (va_up (va_up (va_up (va_up (va_up (va_up ν 8 f54_0) 9 f54_1) 12 (fun _ => i54_2)) 13 (fun _ => i54_3)) 14 (fun _ => i54_4)) 15 (fun _ => i54_5)) (lkS (μ 0) x.2.1) 0 hu54_0.2.2.2.1) mu_X7_step ml_X7_139 (by decide) ⟨0, 7, TX7, 20, _, rfl, gm_0⟩ rfl (Nat.le_of_ble_eq_true rfl) dX7_times_60 ?_
          rintro _ ⟨f60_0, f60_1, i60_2⟩ ⟨rfl, hu60_0⟩
          have hu60_0 : StF (f54_0) (f54_1) (i54_2) (lkS (μ 0) x.2.1) 0 f60_0 f60_1 i60_2 := hu60_0
          show V X (wM k b μ (va_up (va_up (va_up (va_up (va_up (va_up ν 8 f60_0) 9 f60_1) 12 (fun _ => i60_2)) 13 (fun _ => i54_3)) 14 (fun _ => i54_4)) 15 (fun _ => i54_5))) [(1, .int (lkS (μ 0) x.2.1)), (0, .ref (b 20))] [] 63
          refine V.goto (pc := 63) 4 hC dX7_times_63 (by decide) ?_
          exact V.sub [1] rfl (ih (appS x ((sgS (lkS (μ 0)) u 1) (x.2.1 + 1)) (lkS (μ 0) x.2.1)) f60_0 f60_1 i60_2 i54_3 i54_4 i54_5 (hg.app hok hgy (rk_op hrk (by omega)).1) (PO_app hx hok hu54_0 hu60_0 (fun q => by have := hgy.2.2 q; have := hgy.2.1; omega)) (by have := hgy.1; show 60 ≤ n + ((sgS (lkS (μ 0)) u 1) (x.2.1 + 1)).2.1; omega) (hv.trans (lp_yes ⟨hok, hrk⟩)))
        · refine V.aload_n (pc := 20) 0 hC dX7_times_20 rfl ?_
          refine V.callV0 (pc := 21) (as := []) hC (c_X7_look μ (va_up (va_up (va_up (va_up (va_up (va_up ν 8 f8) 9 f9) 12 (fun _ => i12)) 13 (fun _ => i13)) 14 (fun _ => i14)) 15 (fun _ => i15)) x.2.1 hI hx.1 (by omega)) mu_X7_look ml_X7_131 (by decide) ⟨0, 7, TX7, 20, _, rfl, gm_0⟩ rfl (Nat.le_of_ble_eq_true rfl) dX7_times_21 ?_
          rintro _ _ rfl
          show V X (wM k b μ (va_up (va_up (va_up (va_up (va_up (va_up ν 8 f8) 9 f9) 12 (fun _ => i12)) 13 (fun _ => i13)) 14 (fun _ => i14)) 15 (fun _ => i15))) [(0, .ref (b 20))] [.int (lkS (μ 0) x.2.1)] 24
          refine V.bipush (pc := 24) 47 hC dX7_times_24 (by decide) ?_
          refine V.icmp_eq (pc := 26) 38 hC dX7_times_26 (by decide) (fun c_26 => ?_) (fun c_26 => ?_)
          · have hok := bd_0 c_8
            have hgx := hg.2.2 hok
            have hrk : rkS (lkS (μ 0) x.2.1) = 4 := rk_4.mpr (Or.inr (Or.inl c_26))
            have hlt : x.2.1 < nN (μ 0 5) := tok_lt lk_tok (rk_op hrk (by omega)).2
            have hgy := (sg_g (u := u) (lk_tok (ρ := μ 0)) 1) (x.2.1 + 1) hlt
            have hgb := hg.2.1
            refine V.aload_n (pc := 38) 0 hC dX7_times_38 rfl ?_
            refine V.callV0 (pc := 39) (as := []) hC (c_X7_look μ (va_up (va_up (va_up (va_up (va_up (va_up ν 8 f8) 9 f9) 12 (fun _ => i12)) 13 (fun _ => i13)) 14 (fun _ => i14)) 15 (fun _ => i15)) x.2.1 hI hx.1 (by omega)) mu_X7_look ml_X7_131 (by decide) ⟨0, 7, TX7, 20, _, rfl, gm_0⟩ rfl (Nat.le_of_ble_eq_true rfl) dX7_times_39 ?_
            rintro _ _ rfl
            show V X (wM k b μ (va_up (va_up (va_up (va_up (va_up (va_up ν 8 f8) 9 f9) 12 (fun _ => i12)) 13 (fun _ => i13)) 14 (fun _ => i14)) 15 (fun _ => i15))) [(0, .ref (b 20))] [.int (lkS (μ 0) x.2.1)] 42
            refine V.istore_n (pc := 42) [(1, .int (lkS (μ 0) x.2.1)), (0, .ref (b 20))] hC dX7_times_42 (by decide) rfl ?_
            refine V.aload_n (pc := 43) 1 hC dX7_times_43 rfl ?_
            refine V.dup (pc := 44) hC dX7_times_44 rfl ?_
            refine V.get (pc := 45) (v := .int i13) hC cf_X7 0 13 fl_X7_121 (by decide) gm_0 rfl dX7_times_45 ?_
            refine V.iconst (pc := 48) 1 hC dX7_times_48 (by decide) ?_
            refine V.iadd (pc := 49) hC dX7_times_49 ?_
            refine V.put (pc := 50) (v := .int (i13 + 1)) hC cf_X7 0 13 (wM k b μ (va_up (va_up (va_up (va_up (va_up (va_up ν 8 f8) 9 f9) 12 (fun _ => i12)) 13 (fun _ => i13 + 1)) 14 (fun _ => i14)) 15 (fun _ => i15))) fl_X7_121 (by decide) gm_0 rfl rfl rfl (Nat.le_of_ble_eq_true rfl) rfl dX7_times_50 ?_
            refine V.aload_n (pc := 53) 1 hC dX7_times_53 rfl ?_
            refine V.callV0 (pc := 54) (as := []) hC (c_X7_one_1 μ (va_up (va_up (va_up (va_up (va_up (va_up ν 8 f8) 9 f9) 12 (fun _ => i12)) 13 (fun _ => i13 + 1)) 14 (fun _ => i14)) 15 (fun _ => i15)) u (L + x.2.2.length) (x.2.1 + 1) hI ⟨hP.1, (hx.2.2.2.2 hok).1, nadd hx.1 (nl 1), hx.2.1, hx.2.2.1.trans c_8, by omega, hlt⟩) mu_X7_one ml_X7_146 (by decide) ⟨0, 7, TX7, 20, _, rfl, gm_0⟩ rfl (Nat.le_of_ble_eq_true rfl) dX7_times_54 ?_
            rintro _ ⟨f54_0, f54_1, i54_2, i54_3, i54_4, i54_5⟩ ⟨rfl, hu54_0⟩
            have hu54_0 : POut 4 (f8) (f9) (L + x.2.2.length) ((sgS (lkS (μ 0)) u 1) (x.2.1 + 1)) f54_0 f54_1 i54_2 i54_3 i54_4 i54_5 := hu54_0
            show V X (wM k b μ (va_up (va_up (va_up (va_up (va_up (va_up ν 8 f54_0) 9 f54_1) 12 (fun _ => i54_2)) 13 (fun _ => i54_3)) 14 (fun _ => i54_4)) 15 (fun _ => i54_5))) [(1, .int (lkS (μ 0) x.2.1)), (0, .ref (b 20))] [] 57
            refine V.aload_n (pc := 57) 1 hC dX7_times_57 rfl ?_
            refine V.iload_n (pc := 58) 0 hC dX7_times_58 rfl ?_
            refine V.iconst (pc := 59) 0 hC dX7_times_59 (by decide) ?_
            refine V.callV0 (pc := 60) (as := [.int (lkS (μ 0) x.2.1), .int 0]) hC (c_X7_step μ (va_up (va_up (va_up (va_up (va_up (va_up ν 8 f54_0) 9 f54_1) 12 (fun _ => i54_2)) 13 (fun _ => i54_3)) 14 (fun _ => i54_4)) 15 (fun _ => i54_5)) (lkS (μ 0) x.2.1) 0 hu54_0.2.2.2.1) mu_X7_step ml_X7_139 (by decide) ⟨0, 7, TX7, 20, _, rfl, gm_0⟩ rfl (Nat.le_of_ble_eq_true rfl) dX7_times_60 ?_
            rintro _ ⟨f60_0, f60_1, i60_2⟩ ⟨rfl, hu60_0⟩
            have hu60_0 : StF (f54_0) (f54_1) (i54_2) (lkS (μ 0) x.2.1) 0 f60_0 f60_1 i60_2 := hu60_0
            show V X (wM k b μ (va_up (va_up (va_up (va_up (va_up (va_up ν 8 f60_0) 9 f60_1) 12 (fun _ => i60_2)) 13 (fun _ => i54_3)) 14 (fun _ => i54_4)) 15 (fun _ => i54_5))) [(1, .int (lkS (μ 0) x.2.1)), (0, .ref (b 20))] [] 63
            refine V.goto (pc := 63) 4 hC dX7_times_63 (by decide) ?_
            exact V.sub [1] rfl (ih (appS x ((sgS (lkS (μ 0)) u 1) (x.2.1 + 1)) (lkS (μ 0) x.2.1)) f60_0 f60_1 i60_2 i54_3 i54_4 i54_5 (hg.app hok hgy (rk_op hrk (by omega)).1) (PO_app hx hok hu54_0 hu60_0 (fun q => by have := hgy.2.2 q; have := hgy.2.1; omega)) (by have := hgy.1; show 60 ≤ n + ((sgS (lkS (μ 0)) u 1) (x.2.1 + 1)).2.1; omega) (hv.trans (lp_yes ⟨hok, hrk⟩)))
          · refine V.aload_n (pc := 29) 0 hC dX7_times_29 rfl ?_
            refine V.callV0 (pc := 30) (as := []) hC (c_X7_look μ (va_up (va_up (va_up (va_up (va_up (va_up ν 8 f8) 9 f9) 12 (fun _ => i12)) 13 (fun _ => i13)) 14 (fun _ => i14)) 15 (fun _ => i15)) x.2.1 hI hx.1 (by omega)) mu_X7_look ml_X7_131 (by decide) ⟨0, 7, TX7, 20, _, rfl, gm_0⟩ rfl (Nat.le_of_ble_eq_true rfl) dX7_times_30 ?_
            rintro _ _ rfl
            show V X (wM k b μ (va_up (va_up (va_up (va_up (va_up (va_up ν 8 f8) 9 f9) 12 (fun _ => i12)) 13 (fun _ => i13)) 14 (fun _ => i14)) 15 (fun _ => i15))) [(0, .ref (b 20))] [.int (lkS (μ 0) x.2.1)] 33
            refine V.bipush (pc := 33) 37 hC dX7_times_33 (by decide) ?_
            refine V.icmp_ne (pc := 35) 66 hC dX7_times_35 (by decide) (fun c_35 => ?_) (fun c_35 => ?_)
            · exact hR (f8, f9, i12, i13, i14, i15) _ _ dX7_times_66 ⟨rfl, by rw [show (lvS (lkS (μ 0)) (sgS (lkS (μ 0)) u 1) 1) p = x from hv.trans (lp_no (fun q => (rk_4.mp q.2).elim c_17 (fun q => q.elim c_26 c_35)))]; exact hx⟩
            · have hok := bd_0 c_8
              have hgx := hg.2.2 hok
              have hrk : rkS (lkS (μ 0) x.2.1) = 4 := rk_4.mpr (Or.inr (Or.inr c_35))
              have hlt : x.2.1 < nN (μ 0 5) := tok_lt lk_tok (rk_op hrk (by omega)).2
              have hgy := (sg_g (u := u) (lk_tok (ρ := μ 0)) 1) (x.2.1 + 1) hlt
              have hgb := hg.2.1
              refine V.aload_n (pc := 38) 0 hC dX7_times_38 rfl ?_
              refine V.callV0 (pc := 39) (as := []) hC (c_X7_look μ (va_up (va_up (va_up (va_up (va_up (va_up ν 8 f8) 9 f9) 12 (fun _ => i12)) 13 (fun _ => i13)) 14 (fun _ => i14)) 15 (fun _ => i15)) x.2.1 hI hx.1 (by omega)) mu_X7_look ml_X7_131 (by decide) ⟨0, 7, TX7, 20, _, rfl, gm_0⟩ rfl (Nat.le_of_ble_eq_true rfl) dX7_times_39 ?_
              rintro _ _ rfl
              show V X (wM k b μ (va_up (va_up (va_up (va_up (va_up (va_up ν 8 f8) 9 f9) 12 (fun _ => i12)) 13 (fun _ => i13)) 14 (fun _ => i14)) 15 (fun _ => i15))) [(0, .ref (b 20))] [.int (lkS (μ 0) x.2.1)] 42
              refine V.istore_n (pc := 42) [(1, .int (lkS (μ 0) x.2.1)), (0, .ref (b 20))] hC dX7_times_42 (by decide) rfl ?_
              refine V.aload_n (pc := 43) 1 hC dX7_times_43 rfl ?_
              refine V.dup (pc := 44) hC dX7_times_44 rfl ?_
              refine V.get (pc := 45) (v := .int i13) hC cf_X7 0 13 fl_X7_121 (by decide) gm_0 rfl dX7_times_45 ?_
              refine V.iconst (pc := 48) 1 hC dX7_times_48 (by decide) ?_
              refine V.iadd (pc := 49) hC dX7_times_49 ?_
              refine V.put (pc := 50) (v := .int (i13 + 1)) hC cf_X7 0 13 (wM k b μ (va_up (va_up (va_up (va_up (va_up (va_up ν 8 f8) 9 f9) 12 (fun _ => i12)) 13 (fun _ => i13 + 1)) 14 (fun _ => i14)) 15 (fun _ => i15))) fl_X7_121 (by decide) gm_0 rfl rfl rfl (Nat.le_of_ble_eq_true rfl) rfl dX7_times_50 ?_
              refine V.aload_n (pc := 53) 1 hC dX7_times_53 rfl ?_
              refine V.callV0 (pc := 54) (as := []) hC (c_X7_one_1 μ (va_up (va_up (va_up (va_up (va_up (va_up ν 8 f8) 9 f9) 12 (fun _ => i12)) 13 (fun _ => i13 + 1)) 14 (fun _ => i14)) 15 (fun _ => i15)) u (L + x.2.2.length) (x.2.1 + 1) hI ⟨hP.1, (hx.2.2.2.2 hok).1, nadd hx.1 (nl 1), hx.2.1, hx.2.2.1.trans c_8, by omega, hlt⟩) mu_X7_one ml_X7_146 (by decide) ⟨0, 7, TX7, 20, _, rfl, gm_0⟩ rfl (Nat.le_of_ble_eq_true rfl) dX7_times_54 ?_
              rintro _ ⟨f54_0, f54_1, i54_2, i54_3, i54_4, i54_5⟩ ⟨rfl, hu54_0⟩
              have hu54_0 : POut 4 (f8) (f9) (L + x.2.2.length) ((sgS (lkS (μ 0)) u 1) (x.2.1 + 1)) f54_0 f54_1 i54_2 i54_3 i54_4 i54_5 := hu54_0
              show V X (wM k b μ (va_up (va_up (va_up (va_up (va_up (va_up ν 8 f54_0) 9 f54_1) 12 (fun _ => i54_2)) 13 (fun _ => i54_3)) 14 (fun _ => i54_4)) 15 (fun _ => i54_5))) [(1, .int (lkS (μ 0) x.2.1)), (0, .ref (b 20))] [] 57
              refine V.aload_n (pc := 57) 1 hC dX7_times_57 rfl ?_
              refine V.iload_n (pc := 58) 0 hC dX7_times_58 rfl ?_
              refine V.iconst (pc := 59) 0 hC dX7_times_59 (by decide) ?_
              refine V.callV0 (pc := 60) (as := [.int (lkS (μ 0) x.2.1), .int 0]) hC (c_X7_step μ (va_up (va_up (va_up (va_up (va_up (va_up ν 8 f54_0) 9 f54_1) 12 (fun _ => i54_2)) 13 (fun _ => i54_3)) 14 (fun _ => i54_4)) 15 (fun _ => i54_5)) (lkS (μ 0) x.2.1) 0 hu54_0.2.2.2.1) mu_X7_step ml_X7_139 (by decide) ⟨0, 7, TX7, 20, _, rfl, gm_0⟩ rfl (Nat.le_of_ble_eq_true rfl) dX7_times_60 ?_
              rintro _ ⟨f60_0, f60_1, i60_2⟩ ⟨rfl, hu60_0⟩
              have hu60_0 : StF (f54_0) (f54_1) (i54_2) (lkS (μ 0) x.2.1) 0 f60_0 f60_1 i60_2 := hu60_0
              show V X (wM k b μ (va_up (va_up (va_up (va_up (va_up (va_up ν 8 f60_0) 9 f60_1) 12 (fun _ => i60_2)) 13 (fun _ => i54_3)) 14 (fun _ => i54_4)) 15 (fun _ => i54_5))) [(1, .int (lkS (μ 0) x.2.1)), (0, .ref (b 20))] [] 63
              refine V.goto (pc := 63) 4 hC dX7_times_63 (by decide) ?_
              exact V.sub [1] rfl (ih (appS x ((sgS (lkS (μ 0)) u 1) (x.2.1 + 1)) (lkS (μ 0) x.2.1)) f60_0 f60_1 i60_2 i54_3 i54_4 i54_5 (hg.app hok hgy (rk_op hrk (by omega)).1) (PO_app hx hok hu54_0 hu60_0 (fun q => by have := hgy.2.2 q; have := hgy.2.1; omega)) (by have := hgy.1; show 60 ≤ n + ((sgS (lkS (μ 0)) u 1) (x.2.1 + 1)).2.1; omega) (hv.trans (lp_yes ⟨hok, hrk⟩)))
  exact V.sub [0] rfl (loop_4 60 ((sgS (lkS (μ 0)) u 1) p) f1_0 f1_1 i1_2 i1_3 i1_4 i1_5 ((sg_g (u := u) (lk_tok (ρ := μ 0)) 1) p (by omega)) hu1_0 (by omega) rfl)
set_option maxHeartbeats 4000000 in
set_option maxRecDepth 100000 in
theorem c_X7_sum_1 {l : Launch} {D : va_G} {k : Nat → ClassId} {g b : Nat → Nat} (μ ν : St) (u : Int32) (L p : Nat) (hI : Inv (μ 0)) (hP : PIn (nN (μ 0 5)) (ν 12 0) (ν 13 0) (ν 14 0) (ν 15 0) (ν 16 0) u 4 L p) : Ct l D k g yX7_sum cX7_sum 2 none 11 233 [.ref (b 20)] (S := Rw × Rw × Int32 × Int32 × Int32 × Int32) (wM k b μ ν) (fun uu => wM k b μ (va_up (va_up (va_up (va_up (va_up (va_up ν 8 uu.1) 9 uu.2.1) 12 (fun _ => uu.2.2.1)) 13 (fun _ => uu.2.2.2.1)) 14 (fun _ => uu.2.2.2.2.1)) 15 (fun _ => uu.2.2.2.2.2))) (fun vv uu => vv = none ∧ POut 4 (ν 8) (ν 9) L ((lvS (lkS (μ 0)) (sgS (lkS (μ 0)) u 1) 2) p) uu.1 uu.2.1 uu.2.2.1 uu.2.2.2.1 uu.2.2.2.2.1 uu.2.2.2.2.2) := by
  refine Ct.ofV RX7 rfl (by decide +kernel) (Nat.le_of_ble_eq_true rfl) (fun X hC hR => ?_)
  have hb60 := hI.bb; have hle := hP.2.2.2.2.2
  show V X (wM k b μ ν) [(0, .ref (b 20))] [] 0
  refine V.aload_n (pc := 0) 0 hC dX7_sum_0 rfl ?_
  refine V.callV0 (pc := 1) (as := []) hC (c_X7_times_1 μ ν u L p hI hP) mu_X7_times ml_X7_162 (by decide) ⟨0, 7, TX7, 20, _, rfl, gm_0⟩ rfl (Nat.le_of_ble_eq_true rfl) dX7_sum_1 ?_
  rintro _ ⟨f1_0, f1_1, i1_2, i1_3, i1_4, i1_5⟩ ⟨rfl, hu1_0⟩
  have hu1_0 : POut 4 (ν 8) (ν 9) L ((lvS (lkS (μ 0)) (sgS (lkS (μ 0)) u 1) 1) p) f1_0 f1_1 i1_2 i1_3 i1_4 i1_5 := hu1_0
  show V X (wM k b μ (va_up (va_up (va_up (va_up (va_up (va_up ν 8 f1_0) 9 f1_1) 12 (fun _ => i1_2)) 13 (fun _ => i1_3)) 14 (fun _ => i1_4)) 15 (fun _ => i1_5))) [(0, .ref (b 20))] [] 4
  have loop_4 : ∀ (n : Nat) (x : Res) (f8 f9 : Rw) (i12 i13 i14 i15 : Int32), GR (nN (μ 0 5)) p x → POut 4 (ν 8) (ν 9) L x f8 f9 i12 i13 i14 i15 → 60 ≤ n + x.2.1 → (lvS (lkS (μ 0)) (sgS (lkS (μ 0)) u 1) 2) p = lpS (lkS (μ 0)) (lvS (lkS (μ 0)) (sgS (lkS (μ 0)) u 1) 1) 3 n x → V X (wM k b μ (va_up (va_up (va_up (va_up (va_up (va_up ν 8 f8) 9 f9) 12 (fun _ => i12)) 13 (fun _ => i13)) 14 (fun _ => i14)) 15 (fun _ => i15))) [(0, .ref (b 20))] [] 4 := by
    intro n
    induction n with
    | zero =>
      intro x f8 f9 i12 i13 i14 i15 hg hx hi hv
      have hxb := hg.2.1
      have hz : lkS (μ 0) x.2.1 = -1 := lk_tok x.2.1 (by omega)
      refine V.aload_n (pc := 4) 0 hC dX7_sum_4 rfl ?_
      refine V.get (pc := 5) (v := .int i15) hC cf_X7 0 15 fl_X7_135 (by decide) gm_0 rfl dX7_sum_5 ?_
      refine V.eqi (y := bdS x) (hx.2.2.1) ?_
      refine V.if_ne (pc := 8) 57 hC dX7_sum_8 (by decide) (fun c_8 => ?_) (fun c_8 => ?_)
      · exact hR (f8, f9, i12, i13, i14, i15) _ _ dX7_sum_57 ⟨rfl, by rw [show (lvS (lkS (μ 0)) (sgS (lkS (μ 0)) u 1) 2) p = x from hv.trans (lp_no (fun q => bd_1 c_8 q.1))]; exact hx⟩
      · refine V.aload_n (pc := 11) 0 hC dX7_sum_11 rfl ?_
        refine V.callV0 (pc := 12) (as := []) hC (c_X7_look μ (va_up (va_up (va_up (va_up (va_up (va_up ν 8 f8) 9 f9) 12 (fun _ => i12)) 13 (fun _ => i13)) 14 (fun _ => i14)) 15 (fun _ => i15)) x.2.1 hI hx.1 (by omega)) mu_X7_look ml_X7_131 (by decide) ⟨0, 7, TX7, 20, _, rfl, gm_0⟩ rfl (Nat.le_of_ble_eq_true rfl) dX7_sum_12 ?_
        rintro _ _ rfl
        show V X (wM k b μ (va_up (va_up (va_up (va_up (va_up (va_up ν 8 f8) 9 f9) 12 (fun _ => i12)) 13 (fun _ => i13)) 14 (fun _ => i14)) 15 (fun _ => i15))) [(0, .ref (b 20))] [.int (lkS (μ 0) x.2.1)] 15
        refine V.bipush (pc := 15) 43 hC dX7_sum_15 (by decide) ?_
        refine V.icmp_eq (pc := 17) 29 hC dX7_sum_17 (by decide) (fun c_17 => ?_) (fun c_17 => ?_)
        · exact absurd c_17 (by rw [hz]; decide)
        · refine V.aload_n (pc := 20) 0 hC dX7_sum_20 rfl ?_
          refine V.callV0 (pc := 21) (as := []) hC (c_X7_look μ (va_up (va_up (va_up (va_up (va_up (va_up ν 8 f8) 9 f9) 12 (fun _ => i12)) 13 (fun _ => i13)) 14 (fun _ => i14)) 15 (fun _ => i15)) x.2.1 hI hx.1 (by omega)) mu_X7_look ml_X7_131 (by decide) ⟨0, 7, TX7, 20, _, rfl, gm_0⟩ rfl (Nat.le_of_ble_eq_true rfl) dX7_sum_21 ?_
          rintro _ _ rfl
          show V X (wM k b μ (va_up (va_up (va_up (va_up (va_up (va_up ν 8 f8) 9 f9) 12 (fun _ => i12)) 13 (fun _ => i13)) 14 (fun _ => i14)) 15 (fun _ => i15))) [(0, .ref (b 20))] [.int (lkS (μ 0) x.2.1)] 24
          refine V.bipush (pc := 24) 45 hC dX7_sum_24 (by decide) ?_
          refine V.icmp_ne (pc := 26) 57 hC dX7_sum_26 (by decide) (fun c_26 => ?_) (fun c_26 => ?_)
          · exact hR (f8, f9, i12, i13, i14, i15) _ _ dX7_sum_57 ⟨rfl, by rw [show (lvS (lkS (μ 0)) (sgS (lkS (μ 0)) u 1) 2) p = x from hv.trans (lp_no (fun q => (rk_3.mp q.2).elim c_17 c_26))]; exact hx⟩
          · exact absurd c_26 (by rw [hz]; decide)
    | succ n ih =>
      intro x f8 f9 i12 i13 i14 i15 hg hx hi hv
      have hxb := hg.2.1
      refine V.aload_n (pc := 4) 0 hC dX7_sum_4 rfl ?_
      refine V.get (pc := 5) (v := .int i15) hC cf_X7 0 15 fl_X7_135 (by decide) gm_0 rfl dX7_sum_5 ?_
      refine V.eqi (y := bdS x) (hx.2.2.1) ?_
      refine V.if_ne (pc := 8) 57 hC dX7_sum_8 (by decide) (fun c_8 => ?_) (fun c_8 => ?_)
      · exact hR (f8, f9, i12, i13, i14, i15) _ _ dX7_sum_57 ⟨rfl, by rw [show (lvS (lkS (μ 0)) (sgS (lkS (μ 0)) u 1) 2) p = x from hv.trans (lp_no (fun q => bd_1 c_8 q.1))]; exact hx⟩
      · refine V.aload_n (pc := 11) 0 hC dX7_sum_11 rfl ?_
        refine V.callV0 (pc := 12) (as := []) hC (c_X7_look μ (va_up (va_up (va_up (va_up (va_up (va_up ν 8 f8) 9 f9) 12 (fun _ => i12)) 13 (fun _ => i13)) 14 (fun _ => i14)) 15 (fun _ => i15)) x.2.1 hI hx.1 (by omega)) mu_X7_look ml_X7_131 (by decide) ⟨0, 7, TX7, 20, _, rfl, gm_0⟩ rfl (Nat.le_of_ble_eq_true rfl) dX7_sum_12 ?_
        rintro _ _ rfl
        show V X (wM k b μ (va_up (va_up (va_up (va_up (va_up (va_up ν 8 f8) 9 f9) 12 (fun _ => i12)) 13 (fun _ => i13)) 14 (fun _ => i14)) 15 (fun _ => i15))) [(0, .ref (b 20))] [.int (lkS (μ 0) x.2.1)] 15
        refine V.bipush (pc := 15) 43 hC dX7_sum_15 (by decide) ?_
        refine V.icmp_eq (pc := 17) 29 hC dX7_sum_17 (by decide) (fun c_17 => ?_) (fun c_17 => ?_)
        · have hok := bd_0 c_8
          have hgx := hg.2.2 hok
          have hrk : rkS (lkS (μ 0) x.2.1) = 3 := rk_3.mpr (Or.inl c_17)
          have hlt : x.2.1 < nN (μ 0 5) := tok_lt lk_tok (rk_op hrk (by omega)).2
          have hgy := (lv_g (lk_tok (ρ := μ 0)) (sg_g (u := u) (lk_tok (ρ := μ 0)) 1) 1) (x.2.1 + 1) hlt
          have hgb := hg.2.1
          refine V.aload_n (pc := 29) 0 hC dX7_sum_29 rfl ?_
          refine V.callV0 (pc := 30) (as := []) hC (c_X7_look μ (va_up (va_up (va_up (va_up (va_up (va_up ν 8 f8) 9 f9) 12 (fun _ => i12)) 13 (fun _ => i13)) 14 (fun _ => i14)) 15 (fun _ => i15)) x.2.1 hI hx.1 (by omega)) mu_X7_look ml_X7_131 (by decide) ⟨0, 7, TX7, 20, _, rfl, gm_0⟩ rfl (Nat.le_of_ble_eq_true rfl) dX7_sum_30 ?_
          rintro _ _ rfl
          show V X (wM k b μ (va_up (va_up (va_up (va_up (va_up (va_up ν 8 f8) 9 f9) 12 (fun _ => i12)) 13 (fun _ => i13)) 14 (fun _ => i14)) 15 (fun _ => i15))) [(0, .ref (b 20))] [.int (lkS (μ 0) x.2.1)] 33
          refine V.istore_n (pc := 33) [(1, .int (lkS (μ 0) x.2.1)), (0, .ref (b 20))] hC dX7_sum_33 (by decide) rfl ?_
          refine V.aload_n (pc := 34) 1 hC dX7_sum_34 rfl ?_
          refine V.dup (pc := 35) hC dX7_sum_35 rfl ?_
          refine V.get (pc := 36) (v := .int i13) hC cf_X7 0 13 fl_X7_121 (by decide) gm_0 rfl dX7_sum_36 ?_
          refine V.iconst (pc := 39) 1 hC dX7_sum_39 (by decide) ?_
          refine V.iadd (pc := 40) hC dX7_sum_40 ?_
          refine V.put (pc := 41) (v := .int (i13 + 1)) hC cf_X7 0 13 (wM k b μ (va_up (va_up (va_up (va_up (va_up (va_up ν 8 f8) 9 f9) 12 (fun _ => i12)) 13 (fun _ => i13 + 1)) 14 (fun _ => i14)) 15 (fun _ => i15))) fl_X7_121 (by decide) gm_0 rfl rfl rfl (Nat.le_of_ble_eq_true rfl) rfl dX7_sum_41 ?_
          refine V.aload_n (pc := 44) 1 hC dX7_sum_44 rfl ?_
          refine V.callV0 (pc := 45) (as := []) hC (c_X7_times_1 μ (va_up (va_up (va_up (va_up (va_up (va_up ν 8 f8) 9 f9) 12 (fun _ => i12)) 13 (fun _ => i13 + 1)) 14 (fun _ => i14)) 15 (fun _ => i15)) u (L + x.2.2.length) (x.2.1 + 1) hI ⟨hP.1, (hx.2.2.2.2 hok).1, nadd hx.1 (nl 1), hx.2.1, hx.2.2.1.trans c_8, by omega, hlt⟩) mu_X7_times ml_X7_162 (by decide) ⟨0, 7, TX7, 20, _, rfl, gm_0⟩ rfl (Nat.le_of_ble_eq_true rfl) dX7_sum_45 ?_
          rintro _ ⟨f45_0, f45_1, i45_2, i45_3, i45_4, i45_5⟩ ⟨rfl, hu45_0⟩
          have hu45_0 : POut 4 (f8) (f9) (L + x.2.2.length) ((lvS (lkS (μ 0)) (sgS (lkS (μ 0)) u 1) 1) (x.2.1 + 1)) f45_0 f45_1 i45_2 i45_3 i45_4 i45_5 := hu45_0
          show V X (wM k b μ (va_up (va_up (va_up (va_up (va_up (va_up ν 8 f45_0) 9 f45_1) 12 (fun _ => i45_2)) 13 (fun _ => i45_3)) 14 (fun _ => i45_4)) 15 (fun _ => i45_5))) [(1, .int (lkS (μ 0) x.2.1)), (0, .ref (b 20))] [] 48
          refine V.aload_n (pc := 48) 1 hC dX7_sum_48 rfl ?_
          refine V.iload_n (pc := 49) 0 hC dX7_sum_49 rfl ?_
          refine V.iconst (pc := 50) 0 hC dX7_sum_50 (by decide) ?_
          refine V.callV0 (pc := 51) (as := [.int (lkS (μ 0) x.2.1), .int 0]) hC (c_X7_step μ (va_up (va_up (va_up (va_up (va_up (va_up ν 8 f45_0) 9 f45_1) 12 (fun _ => i45_2)) 13 (fun _ => i45_3)) 14 (fun _ => i45_4)) 15 (fun _ => i45_5)) (lkS (μ 0) x.2.1) 0 hu45_0.2.2.2.1) mu_X7_step ml_X7_139 (by decide) ⟨0, 7, TX7, 20, _, rfl, gm_0⟩ rfl (Nat.le_of_ble_eq_true rfl) dX7_sum_51 ?_
          rintro _ ⟨f51_0, f51_1, i51_2⟩ ⟨rfl, hu51_0⟩
          have hu51_0 : StF (f45_0) (f45_1) (i45_2) (lkS (μ 0) x.2.1) 0 f51_0 f51_1 i51_2 := hu51_0
          show V X (wM k b μ (va_up (va_up (va_up (va_up (va_up (va_up ν 8 f51_0) 9 f51_1) 12 (fun _ => i51_2)) 13 (fun _ => i45_3)) 14 (fun _ => i45_4)) 15 (fun _ => i45_5))) [(1, .int (lkS (μ 0) x.2.1)), (0, .ref (b 20))] [] 54
          refine V.goto (pc := 54) 4 hC dX7_sum_54 (by decide) ?_
          exact V.sub [1] rfl (ih (appS x ((lvS (lkS (μ 0)) (sgS (lkS (μ 0)) u 1) 1) (x.2.1 + 1)) (lkS (μ 0) x.2.1)) f51_0 f51_1 i51_2 i45_3 i45_4 i45_5 (hg.app hok hgy (rk_op hrk (by omega)).1) (PO_app hx hok hu45_0 hu51_0 (fun q => by have := hgy.2.2 q; have := hgy.2.1; omega)) (by have := hgy.1; show 60 ≤ n + ((lvS (lkS (μ 0)) (sgS (lkS (μ 0)) u 1) 1) (x.2.1 + 1)).2.1; omega) (hv.trans (lp_yes ⟨hok, hrk⟩)))
        · refine V.aload_n (pc := 20) 0 hC dX7_sum_20 rfl ?_
          refine V.callV0 (pc := 21) (as := []) hC (c_X7_look μ (va_up (va_up (va_up (va_up (va_up (va_up ν 8 f8) 9 f9) 12 (fun _ => i12)) 13 (fun _ => i13)) 14 (fun _ => i14)) 15 (fun _ => i15)) x.2.1 hI hx.1 (by omega)) mu_X7_look ml_X7_131 (by decide) ⟨0, 7, TX7, 20, _, rfl, gm_0⟩ rfl (Nat.le_of_ble_eq_true rfl) dX7_sum_21 ?_
          rintro _ _ rfl
          show V X (wM k b μ (va_up (va_up (va_up (va_up (va_up (va_up ν 8 f8) 9 f9) 12 (fun _ => i12)) 13 (fun _ => i13)) 14 (fun _ => i14)) 15 (fun _ => i15))) [(0, .ref (b 20))] [.int (lkS (μ 0) x.2.1)] 24
          refine V.bipush (pc := 24) 45 hC dX7_sum_24 (by decide) ?_
          refine V.icmp_ne (pc := 26) 57 hC dX7_sum_26 (by decide) (fun c_26 => ?_) (fun c_26 => ?_)
          · exact hR (f8, f9, i12, i13, i14, i15) _ _ dX7_sum_57 ⟨rfl, by rw [show (lvS (lkS (μ 0)) (sgS (lkS (μ 0)) u 1) 2) p = x from hv.trans (lp_no (fun q => (rk_3.mp q.2).elim c_17 c_26))]; exact hx⟩
          · have hok := bd_0 c_8
            have hgx := hg.2.2 hok
            have hrk : rkS (lkS (μ 0) x.2.1) = 3 := rk_3.mpr (Or.inr c_26)
            have hlt : x.2.1 < nN (μ 0 5) := tok_lt lk_tok (rk_op hrk (by omega)).2
            have hgy := (lv_g (lk_tok (ρ := μ 0)) (sg_g (u := u) (lk_tok (ρ := μ 0)) 1) 1) (x.2.1 + 1) hlt
            have hgb := hg.2.1
            refine V.aload_n (pc := 29) 0 hC dX7_sum_29 rfl ?_
            refine V.callV0 (pc := 30) (as := []) hC (c_X7_look μ (va_up (va_up (va_up (va_up (va_up (va_up ν 8 f8) 9 f9) 12 (fun _ => i12)) 13 (fun _ => i13)) 14 (fun _ => i14)) 15 (fun _ => i15)) x.2.1 hI hx.1 (by omega)) mu_X7_look ml_X7_131 (by decide) ⟨0, 7, TX7, 20, _, rfl, gm_0⟩ rfl (Nat.le_of_ble_eq_true rfl) dX7_sum_30 ?_
            rintro _ _ rfl
            show V X (wM k b μ (va_up (va_up (va_up (va_up (va_up (va_up ν 8 f8) 9 f9) 12 (fun _ => i12)) 13 (fun _ => i13)) 14 (fun _ => i14)) 15 (fun _ => i15))) [(0, .ref (b 20))] [.int (lkS (μ 0) x.2.1)] 33
            refine V.istore_n (pc := 33) [(1, .int (lkS (μ 0) x.2.1)), (0, .ref (b 20))] hC dX7_sum_33 (by decide) rfl ?_
            refine V.aload_n (pc := 34) 1 hC dX7_sum_34 rfl ?_
            refine V.dup (pc := 35) hC dX7_sum_35 rfl ?_
            refine V.get (pc := 36) (v := .int i13) hC cf_X7 0 13 fl_X7_121 (by decide) gm_0 rfl dX7_sum_36 ?_
            refine V.iconst (pc := 39) 1 hC dX7_sum_39 (by decide) ?_
            refine V.iadd (pc := 40) hC dX7_sum_40 ?_
            refine V.put (pc := 41) (v := .int (i13 + 1)) hC cf_X7 0 13 (wM k b μ (va_up (va_up (va_up (va_up (va_up (va_up ν 8 f8) 9 f9) 12 (fun _ => i12)) 13 (fun _ => i13 + 1)) 14 (fun _ => i14)) 15 (fun _ => i15))) fl_X7_121 (by decide) gm_0 rfl rfl rfl (Nat.le_of_ble_eq_true rfl) rfl dX7_sum_41 ?_
            refine V.aload_n (pc := 44) 1 hC dX7_sum_44 rfl ?_
            refine V.callV0 (pc := 45) (as := []) hC (c_X7_times_1 μ (va_up (va_up (va_up (va_up (va_up (va_up ν 8 f8) 9 f9) 12 (fun _ => i12)) 13 (fun _ => i13 + 1)) 14 (fun _ => i14)) 15 (fun _ => i15)) u (L + x.2.2.length) (x.2.1 + 1) hI ⟨hP.1, (hx.2.2.2.2 hok).1, nadd hx.1 (nl 1), hx.2.1, hx.2.2.1.trans c_8, by omega, hlt⟩) mu_X7_times ml_X7_162 (by decide) ⟨0, 7, TX7, 20, _, rfl, gm_0⟩ rfl (Nat.le_of_ble_eq_true rfl) dX7_sum_45 ?_
            rintro _ ⟨f45_0, f45_1, i45_2, i45_3, i45_4, i45_5⟩ ⟨rfl, hu45_0⟩
            have hu45_0 : POut 4 (f8) (f9) (L + x.2.2.length) ((lvS (lkS (μ 0)) (sgS (lkS (μ 0)) u 1) 1) (x.2.1 + 1)) f45_0 f45_1 i45_2 i45_3 i45_4 i45_5 := hu45_0
            show V X (wM k b μ (va_up (va_up (va_up (va_up (va_up (va_up ν 8 f45_0) 9 f45_1) 12 (fun _ => i45_2)) 13 (fun _ => i45_3)) 14 (fun _ => i45_4)) 15 (fun _ => i45_5))) [(1, .int (lkS (μ 0) x.2.1)), (0, .ref (b 20))] [] 48
            refine V.aload_n (pc := 48) 1 hC dX7_sum_48 rfl ?_
            refine V.iload_n (pc := 49) 0 hC dX7_sum_49 rfl ?_
            refine V.iconst (pc := 50) 0 hC dX7_sum_50 (by decide) ?_
            refine V.callV0 (pc := 51) (as := [.int (lkS (μ 0) x.2.1), .int 0]) hC (c_X7_step μ (va_up (va_up (va_up (va_up (va_up (va_up ν 8 f45_0) 9 f45_1) 12 (fun _ => i45_2)) 13 (fun _ => i45_3)) 14 (fun _ => i45_4)) 15 (fun _ => i45_5)) (lkS (μ 0) x.2.1) 0 hu45_0.2.2.2.1) mu_X7_step ml_X7_139 (by decide) ⟨0, 7, TX7, 20, _, rfl, gm_0⟩ rfl (Nat.le_of_ble_eq_true rfl) dX7_sum_51 ?_
            rintro _ ⟨f51_0, f51_1, i51_2⟩ ⟨rfl, hu51_0⟩
            have hu51_0 : StF (f45_0) (f45_1) (i45_2) (lkS (μ 0) x.2.1) 0 f51_0 f51_1 i51_2 := hu51_0
            show V X (wM k b μ (va_up (va_up (va_up (va_up (va_up (va_up ν 8 f51_0) 9 f51_1) 12 (fun _ => i51_2)) 13 (fun _ => i45_3)) 14 (fun _ => i45_4)) 15 (fun _ => i45_5))) [(1, .int (lkS (μ 0) x.2.1)), (0, .ref (b 20))] [] 54
            refine V.goto (pc := 54) 4 hC dX7_sum_54 (by decide) ?_
            exact V.sub [1] rfl (ih (appS x ((lvS (lkS (μ 0)) (sgS (lkS (μ 0)) u 1) 1) (x.2.1 + 1)) (lkS (μ 0) x.2.1)) f51_0 f51_1 i51_2 i45_3 i45_4 i45_5 (hg.app hok hgy (rk_op hrk (by omega)).1) (PO_app hx hok hu45_0 hu51_0 (fun q => by have := hgy.2.2 q; have := hgy.2.1; omega)) (by have := hgy.1; show 60 ≤ n + ((lvS (lkS (μ 0)) (sgS (lkS (μ 0)) u 1) 1) (x.2.1 + 1)).2.1; omega) (hv.trans (lp_yes ⟨hok, hrk⟩)))
  exact V.sub [0] rfl (loop_4 60 ((lvS (lkS (μ 0)) (sgS (lkS (μ 0)) u 1) 1) p) f1_0 f1_1 i1_2 i1_3 i1_4 i1_5 ((lv_g (lk_tok (ρ := μ 0)) (sg_g (u := u) (lk_tok (ρ := μ 0)) 1) 1) p (by omega)) hu1_0 (by omega) rfl)
set_option maxHeartbeats 4000000 in
set_option maxRecDepth 100000 in
theorem c_X7_compares_1 {l : Launch} {D : va_G} {k : Nat → ClassId} {g b : Nat → Nat} (μ ν : St) (u : Int32) (L p : Nat) (hI : Inv (μ 0)) (hP : PIn (nN (μ 0 5)) (ν 12 0) (ν 13 0) (ν 14 0) (ν 15 0) (ν 16 0) u 4 L p) : Ct l D k g yX7_compares cX7_compares 2 none 12 254 [.ref (b 20)] (S := Rw × Rw × Int32 × Int32 × Int32 × Int32) (wM k b μ ν) (fun uu => wM k b μ (va_up (va_up (va_up (va_up (va_up (va_up ν 8 uu.1) 9 uu.2.1) 12 (fun _ => uu.2.2.1)) 13 (fun _ => uu.2.2.2.1)) 14 (fun _ => uu.2.2.2.2.1)) 15 (fun _ => uu.2.2.2.2.2))) (fun vv uu => vv = none ∧ POut 4 (ν 8) (ν 9) L ((lvS (lkS (μ 0)) (sgS (lkS (μ 0)) u 1) 3) p) uu.1 uu.2.1 uu.2.2.1 uu.2.2.2.1 uu.2.2.2.2.1 uu.2.2.2.2.2) := by
  refine Ct.ofV RX7 rfl (by decide +kernel) (Nat.le_of_ble_eq_true rfl) (fun X hC hR => ?_)
  have hb60 := hI.bb; have hle := hP.2.2.2.2.2
  show V X (wM k b μ ν) [(0, .ref (b 20))] [] 0
  refine V.aload_n (pc := 0) 0 hC dX7_compares_0 rfl ?_
  refine V.callV0 (pc := 1) (as := []) hC (c_X7_sum_1 μ ν u L p hI hP) mu_X7_sum ml_X7_165 (by decide) ⟨0, 7, TX7, 20, _, rfl, gm_0⟩ rfl (Nat.le_of_ble_eq_true rfl) dX7_compares_1 ?_
  rintro _ ⟨f1_0, f1_1, i1_2, i1_3, i1_4, i1_5⟩ ⟨rfl, hu1_0⟩
  have hu1_0 : POut 4 (ν 8) (ν 9) L ((lvS (lkS (μ 0)) (sgS (lkS (μ 0)) u 1) 2) p) f1_0 f1_1 i1_2 i1_3 i1_4 i1_5 := hu1_0
  show V X (wM k b μ (va_up (va_up (va_up (va_up (va_up (va_up ν 8 f1_0) 9 f1_1) 12 (fun _ => i1_2)) 13 (fun _ => i1_3)) 14 (fun _ => i1_4)) 15 (fun _ => i1_5))) [(0, .ref (b 20))] [] 4
  have hg : GR (nN (μ 0 5)) p ((lvS (lkS (μ 0)) (sgS (lkS (μ 0)) u 1) 2) p) := (lv_g (lk_tok (ρ := μ 0)) (sg_g (u := u) (lk_tok (ρ := μ 0)) 1) 2) p (by omega)
  have hxb := hg.2.1
  refine V.aload_n (pc := 4) 0 hC dX7_compares_4 rfl ?_
  refine V.callV0 (pc := 5) (as := []) hC (c_X7_look μ (va_up (va_up (va_up (va_up (va_up (va_up ν 8 f1_0) 9 f1_1) 12 (fun _ => i1_2)) 13 (fun _ => i1_3)) 14 (fun _ => i1_4)) 15 (fun _ => i1_5)) (((lvS (lkS (μ 0)) (sgS (lkS (μ 0)) u 1) 2) p).2.1) hI hu1_0.1 (by omega)) mu_X7_look ml_X7_131 (by decide) ⟨0, 7, TX7, 20, _, rfl, gm_0⟩ rfl (Nat.le_of_ble_eq_true rfl) dX7_compares_5 ?_
  rintro _ _ rfl
  show V X (wM k b μ (va_up (va_up (va_up (va_up (va_up (va_up ν 8 f1_0) 9 f1_1) 12 (fun _ => i1_2)) 13 (fun _ => i1_3)) 14 (fun _ => i1_4)) 15 (fun _ => i1_5))) [(0, .ref (b 20))] [.int (lkS (μ 0) (((lvS (lkS (μ 0)) (sgS (lkS (μ 0)) u 1) 2) p).2.1))] 8
  refine V.istore_n (pc := 8) [(1, .int (lkS (μ 0) (((lvS (lkS (μ 0)) (sgS (lkS (μ 0)) u 1) 2) p).2.1))), (0, .ref (b 20))] hC dX7_compares_8 (by decide) rfl ?_
  refine V.aload_n (pc := 9) 1 hC dX7_compares_9 rfl ?_
  refine V.get (pc := 10) (v := .int i1_5) hC cf_X7 0 15 fl_X7_135 (by decide) gm_0 rfl dX7_compares_10 ?_
  refine V.eqi (y := bdS ((lvS (lkS (μ 0)) (sgS (lkS (μ 0)) u 1) 2) p)) (hu1_0.2.2.1) ?_
  refine V.if_ne (pc := 13) 54 hC dX7_compares_13 (by decide) (fun c_13 => ?_) (fun c_13 => ?_)
  · exact hR (f1_0, f1_1, i1_2, i1_3, i1_4, i1_5) _ _ dX7_compares_54 ⟨rfl, by rw [show (lvS (lkS (μ 0)) (sgS (lkS (μ 0)) u 1) 3) p = ((lvS (lkS (μ 0)) (sgS (lkS (μ 0)) u 1) 2) p) from lp_no (fun q => bd_1 c_13 q.1)]; exact hu1_0⟩
  · refine V.iload_n (pc := 16) 0 hC dX7_compares_16 rfl ?_
    refine V.bipush (pc := 17) 60 hC dX7_compares_17 (by decide) ?_
    refine V.icmp_eq (pc := 19) 34 hC dX7_compares_19 (by decide) (fun c_19 => ?_) (fun c_19 => ?_)
    · have hok := bd_0 c_13
      have hgx := hg.2.2 hok
      have hrk : rkS (lkS (μ 0) ((lvS (lkS (μ 0)) (sgS (lkS (μ 0)) u 1) 2) p).2.1) = 2 := rk_2.mpr (Or.inl c_19)
      have hlt : ((lvS (lkS (μ 0)) (sgS (lkS (μ 0)) u 1) 2) p).2.1 < nN (μ 0 5) := tok_lt lk_tok (rk_op hrk (by omega)).2
      have hgy := (lv_g (lk_tok (ρ := μ 0)) (sg_g (u := u) (lk_tok (ρ := μ 0)) 1) 2) (((lvS (lkS (μ 0)) (sgS (lkS (μ 0)) u 1) 2) p).2.1 + 1) hlt
      have hgb := hg.2.1
      refine V.aload_n (pc := 34) 1 hC dX7_compares_34 rfl ?_
      refine V.dup (pc := 35) hC dX7_compares_35 rfl ?_
      refine V.get (pc := 36) (v := .int i1_3) hC cf_X7 0 13 fl_X7_121 (by decide) gm_0 rfl dX7_compares_36 ?_
      refine V.iconst (pc := 39) 1 hC dX7_compares_39 (by decide) ?_
      refine V.iadd (pc := 40) hC dX7_compares_40 ?_
      refine V.put (pc := 41) (v := .int (i1_3 + 1)) hC cf_X7 0 13 (wM k b μ (va_up (va_up (va_up (va_up (va_up (va_up ν 8 f1_0) 9 f1_1) 12 (fun _ => i1_2)) 13 (fun _ => i1_3 + 1)) 14 (fun _ => i1_4)) 15 (fun _ => i1_5))) fl_X7_121 (by decide) gm_0 rfl rfl rfl (Nat.le_of_ble_eq_true rfl) rfl dX7_compares_41 ?_
      refine V.aload_n (pc := 44) 1 hC dX7_compares_44 rfl ?_
      refine V.callV0 (pc := 45) (as := []) hC (c_X7_sum_1 μ (va_up (va_up (va_up (va_up (va_up (va_up ν 8 f1_0) 9 f1_1) 12 (fun _ => i1_2)) 13 (fun _ => i1_3 + 1)) 14 (fun _ => i1_4)) 15 (fun _ => i1_5)) u (L + ((lvS (lkS (μ 0)) (sgS (lkS (μ 0)) u 1) 2) p).2.2.length) (((lvS (lkS (μ 0)) (sgS (lkS (μ 0)) u 1) 2) p).2.1 + 1) hI ⟨hP.1, (hu1_0.2.2.2.2 hok).1, nadd hu1_0.1 (nl 1), hu1_0.2.1, hu1_0.2.2.1.trans c_13, by omega, hlt⟩) mu_X7_sum ml_X7_165 (by decide) ⟨0, 7, TX7, 20, _, rfl, gm_0⟩ rfl (Nat.le_of_ble_eq_true rfl) dX7_compares_45 ?_
      rintro _ ⟨f45_0, f45_1, i45_2, i45_3, i45_4, i45_5⟩ ⟨rfl, hu45_0⟩
      have hu45_0 : POut 4 (f1_0) (f1_1) (L + ((lvS (lkS (μ 0)) (sgS (lkS (μ 0)) u 1) 2) p).2.2.length) ((lvS (lkS (μ 0)) (sgS (lkS (μ 0)) u 1) 2) (((lvS (lkS (μ 0)) (sgS (lkS (μ 0)) u 1) 2) p).2.1 + 1)) f45_0 f45_1 i45_2 i45_3 i45_4 i45_5 := hu45_0
      show V X (wM k b μ (va_up (va_up (va_up (va_up (va_up (va_up ν 8 f45_0) 9 f45_1) 12 (fun _ => i45_2)) 13 (fun _ => i45_3)) 14 (fun _ => i45_4)) 15 (fun _ => i45_5))) [(1, .int (lkS (μ 0) (((lvS (lkS (μ 0)) (sgS (lkS (μ 0)) u 1) 2) p).2.1))), (0, .ref (b 20))] [] 48
      refine V.aload_n (pc := 48) 1 hC dX7_compares_48 rfl ?_
      refine V.iload_n (pc := 49) 0 hC dX7_compares_49 rfl ?_
      refine V.iconst (pc := 50) 0 hC dX7_compares_50 (by decide) ?_
      refine V.callV0 (pc := 51) (as := [.int (lkS (μ 0) (((lvS (lkS (μ 0)) (sgS (lkS (μ 0)) u 1) 2) p).2.1)), .int 0]) hC (c_X7_step μ (va_up (va_up (va_up (va_up (va_up (va_up ν 8 f45_0) 9 f45_1) 12 (fun _ => i45_2)) 13 (fun _ => i45_3)) 14 (fun _ => i45_4)) 15 (fun _ => i45_5)) (lkS (μ 0) (((lvS (lkS (μ 0)) (sgS (lkS (μ 0)) u 1) 2) p).2.1)) 0 hu45_0.2.2.2.1) mu_X7_step ml_X7_139 (by decide) ⟨0, 7, TX7, 20, _, rfl, gm_0⟩ rfl (Nat.le_of_ble_eq_true rfl) dX7_compares_51 ?_
      rintro _ ⟨f51_0, f51_1, i51_2⟩ ⟨rfl, hu51_0⟩
      have hu51_0 : StF (f45_0) (f45_1) (i45_2) (lkS (μ 0) (((lvS (lkS (μ 0)) (sgS (lkS (μ 0)) u 1) 2) p).2.1)) 0 f51_0 f51_1 i51_2 := hu51_0
      show V X (wM k b μ (va_up (va_up (va_up (va_up (va_up (va_up ν 8 f51_0) 9 f51_1) 12 (fun _ => i51_2)) 13 (fun _ => i45_3)) 14 (fun _ => i45_4)) 15 (fun _ => i45_5))) [(1, .int (lkS (μ 0) (((lvS (lkS (μ 0)) (sgS (lkS (μ 0)) u 1) 2) p).2.1))), (0, .ref (b 20))] [] 54
      exact hR (f51_0, f51_1, i51_2, i45_3, i45_4, i45_5) _ _ dX7_compares_54 ⟨rfl, by rw [show (lvS (lkS (μ 0)) (sgS (lkS (μ 0)) u 1) 3) p = appS ((lvS (lkS (μ 0)) (sgS (lkS (μ 0)) u 1) 2) p) ((lvS (lkS (μ 0)) (sgS (lkS (μ 0)) u 1) 2) (((lvS (lkS (μ 0)) (sgS (lkS (μ 0)) u 1) 2) p).2.1 + 1)) (lkS (μ 0) ((lvS (lkS (μ 0)) (sgS (lkS (μ 0)) u 1) 2) p).2.1) from lp_yes ⟨hok, hrk⟩]; exact PO_app hu1_0 hok hu45_0 hu51_0 (fun q => by have := hgy.2.2 q; have := hgy.2.1; omega)⟩
    · refine V.iload_n (pc := 22) 0 hC dX7_compares_22 rfl ?_
      refine V.bipush (pc := 23) 61 hC dX7_compares_23 (by decide) ?_
      refine V.icmp_eq (pc := 25) 34 hC dX7_compares_25 (by decide) (fun c_25 => ?_) (fun c_25 => ?_)
      · have hok := bd_0 c_13
        have hgx := hg.2.2 hok
        have hrk : rkS (lkS (μ 0) ((lvS (lkS (μ 0)) (sgS (lkS (μ 0)) u 1) 2) p).2.1) = 2 := rk_2.mpr (Or.inr (Or.inl c_25))
        have hlt : ((lvS (lkS (μ 0)) (sgS (lkS (μ 0)) u 1) 2) p).2.1 < nN (μ 0 5) := tok_lt lk_tok (rk_op hrk (by omega)).2
        have hgy := (lv_g (lk_tok (ρ := μ 0)) (sg_g (u := u) (lk_tok (ρ := μ 0)) 1) 2) (((lvS (lkS (μ 0)) (sgS (lkS (μ 0)) u 1) 2) p).2.1 + 1) hlt
        have hgb := hg.2.1
        refine V.aload_n (pc := 34) 1 hC dX7_compares_34 rfl ?_
        refine V.dup (pc := 35) hC dX7_compares_35 rfl ?_
        refine V.get (pc := 36) (v := .int i1_3) hC cf_X7 0 13 fl_X7_121 (by decide) gm_0 rfl dX7_compares_36 ?_
        refine V.iconst (pc := 39) 1 hC dX7_compares_39 (by decide) ?_
        refine V.iadd (pc := 40) hC dX7_compares_40 ?_
        refine V.put (pc := 41) (v := .int (i1_3 + 1)) hC cf_X7 0 13 (wM k b μ (va_up (va_up (va_up (va_up (va_up (va_up ν 8 f1_0) 9 f1_1) 12 (fun _ => i1_2)) 13 (fun _ => i1_3 + 1)) 14 (fun _ => i1_4)) 15 (fun _ => i1_5))) fl_X7_121 (by decide) gm_0 rfl rfl rfl (Nat.le_of_ble_eq_true rfl) rfl dX7_compares_41 ?_
        refine V.aload_n (pc := 44) 1 hC dX7_compares_44 rfl ?_
        refine V.callV0 (pc := 45) (as := []) hC (c_X7_sum_1 μ (va_up (va_up (va_up (va_up (va_up (va_up ν 8 f1_0) 9 f1_1) 12 (fun _ => i1_2)) 13 (fun _ => i1_3 + 1)) 14 (fun _ => i1_4)) 15 (fun _ => i1_5)) u (L + ((lvS (lkS (μ 0)) (sgS (lkS (μ 0)) u 1) 2) p).2.2.length) (((lvS (lkS (μ 0)) (sgS (lkS (μ 0)) u 1) 2) p).2.1 + 1) hI ⟨hP.1, (hu1_0.2.2.2.2 hok).1, nadd hu1_0.1 (nl 1), hu1_0.2.1, hu1_0.2.2.1.trans c_13, by omega, hlt⟩) mu_X7_sum ml_X7_165 (by decide) ⟨0, 7, TX7, 20, _, rfl, gm_0⟩ rfl (Nat.le_of_ble_eq_true rfl) dX7_compares_45 ?_
        rintro _ ⟨f45_0, f45_1, i45_2, i45_3, i45_4, i45_5⟩ ⟨rfl, hu45_0⟩
        have hu45_0 : POut 4 (f1_0) (f1_1) (L + ((lvS (lkS (μ 0)) (sgS (lkS (μ 0)) u 1) 2) p).2.2.length) ((lvS (lkS (μ 0)) (sgS (lkS (μ 0)) u 1) 2) (((lvS (lkS (μ 0)) (sgS (lkS (μ 0)) u 1) 2) p).2.1 + 1)) f45_0 f45_1 i45_2 i45_3 i45_4 i45_5 := hu45_0
        show V X (wM k b μ (va_up (va_up (va_up (va_up (va_up (va_up ν 8 f45_0) 9 f45_1) 12 (fun _ => i45_2)) 13 (fun _ => i45_3)) 14 (fun _ => i45_4)) 15 (fun _ => i45_5))) [(1, .int (lkS (μ 0) (((lvS (lkS (μ 0)) (sgS (lkS (μ 0)) u 1) 2) p).2.1))), (0, .ref (b 20))] [] 48
        refine V.aload_n (pc := 48) 1 hC dX7_compares_48 rfl ?_
        refine V.iload_n (pc := 49) 0 hC dX7_compares_49 rfl ?_
        refine V.iconst (pc := 50) 0 hC dX7_compares_50 (by decide) ?_
        refine V.callV0 (pc := 51) (as := [.int (lkS (μ 0) (((lvS (lkS (μ 0)) (sgS (lkS (μ 0)) u 1) 2) p).2.1)), .int 0]) hC (c_X7_step μ (va_up (va_up (va_up (va_up (va_up (va_up ν 8 f45_0) 9 f45_1) 12 (fun _ => i45_2)) 13 (fun _ => i45_3)) 14 (fun _ => i45_4)) 15 (fun _ => i45_5)) (lkS (μ 0) (((lvS (lkS (μ 0)) (sgS (lkS (μ 0)) u 1) 2) p).2.1)) 0 hu45_0.2.2.2.1) mu_X7_step ml_X7_139 (by decide) ⟨0, 7, TX7, 20, _, rfl, gm_0⟩ rfl (Nat.le_of_ble_eq_true rfl) dX7_compares_51 ?_
        rintro _ ⟨f51_0, f51_1, i51_2⟩ ⟨rfl, hu51_0⟩
        have hu51_0 : StF (f45_0) (f45_1) (i45_2) (lkS (μ 0) (((lvS (lkS (μ 0)) (sgS (lkS (μ 0)) u 1) 2) p).2.1)) 0 f51_0 f51_1 i51_2 := hu51_0
        show V X (wM k b μ (va_up (va_up (va_up (va_up (va_up (va_up ν 8 f51_0) 9 f51_1) 12 (fun _ => i51_2)) 13 (fun _ => i45_3)) 14 (fun _ => i45_4)) 15 (fun _ => i45_5))) [(1, .int (lkS (μ 0) (((lvS (lkS (μ 0)) (sgS (lkS (μ 0)) u 1) 2) p).2.1))), (0, .ref (b 20))] [] 54
        exact hR (f51_0, f51_1, i51_2, i45_3, i45_4, i45_5) _ _ dX7_compares_54 ⟨rfl, by rw [show (lvS (lkS (μ 0)) (sgS (lkS (μ 0)) u 1) 3) p = appS ((lvS (lkS (μ 0)) (sgS (lkS (μ 0)) u 1) 2) p) ((lvS (lkS (μ 0)) (sgS (lkS (μ 0)) u 1) 2) (((lvS (lkS (μ 0)) (sgS (lkS (μ 0)) u 1) 2) p).2.1 + 1)) (lkS (μ 0) ((lvS (lkS (μ 0)) (sgS (lkS (μ 0)) u 1) 2) p).2.1) from lp_yes ⟨hok, hrk⟩]; exact PO_app hu1_0 hok hu45_0 hu51_0 (fun q => by have := hgy.2.2 q; have := hgy.2.1; omega)⟩
      · refine V.iload_n (pc := 28) 0 hC dX7_compares_28 rfl ?_
        refine V.bipush (pc := 29) 62 hC dX7_compares_29 (by decide) ?_
        refine V.icmp_ne (pc := 31) 54 hC dX7_compares_31 (by decide) (fun c_31 => ?_) (fun c_31 => ?_)
        · exact hR (f1_0, f1_1, i1_2, i1_3, i1_4, i1_5) _ _ dX7_compares_54 ⟨rfl, by rw [show (lvS (lkS (μ 0)) (sgS (lkS (μ 0)) u 1) 3) p = ((lvS (lkS (μ 0)) (sgS (lkS (μ 0)) u 1) 2) p) from lp_no (fun q => (rk_2.mp q.2).elim c_19 (fun q => q.elim c_25 c_31))]; exact hu1_0⟩
        · have hok := bd_0 c_13
          have hgx := hg.2.2 hok
          have hrk : rkS (lkS (μ 0) ((lvS (lkS (μ 0)) (sgS (lkS (μ 0)) u 1) 2) p).2.1) = 2 := rk_2.mpr (Or.inr (Or.inr c_31))
          have hlt : ((lvS (lkS (μ 0)) (sgS (lkS (μ 0)) u 1) 2) p).2.1 < nN (μ 0 5) := tok_lt lk_tok (rk_op hrk (by omega)).2
          have hgy := (lv_g (lk_tok (ρ := μ 0)) (sg_g (u := u) (lk_tok (ρ := μ 0)) 1) 2) (((lvS (lkS (μ 0)) (sgS (lkS (μ 0)) u 1) 2) p).2.1 + 1) hlt
          have hgb := hg.2.1
          refine V.aload_n (pc := 34) 1 hC dX7_compares_34 rfl ?_
          refine V.dup (pc := 35) hC dX7_compares_35 rfl ?_
          refine V.get (pc := 36) (v := .int i1_3) hC cf_X7 0 13 fl_X7_121 (by decide) gm_0 rfl dX7_compares_36 ?_
          refine V.iconst (pc := 39) 1 hC dX7_compares_39 (by decide) ?_
          refine V.iadd (pc := 40) hC dX7_compares_40 ?_
          refine V.put (pc := 41) (v := .int (i1_3 + 1)) hC cf_X7 0 13 (wM k b μ (va_up (va_up (va_up (va_up (va_up (va_up ν 8 f1_0) 9 f1_1) 12 (fun _ => i1_2)) 13 (fun _ => i1_3 + 1)) 14 (fun _ => i1_4)) 15 (fun _ => i1_5))) fl_X7_121 (by decide) gm_0 rfl rfl rfl (Nat.le_of_ble_eq_true rfl) rfl dX7_compares_41 ?_
          refine V.aload_n (pc := 44) 1 hC dX7_compares_44 rfl ?_
          refine V.callV0 (pc := 45) (as := []) hC (c_X7_sum_1 μ (va_up (va_up (va_up (va_up (va_up (va_up ν 8 f1_0) 9 f1_1) 12 (fun _ => i1_2)) 13 (fun _ => i1_3 + 1)) 14 (fun _ => i1_4)) 15 (fun _ => i1_5)) u (L + ((lvS (lkS (μ 0)) (sgS (lkS (μ 0)) u 1) 2) p).2.2.length) (((lvS (lkS (μ 0)) (sgS (lkS (μ 0)) u 1) 2) p).2.1 + 1) hI ⟨hP.1, (hu1_0.2.2.2.2 hok).1, nadd hu1_0.1 (nl 1), hu1_0.2.1, hu1_0.2.2.1.trans c_13, by omega, hlt⟩) mu_X7_sum ml_X7_165 (by decide) ⟨0, 7, TX7, 20, _, rfl, gm_0⟩ rfl (Nat.le_of_ble_eq_true rfl) dX7_compares_45 ?_
          rintro _ ⟨f45_0, f45_1, i45_2, i45_3, i45_4, i45_5⟩ ⟨rfl, hu45_0⟩
          have hu45_0 : POut 4 (f1_0) (f1_1) (L + ((lvS (lkS (μ 0)) (sgS (lkS (μ 0)) u 1) 2) p).2.2.length) ((lvS (lkS (μ 0)) (sgS (lkS (μ 0)) u 1) 2) (((lvS (lkS (μ 0)) (sgS (lkS (μ 0)) u 1) 2) p).2.1 + 1)) f45_0 f45_1 i45_2 i45_3 i45_4 i45_5 := hu45_0
          show V X (wM k b μ (va_up (va_up (va_up (va_up (va_up (va_up ν 8 f45_0) 9 f45_1) 12 (fun _ => i45_2)) 13 (fun _ => i45_3)) 14 (fun _ => i45_4)) 15 (fun _ => i45_5))) [(1, .int (lkS (μ 0) (((lvS (lkS (μ 0)) (sgS (lkS (μ 0)) u 1) 2) p).2.1))), (0, .ref (b 20))] [] 48
          refine V.aload_n (pc := 48) 1 hC dX7_compares_48 rfl ?_
          refine V.iload_n (pc := 49) 0 hC dX7_compares_49 rfl ?_
          refine V.iconst (pc := 50) 0 hC dX7_compares_50 (by decide) ?_
          refine V.callV0 (pc := 51) (as := [.int (lkS (μ 0) (((lvS (lkS (μ 0)) (sgS (lkS (μ 0)) u 1) 2) p).2.1)), .int 0]) hC (c_X7_step μ (va_up (va_up (va_up (va_up (va_up (va_up ν 8 f45_0) 9 f45_1) 12 (fun _ => i45_2)) 13 (fun _ => i45_3)) 14 (fun _ => i45_4)) 15 (fun _ => i45_5)) (lkS (μ 0) (((lvS (lkS (μ 0)) (sgS (lkS (μ 0)) u 1) 2) p).2.1)) 0 hu45_0.2.2.2.1) mu_X7_step ml_X7_139 (by decide) ⟨0, 7, TX7, 20, _, rfl, gm_0⟩ rfl (Nat.le_of_ble_eq_true rfl) dX7_compares_51 ?_
          rintro _ ⟨f51_0, f51_1, i51_2⟩ ⟨rfl, hu51_0⟩
          have hu51_0 : StF (f45_0) (f45_1) (i45_2) (lkS (μ 0) (((lvS (lkS (μ 0)) (sgS (lkS (μ 0)) u 1) 2) p).2.1)) 0 f51_0 f51_1 i51_2 := hu51_0
          show V X (wM k b μ (va_up (va_up (va_up (va_up (va_up (va_up ν 8 f51_0) 9 f51_1) 12 (fun _ => i51_2)) 13 (fun _ => i45_3)) 14 (fun _ => i45_4)) 15 (fun _ => i45_5))) [(1, .int (lkS (μ 0) (((lvS (lkS (μ 0)) (sgS (lkS (μ 0)) u 1) 2) p).2.1))), (0, .ref (b 20))] [] 54
          exact hR (f51_0, f51_1, i51_2, i45_3, i45_4, i45_5) _ _ dX7_compares_54 ⟨rfl, by rw [show (lvS (lkS (μ 0)) (sgS (lkS (μ 0)) u 1) 3) p = appS ((lvS (lkS (μ 0)) (sgS (lkS (μ 0)) u 1) 2) p) ((lvS (lkS (μ 0)) (sgS (lkS (μ 0)) u 1) 2) (((lvS (lkS (μ 0)) (sgS (lkS (μ 0)) u 1) 2) p).2.1 + 1)) (lkS (μ 0) ((lvS (lkS (μ 0)) (sgS (lkS (μ 0)) u 1) 2) p).2.1) from lp_yes ⟨hok, hrk⟩]; exact PO_app hu1_0 hok hu45_0 hu51_0 (fun q => by have := hgy.2.2 q; have := hgy.2.1; omega)⟩
set_option maxHeartbeats 4000000 in
set_option maxRecDepth 100000 in
theorem c_X7_all_1 {l : Launch} {D : va_G} {k : Nat → ClassId} {g b : Nat → Nat} (μ ν : St) (u : Int32) (L p : Nat) (hI : Inv (μ 0)) (hP : PIn (nN (μ 0 5)) (ν 12 0) (ν 13 0) (ν 14 0) (ν 15 0) (ν 16 0) u 4 L p) : Ct l D k g yX7_all cX7_all 1 none 13 275 [.ref (b 20)] (S := Rw × Rw × Int32 × Int32 × Int32 × Int32) (wM k b μ ν) (fun uu => wM k b μ (va_up (va_up (va_up (va_up (va_up (va_up ν 8 uu.1) 9 uu.2.1) 12 (fun _ => uu.2.2.1)) 13 (fun _ => uu.2.2.2.1)) 14 (fun _ => uu.2.2.2.2.1)) 15 (fun _ => uu.2.2.2.2.2))) (fun vv uu => vv = none ∧ POut 4 (ν 8) (ν 9) L ((lvS (lkS (μ 0)) (sgS (lkS (μ 0)) u 1) 4) p) uu.1 uu.2.1 uu.2.2.1 uu.2.2.2.1 uu.2.2.2.2.1 uu.2.2.2.2.2) := by
  refine Ct.ofV RX7 rfl (by decide +kernel) (Nat.le_of_ble_eq_true rfl) (fun X hC hR => ?_)
  have hb60 := hI.bb; have hle := hP.2.2.2.2.2
  show V X (wM k b μ ν) [(0, .ref (b 20))] [] 0
  refine V.aload_n (pc := 0) 0 hC dX7_all_0 rfl ?_
  refine V.callV0 (pc := 1) (as := []) hC (c_X7_compares_1 μ ν u L p hI hP) mu_X7_compares ml_X7_168 (by decide) ⟨0, 7, TX7, 20, _, rfl, gm_0⟩ rfl (Nat.le_of_ble_eq_true rfl) dX7_all_1 ?_
  rintro _ ⟨f1_0, f1_1, i1_2, i1_3, i1_4, i1_5⟩ ⟨rfl, hu1_0⟩
  have hu1_0 : POut 4 (ν 8) (ν 9) L ((lvS (lkS (μ 0)) (sgS (lkS (μ 0)) u 1) 3) p) f1_0 f1_1 i1_2 i1_3 i1_4 i1_5 := hu1_0
  show V X (wM k b μ (va_up (va_up (va_up (va_up (va_up (va_up ν 8 f1_0) 9 f1_1) 12 (fun _ => i1_2)) 13 (fun _ => i1_3)) 14 (fun _ => i1_4)) 15 (fun _ => i1_5))) [(0, .ref (b 20))] [] 4
  have loop_4 : ∀ (n : Nat) (x : Res) (f8 f9 : Rw) (i12 i13 i14 i15 : Int32), GR (nN (μ 0 5)) p x → POut 4 (ν 8) (ν 9) L x f8 f9 i12 i13 i14 i15 → 60 ≤ n + x.2.1 → (lvS (lkS (μ 0)) (sgS (lkS (μ 0)) u 1) 4) p = lpS (lkS (μ 0)) (lvS (lkS (μ 0)) (sgS (lkS (μ 0)) u 1) 3) 1 n x → V X (wM k b μ (va_up (va_up (va_up (va_up (va_up (va_up ν 8 f8) 9 f9) 12 (fun _ => i12)) 13 (fun _ => i13)) 14 (fun _ => i14)) 15 (fun _ => i15))) [(0, .ref (b 20))] [] 4 := by
    intro n
    induction n with
    | zero =>
      intro x f8 f9 i12 i13 i14 i15 hg hx hi hv
      have hxb := hg.2.1
      have hz : lkS (μ 0) x.2.1 = -1 := lk_tok x.2.1 (by omega)
      refine V.aload_n (pc := 4) 0 hC dX7_all_4 rfl ?_
      refine V.get (pc := 5) (v := .int i15) hC cf_X7 0 15 fl_X7_135 (by decide) gm_0 rfl dX7_all_5 ?_
      refine V.eqi (y := bdS x) (hx.2.2.1) ?_
      refine V.if_ne (pc := 8) 44 hC dX7_all_8 (by decide) (fun c_8 => ?_) (fun c_8 => ?_)
      · exact hR (f8, f9, i12, i13, i14, i15) _ _ dX7_all_44 ⟨rfl, by rw [show (lvS (lkS (μ 0)) (sgS (lkS (μ 0)) u 1) 4) p = x from hv.trans (lp_no (fun q => bd_1 c_8 q.1))]; exact hx⟩
      · refine V.aload_n (pc := 11) 0 hC dX7_all_11 rfl ?_
        refine V.callV0 (pc := 12) (as := []) hC (c_X7_look μ (va_up (va_up (va_up (va_up (va_up (va_up ν 8 f8) 9 f9) 12 (fun _ => i12)) 13 (fun _ => i13)) 14 (fun _ => i14)) 15 (fun _ => i15)) x.2.1 hI hx.1 (by omega)) mu_X7_look ml_X7_131 (by decide) ⟨0, 7, TX7, 20, _, rfl, gm_0⟩ rfl (Nat.le_of_ble_eq_true rfl) dX7_all_12 ?_
        rintro _ _ rfl
        show V X (wM k b μ (va_up (va_up (va_up (va_up (va_up (va_up ν 8 f8) 9 f9) 12 (fun _ => i12)) 13 (fun _ => i13)) 14 (fun _ => i14)) 15 (fun _ => i15))) [(0, .ref (b 20))] [.int (lkS (μ 0) x.2.1)] 15
        refine V.bipush (pc := 15) 38 hC dX7_all_15 (by decide) ?_
        refine V.icmp_ne (pc := 17) 44 hC dX7_all_17 (by decide) (fun c_17 => ?_) (fun c_17 => ?_)
        · exact hR (f8, f9, i12, i13, i14, i15) _ _ dX7_all_44 ⟨rfl, by rw [show (lvS (lkS (μ 0)) (sgS (lkS (μ 0)) u 1) 4) p = x from hv.trans (lp_no (fun q => c_17 (rk_1.mp q.2)))]; exact hx⟩
        · exact absurd c_17 (by rw [hz]; decide)
    | succ n ih =>
      intro x f8 f9 i12 i13 i14 i15 hg hx hi hv
      have hxb := hg.2.1
      refine V.aload_n (pc := 4) 0 hC dX7_all_4 rfl ?_
      refine V.get (pc := 5) (v := .int i15) hC cf_X7 0 15 fl_X7_135 (by decide) gm_0 rfl dX7_all_5 ?_
      refine V.eqi (y := bdS x) (hx.2.2.1) ?_
      refine V.if_ne (pc := 8) 44 hC dX7_all_8 (by decide) (fun c_8 => ?_) (fun c_8 => ?_)
      · exact hR (f8, f9, i12, i13, i14, i15) _ _ dX7_all_44 ⟨rfl, by rw [show (lvS (lkS (μ 0)) (sgS (lkS (μ 0)) u 1) 4) p = x from hv.trans (lp_no (fun q => bd_1 c_8 q.1))]; exact hx⟩
      · refine V.aload_n (pc := 11) 0 hC dX7_all_11 rfl ?_
        refine V.callV0 (pc := 12) (as := []) hC (c_X7_look μ (va_up (va_up (va_up (va_up (va_up (va_up ν 8 f8) 9 f9) 12 (fun _ => i12)) 13 (fun _ => i13)) 14 (fun _ => i14)) 15 (fun _ => i15)) x.2.1 hI hx.1 (by omega)) mu_X7_look ml_X7_131 (by decide) ⟨0, 7, TX7, 20, _, rfl, gm_0⟩ rfl (Nat.le_of_ble_eq_true rfl) dX7_all_12 ?_
        rintro _ _ rfl
        show V X (wM k b μ (va_up (va_up (va_up (va_up (va_up (va_up ν 8 f8) 9 f9) 12 (fun _ => i12)) 13 (fun _ => i13)) 14 (fun _ => i14)) 15 (fun _ => i15))) [(0, .ref (b 20))] [.int (lkS (μ 0) x.2.1)] 15
        refine V.bipush (pc := 15) 38 hC dX7_all_15 (by decide) ?_
        refine V.icmp_ne (pc := 17) 44 hC dX7_all_17 (by decide) (fun c_17 => ?_) (fun c_17 => ?_)
        · exact hR (f8, f9, i12, i13, i14, i15) _ _ dX7_all_44 ⟨rfl, by rw [show (lvS (lkS (μ 0)) (sgS (lkS (μ 0)) u 1) 4) p = x from hv.trans (lp_no (fun q => c_17 (rk_1.mp q.2)))]; exact hx⟩
        · have hok := bd_0 c_8
          have hgx := hg.2.2 hok
          have hrk : rkS (lkS (μ 0) x.2.1) = 1 := rk_1.mpr (c_17)
          have hlt : x.2.1 < nN (μ 0 5) := tok_lt lk_tok (rk_op hrk (by omega)).2
          have hgy := (lv_g (lk_tok (ρ := μ 0)) (sg_g (u := u) (lk_tok (ρ := μ 0)) 1) 3) (x.2.1 + 1) hlt
          have hgb := hg.2.1
          refine V.aload_n (pc := 20) 0 hC dX7_all_20 rfl ?_
          refine V.dup (pc := 21) hC dX7_all_21 rfl ?_
          refine V.get (pc := 22) (v := .int i13) hC cf_X7 0 13 fl_X7_121 (by decide) gm_0 rfl dX7_all_22 ?_
          refine V.iconst (pc := 25) 1 hC dX7_all_25 (by decide) ?_
          refine V.iadd (pc := 26) hC dX7_all_26 ?_
          refine V.put (pc := 27) (v := .int (i13 + 1)) hC cf_X7 0 13 (wM k b μ (va_up (va_up (va_up (va_up (va_up (va_up ν 8 f8) 9 f9) 12 (fun _ => i12)) 13 (fun _ => i13 + 1)) 14 (fun _ => i14)) 15 (fun _ => i15))) fl_X7_121 (by decide) gm_0 rfl rfl rfl (Nat.le_of_ble_eq_true rfl) rfl dX7_all_27 ?_
          refine V.aload_n (pc := 30) 0 hC dX7_all_30 rfl ?_
          refine V.callV0 (pc := 31) (as := []) hC (c_X7_compares_1 μ (va_up (va_up (va_up (va_up (va_up (va_up ν 8 f8) 9 f9) 12 (fun _ => i12)) 13 (fun _ => i13 + 1)) 14 (fun _ => i14)) 15 (fun _ => i15)) u (L + x.2.2.length) (x.2.1 + 1) hI ⟨hP.1, (hx.2.2.2.2 hok).1, nadd hx.1 (nl 1), hx.2.1, hx.2.2.1.trans c_8, by omega, hlt⟩) mu_X7_compares ml_X7_168 (by decide) ⟨0, 7, TX7, 20, _, rfl, gm_0⟩ rfl (Nat.le_of_ble_eq_true rfl) dX7_all_31 ?_
          rintro _ ⟨f31_0, f31_1, i31_2, i31_3, i31_4, i31_5⟩ ⟨rfl, hu31_0⟩
          have hu31_0 : POut 4 (f8) (f9) (L + x.2.2.length) ((lvS (lkS (μ 0)) (sgS (lkS (μ 0)) u 1) 3) (x.2.1 + 1)) f31_0 f31_1 i31_2 i31_3 i31_4 i31_5 := hu31_0
          show V X (wM k b μ (va_up (va_up (va_up (va_up (va_up (va_up ν 8 f31_0) 9 f31_1) 12 (fun _ => i31_2)) 13 (fun _ => i31_3)) 14 (fun _ => i31_4)) 15 (fun _ => i31_5))) [(0, .ref (b 20))] [] 34
          refine V.aload_n (pc := 34) 0 hC dX7_all_34 rfl ?_
          refine V.bipush (pc := 35) 38 hC dX7_all_35 (by decide) ?_
          refine V.iconst (pc := 37) 0 hC dX7_all_37 (by decide) ?_
          refine V.callV0 (pc := 38) (as := [.int 38, .int 0]) hC (c_X7_step μ (va_up (va_up (va_up (va_up (va_up (va_up ν 8 f31_0) 9 f31_1) 12 (fun _ => i31_2)) 13 (fun _ => i31_3)) 14 (fun _ => i31_4)) 15 (fun _ => i31_5)) 38 0 hu31_0.2.2.2.1) mu_X7_step ml_X7_139 (by decide) ⟨0, 7, TX7, 20, _, rfl, gm_0⟩ rfl (Nat.le_of_ble_eq_true rfl) dX7_all_38 ?_
          rintro _ ⟨f38_0, f38_1, i38_2⟩ ⟨rfl, hu38_0⟩
          have hu38_0 : StF (f31_0) (f31_1) (i31_2) 38 0 f38_0 f38_1 i38_2 := hu38_0
          show V X (wM k b μ (va_up (va_up (va_up (va_up (va_up (va_up ν 8 f38_0) 9 f38_1) 12 (fun _ => i38_2)) 13 (fun _ => i31_3)) 14 (fun _ => i31_4)) 15 (fun _ => i31_5))) [(0, .ref (b 20))] [] 41
          refine V.goto (pc := 41) 4 hC dX7_all_41 (by decide) ?_
          exact V.sub [0] rfl (ih (appS x ((lvS (lkS (μ 0)) (sgS (lkS (μ 0)) u 1) 3) (x.2.1 + 1)) (lkS (μ 0) x.2.1)) f38_0 f38_1 i38_2 i31_3 i31_4 i31_5 (hg.app hok hgy (rk_op hrk (by omega)).1) (PO_app hx hok hu31_0 (by rw [c_17]; exact hu38_0) (fun q => by have := hgy.2.2 q; have := hgy.2.1; omega)) (by have := hgy.1; show 60 ≤ n + ((lvS (lkS (μ 0)) (sgS (lkS (μ 0)) u 1) 3) (x.2.1 + 1)).2.1; omega) (hv.trans (lp_yes ⟨hok, hrk⟩)))
  exact V.sub [0] rfl (loop_4 60 ((lvS (lkS (μ 0)) (sgS (lkS (μ 0)) u 1) 3) p) f1_0 f1_1 i1_2 i1_3 i1_4 i1_5 ((lv_g (lk_tok (ρ := μ 0)) (sg_g (u := u) (lk_tok (ρ := μ 0)) 1) 3) p (by omega)) hu1_0 (by omega) rfl)
set_option maxHeartbeats 4000000 in
set_option maxRecDepth 100000 in
theorem c_X7_any_1 {l : Launch} {D : va_G} {k : Nat → ClassId} {g b : Nat → Nat} (μ ν : St) (u : Int32) (L p : Nat) (hI : Inv (μ 0)) (hP : PIn (nN (μ 0 5)) (ν 12 0) (ν 13 0) (ν 14 0) (ν 15 0) (ν 16 0) u 4 L p) : Ct l D k g yX7_any cX7_any 1 none 14 295 [.ref (b 20)] (S := Rw × Rw × Int32 × Int32 × Int32 × Int32) (wM k b μ ν) (fun uu => wM k b μ (va_up (va_up (va_up (va_up (va_up (va_up ν 8 uu.1) 9 uu.2.1) 12 (fun _ => uu.2.2.1)) 13 (fun _ => uu.2.2.2.1)) 14 (fun _ => uu.2.2.2.2.1)) 15 (fun _ => uu.2.2.2.2.2))) (fun vv uu => vv = none ∧ POut 4 (ν 8) (ν 9) L ((lvS (lkS (μ 0)) (sgS (lkS (μ 0)) u 1) 5) p) uu.1 uu.2.1 uu.2.2.1 uu.2.2.2.1 uu.2.2.2.2.1 uu.2.2.2.2.2) := by
  refine Ct.ofV RX7 rfl (by decide +kernel) (Nat.le_of_ble_eq_true rfl) (fun X hC hR => ?_)
  have hb60 := hI.bb; have hle := hP.2.2.2.2.2
  show V X (wM k b μ ν) [(0, .ref (b 20))] [] 0
  refine V.aload_n (pc := 0) 0 hC dX7_any_0 rfl ?_
  refine V.callV0 (pc := 1) (as := []) hC (c_X7_all_1 μ ν u L p hI hP) mu_X7_all ml_X7_171 (by decide) ⟨0, 7, TX7, 20, _, rfl, gm_0⟩ rfl (Nat.le_of_ble_eq_true rfl) dX7_any_1 ?_
  rintro _ ⟨f1_0, f1_1, i1_2, i1_3, i1_4, i1_5⟩ ⟨rfl, hu1_0⟩
  have hu1_0 : POut 4 (ν 8) (ν 9) L ((lvS (lkS (μ 0)) (sgS (lkS (μ 0)) u 1) 4) p) f1_0 f1_1 i1_2 i1_3 i1_4 i1_5 := hu1_0
  show V X (wM k b μ (va_up (va_up (va_up (va_up (va_up (va_up ν 8 f1_0) 9 f1_1) 12 (fun _ => i1_2)) 13 (fun _ => i1_3)) 14 (fun _ => i1_4)) 15 (fun _ => i1_5))) [(0, .ref (b 20))] [] 4
  have loop_4 : ∀ (n : Nat) (x : Res) (f8 f9 : Rw) (i12 i13 i14 i15 : Int32), GR (nN (μ 0 5)) p x → POut 4 (ν 8) (ν 9) L x f8 f9 i12 i13 i14 i15 → 60 ≤ n + x.2.1 → (lvS (lkS (μ 0)) (sgS (lkS (μ 0)) u 1) 5) p = lpS (lkS (μ 0)) (lvS (lkS (μ 0)) (sgS (lkS (μ 0)) u 1) 4) 0 n x → V X (wM k b μ (va_up (va_up (va_up (va_up (va_up (va_up ν 8 f8) 9 f9) 12 (fun _ => i12)) 13 (fun _ => i13)) 14 (fun _ => i14)) 15 (fun _ => i15))) [(0, .ref (b 20))] [] 4 := by
    intro n
    induction n with
    | zero =>
      intro x f8 f9 i12 i13 i14 i15 hg hx hi hv
      have hxb := hg.2.1
      have hz : lkS (μ 0) x.2.1 = -1 := lk_tok x.2.1 (by omega)
      refine V.aload_n (pc := 4) 0 hC dX7_any_4 rfl ?_
      refine V.get (pc := 5) (v := .int i15) hC cf_X7 0 15 fl_X7_135 (by decide) gm_0 rfl dX7_any_5 ?_
      refine V.eqi (y := bdS x) (hx.2.2.1) ?_
      refine V.if_ne (pc := 8) 44 hC dX7_any_8 (by decide) (fun c_8 => ?_) (fun c_8 => ?_)
      · exact hR (f8, f9, i12, i13, i14, i15) _ _ dX7_any_44 ⟨rfl, by rw [show (lvS (lkS (μ 0)) (sgS (lkS (μ 0)) u 1) 5) p = x from hv.trans (lp_no (fun q => bd_1 c_8 q.1))]; exact hx⟩
      · refine V.aload_n (pc := 11) 0 hC dX7_any_11 rfl ?_
        refine V.callV0 (pc := 12) (as := []) hC (c_X7_look μ (va_up (va_up (va_up (va_up (va_up (va_up ν 8 f8) 9 f9) 12 (fun _ => i12)) 13 (fun _ => i13)) 14 (fun _ => i14)) 15 (fun _ => i15)) x.2.1 hI hx.1 (by omega)) mu_X7_look ml_X7_131 (by decide) ⟨0, 7, TX7, 20, _, rfl, gm_0⟩ rfl (Nat.le_of_ble_eq_true rfl) dX7_any_12 ?_
        rintro _ _ rfl
        show V X (wM k b μ (va_up (va_up (va_up (va_up (va_up (va_up ν 8 f8) 9 f9) 12 (fun _ => i12)) 13 (fun _ => i13)) 14 (fun _ => i14)) 15 (fun _ => i15))) [(0, .ref (b 20))] [.int (lkS (μ 0) x.2.1)] 15
        refine V.bipush (pc := 15) 124 hC dX7_any_15 (by decide) ?_
        refine V.icmp_ne (pc := 17) 44 hC dX7_any_17 (by decide) (fun c_17 => ?_) (fun c_17 => ?_)
        · exact hR (f8, f9, i12, i13, i14, i15) _ _ dX7_any_44 ⟨rfl, by rw [show (lvS (lkS (μ 0)) (sgS (lkS (μ 0)) u 1) 5) p = x from hv.trans (lp_no (fun q => c_17 (rk_0.mp q.2)))]; exact hx⟩
        · exact absurd c_17 (by rw [hz]; decide)
    | succ n ih =>
      intro x f8 f9 i12 i13 i14 i15 hg hx hi hv
      have hxb := hg.2.1
      refine V.aload_n (pc := 4) 0 hC dX7_any_4 rfl ?_
      refine V.get (pc := 5) (v := .int i15) hC cf_X7 0 15 fl_X7_135 (by decide) gm_0 rfl dX7_any_5 ?_
      refine V.eqi (y := bdS x) (hx.2.2.1) ?_
      refine V.if_ne (pc := 8) 44 hC dX7_any_8 (by decide) (fun c_8 => ?_) (fun c_8 => ?_)
      · exact hR (f8, f9, i12, i13, i14, i15) _ _ dX7_any_44 ⟨rfl, by rw [show (lvS (lkS (μ 0)) (sgS (lkS (μ 0)) u 1) 5) p = x from hv.trans (lp_no (fun q => bd_1 c_8 q.1))]; exact hx⟩
      · refine V.aload_n (pc := 11) 0 hC dX7_any_11 rfl ?_
        refine V.callV0 (pc := 12) (as := []) hC (c_X7_look μ (va_up (va_up (va_up (va_up (va_up (va_up ν 8 f8) 9 f9) 12 (fun _ => i12)) 13 (fun _ => i13)) 14 (fun _ => i14)) 15 (fun _ => i15)) x.2.1 hI hx.1 (by omega)) mu_X7_look ml_X7_131 (by decide) ⟨0, 7, TX7, 20, _, rfl, gm_0⟩ rfl (Nat.le_of_ble_eq_true rfl) dX7_any_12 ?_
        rintro _ _ rfl
        show V X (wM k b μ (va_up (va_up (va_up (va_up (va_up (va_up ν 8 f8) 9 f9) 12 (fun _ => i12)) 13 (fun _ => i13)) 14 (fun _ => i14)) 15 (fun _ => i15))) [(0, .ref (b 20))] [.int (lkS (μ 0) x.2.1)] 15
        refine V.bipush (pc := 15) 124 hC dX7_any_15 (by decide) ?_
        refine V.icmp_ne (pc := 17) 44 hC dX7_any_17 (by decide) (fun c_17 => ?_) (fun c_17 => ?_)
        · exact hR (f8, f9, i12, i13, i14, i15) _ _ dX7_any_44 ⟨rfl, by rw [show (lvS (lkS (μ 0)) (sgS (lkS (μ 0)) u 1) 5) p = x from hv.trans (lp_no (fun q => c_17 (rk_0.mp q.2)))]; exact hx⟩
        · have hok := bd_0 c_8
          have hgx := hg.2.2 hok
          have hrk : rkS (lkS (μ 0) x.2.1) = 0 := rk_0.mpr (c_17)
          have hlt : x.2.1 < nN (μ 0 5) := tok_lt lk_tok (rk_op hrk (by omega)).2
          have hgy := (lv_g (lk_tok (ρ := μ 0)) (sg_g (u := u) (lk_tok (ρ := μ 0)) 1) 4) (x.2.1 + 1) hlt
          have hgb := hg.2.1
          refine V.aload_n (pc := 20) 0 hC dX7_any_20 rfl ?_
          refine V.dup (pc := 21) hC dX7_any_21 rfl ?_
          refine V.get (pc := 22) (v := .int i13) hC cf_X7 0 13 fl_X7_121 (by decide) gm_0 rfl dX7_any_22 ?_
          refine V.iconst (pc := 25) 1 hC dX7_any_25 (by decide) ?_
          refine V.iadd (pc := 26) hC dX7_any_26 ?_
          refine V.put (pc := 27) (v := .int (i13 + 1)) hC cf_X7 0 13 (wM k b μ (va_up (va_up (va_up (va_up (va_up (va_up ν 8 f8) 9 f9) 12 (fun _ => i12)) 13 (fun _ => i13 + 1)) 14 (fun _ => i14)) 15 (fun _ => i15))) fl_X7_121 (by decide) gm_0 rfl rfl rfl (Nat.le_of_ble_eq_true rfl) rfl dX7_any_27 ?_
          refine V.aload_n (pc := 30) 0 hC dX7_any_30 rfl ?_
          refine V.callV0 (pc := 31) (as := []) hC (c_X7_all_1 μ (va_up (va_up (va_up (va_up (va_up (va_up ν 8 f8) 9 f9) 12 (fun _ => i12)) 13 (fun _ => i13 + 1)) 14 (fun _ => i14)) 15 (fun _ => i15)) u (L + x.2.2.length) (x.2.1 + 1) hI ⟨hP.1, (hx.2.2.2.2 hok).1, nadd hx.1 (nl 1), hx.2.1, hx.2.2.1.trans c_8, by omega, hlt⟩) mu_X7_all ml_X7_171 (by decide) ⟨0, 7, TX7, 20, _, rfl, gm_0⟩ rfl (Nat.le_of_ble_eq_true rfl) dX7_any_31 ?_
          rintro _ ⟨f31_0, f31_1, i31_2, i31_3, i31_4, i31_5⟩ ⟨rfl, hu31_0⟩
          have hu31_0 : POut 4 (f8) (f9) (L + x.2.2.length) ((lvS (lkS (μ 0)) (sgS (lkS (μ 0)) u 1) 4) (x.2.1 + 1)) f31_0 f31_1 i31_2 i31_3 i31_4 i31_5 := hu31_0
          show V X (wM k b μ (va_up (va_up (va_up (va_up (va_up (va_up ν 8 f31_0) 9 f31_1) 12 (fun _ => i31_2)) 13 (fun _ => i31_3)) 14 (fun _ => i31_4)) 15 (fun _ => i31_5))) [(0, .ref (b 20))] [] 34
          refine V.aload_n (pc := 34) 0 hC dX7_any_34 rfl ?_
          refine V.bipush (pc := 35) 124 hC dX7_any_35 (by decide) ?_
          refine V.iconst (pc := 37) 0 hC dX7_any_37 (by decide) ?_
          refine V.callV0 (pc := 38) (as := [.int 124, .int 0]) hC (c_X7_step μ (va_up (va_up (va_up (va_up (va_up (va_up ν 8 f31_0) 9 f31_1) 12 (fun _ => i31_2)) 13 (fun _ => i31_3)) 14 (fun _ => i31_4)) 15 (fun _ => i31_5)) 124 0 hu31_0.2.2.2.1) mu_X7_step ml_X7_139 (by decide) ⟨0, 7, TX7, 20, _, rfl, gm_0⟩ rfl (Nat.le_of_ble_eq_true rfl) dX7_any_38 ?_
          rintro _ ⟨f38_0, f38_1, i38_2⟩ ⟨rfl, hu38_0⟩
          have hu38_0 : StF (f31_0) (f31_1) (i31_2) 124 0 f38_0 f38_1 i38_2 := hu38_0
          show V X (wM k b μ (va_up (va_up (va_up (va_up (va_up (va_up ν 8 f38_0) 9 f38_1) 12 (fun _ => i38_2)) 13 (fun _ => i31_3)) 14 (fun _ => i31_4)) 15 (fun _ => i31_5))) [(0, .ref (b 20))] [] 41
          refine V.goto (pc := 41) 4 hC dX7_any_41 (by decide) ?_
          exact V.sub [0] rfl (ih (appS x ((lvS (lkS (μ 0)) (sgS (lkS (μ 0)) u 1) 4) (x.2.1 + 1)) (lkS (μ 0) x.2.1)) f38_0 f38_1 i38_2 i31_3 i31_4 i31_5 (hg.app hok hgy (rk_op hrk (by omega)).1) (PO_app hx hok hu31_0 (by rw [c_17]; exact hu38_0) (fun q => by have := hgy.2.2 q; have := hgy.2.1; omega)) (by have := hgy.1; show 60 ≤ n + ((lvS (lkS (μ 0)) (sgS (lkS (μ 0)) u 1) 4) (x.2.1 + 1)).2.1; omega) (hv.trans (lp_yes ⟨hok, hrk⟩)))
  exact V.sub [0] rfl (loop_4 60 ((lvS (lkS (μ 0)) (sgS (lkS (μ 0)) u 1) 4) p) f1_0 f1_1 i1_2 i1_3 i1_4 i1_5 ((lv_g (lk_tok (ρ := μ 0)) (sg_g (u := u) (lk_tok (ρ := μ 0)) 1) 4) p (by omega)) hu1_0 (by omega) rfl)
set_option maxHeartbeats 4000000 in
set_option maxRecDepth 100000 in
theorem c_X7_opens_2 {l : Launch} {D : va_G} {k : Nat → ClassId} {g b : Nat → Nat} (μ ν : St) (u : Int32) (L p : Nat) (s : Int32) (hI : Inv (μ 0)) (hP : PIn (nN (μ 0 5)) (ν 12 0) (ν 13 0) (ν 14 0) (ν 15 0) (ν 16 0) u 3 L p) (hs : s = lkS (μ 0) p) (hc : lkS (μ 0) p = 33 ∨ lkS (μ 0) p = 40) : Ct l D k g yX7_opens cX7_opens 2 none 15 315 [.ref (b 20), .int s] (S := Rw × Rw × Int32 × Int32 × Int32 × Int32) (wM k b μ ν) (fun uu => wM k b μ (va_up (va_up (va_up (va_up (va_up (va_up ν 8 uu.1) 9 uu.2.1) 12 (fun _ => uu.2.2.1)) 13 (fun _ => uu.2.2.2.1)) 14 (fun _ => uu.2.2.2.2.1)) 15 (fun _ => uu.2.2.2.2.2))) (fun vv uu => vv = none ∧ POut 3 (ν 8) (ν 9) L (opG (lkS (μ 0)) true (sgS (lkS (μ 0)) u 1) (lvS (lkS (μ 0)) (sgS (lkS (μ 0)) u 1) 5) p) uu.1 uu.2.1 uu.2.2.1 uu.2.2.2.1 uu.2.2.2.2.1 uu.2.2.2.2.2) := by
  refine Ct.ofV RX7 rfl (by decide +kernel) (Nat.le_of_ble_eq_true rfl) (fun X hC hR => ?_)
  have hb60 := hI.bb; have hle := hP.2.2.2.2.2
  have hlt : p < nN (μ 0 5) := tok_lt lk_tok (fun q => by rw [q] at hc; exact absurd hc (by decide))
  show V X (wM k b μ ν) [(0, .ref (b 20)), (1, .int s)] [] 0
  refine V.aload_n (pc := 0) 0 hC dX7_opens_0 rfl ?_
  refine V.get (pc := 1) (v := .int (ν 14 0)) hC cf_X7 0 14 fl_X7_143 (by decide) gm_0 rfl dX7_opens_1 ?_
  refine V.eqi (y := 3) (hP.2.2.2.1) ?_
  refine V.iconst (pc := 4) 5 hC dX7_opens_4 (by decide) ?_
  refine V.icmp_ne (pc := 5) 14 hC dX7_opens_5 (by decide) (fun c_5 => ?_) (fun c_5 => ?_)
  · have nc_5 : ¬ (3 = 5) := fun z => c_5 ((neq (nl 3) (nl 5) (by omega) (by omega)).mpr z)
    refine V.aload_n (pc := 14) 0 hC dX7_opens_14 rfl ?_
    refine V.dup (pc := 15) hC dX7_opens_15 rfl ?_
    refine V.get (pc := 16) (v := .int (ν 14 0)) hC cf_X7 0 14 fl_X7_143 (by decide) gm_0 rfl dX7_opens_16 ?_
    refine V.eqi (y := 3) (hP.2.2.2.1) ?_
    refine V.iconst (pc := 19) 1 hC dX7_opens_19 (by decide) ?_
    refine V.iadd (pc := 20) hC dX7_opens_20 ?_
    refine V.put (pc := 21) (v := .int (3 + 1)) hC cf_X7 0 14 (wM k b μ (va_up ν 14 (fun _ => 3 + 1))) fl_X7_143 (by decide) gm_0 rfl rfl rfl (Nat.le_of_ble_eq_true rfl) rfl dX7_opens_21 ?_
    refine V.aload_n (pc := 24) 0 hC dX7_opens_24 rfl ?_
    refine V.dup (pc := 25) hC dX7_opens_25 rfl ?_
    refine V.get (pc := 26) (v := .int (ν 13 0)) hC cf_X7 0 13 fl_X7_121 (by decide) gm_0 rfl dX7_opens_26 ?_
    refine V.iconst (pc := 29) 1 hC dX7_opens_29 (by decide) ?_
    refine V.iadd (pc := 30) hC dX7_opens_30 ?_
    refine V.put (pc := 31) (v := .int ((ν 13 0) + 1)) hC cf_X7 0 13 (wM k b μ (va_up (va_up ν 14 (fun _ => 3 + 1)) 13 (fun _ => (ν 13 0) + 1))) fl_X7_121 (by decide) gm_0 rfl rfl rfl (Nat.le_of_ble_eq_true rfl) rfl dX7_opens_31 ?_
    refine V.iload_n (pc := 34) 1 hC dX7_opens_34 rfl ?_
    refine V.bipush (pc := 35) 33 hC dX7_opens_35 (by decide) ?_
    refine V.icmp_ne (pc := 37) 53 hC dX7_opens_37 (by decide) (fun c_37 => ?_) (fun c_37 => ?_)
    · refine V.aload_n (pc := 53) 0 hC dX7_opens_53 rfl ?_
      refine V.callV0 (pc := 54) (as := []) hC (c_X7_any_1 μ (va_up (va_up ν 14 (fun _ => 3 + 1)) 13 (fun _ => (ν 13 0) + 1)) u L (p + 1) hI ⟨hP.1, hP.2.1, nadd hP.2.2.1 (nl 1), rfl, hP.2.2.2.2.1, by omega, hlt⟩) mu_X7_any ml_X7_149 (by decide) ⟨0, 7, TX7, 20, _, rfl, gm_0⟩ rfl (Nat.le_of_ble_eq_true rfl) dX7_opens_54 ?_
      rintro _ ⟨f54_0, f54_1, i54_2, i54_3, i54_4, i54_5⟩ ⟨rfl, hu54_0⟩
      have hu54_0 : POut 4 ((ν 8)) ((ν 9)) L ((lvS (lkS (μ 0)) (sgS (lkS (μ 0)) u 1) 5) (p + 1)) f54_0 f54_1 i54_2 i54_3 i54_4 i54_5 := hu54_0
      show V X (wM k b μ (va_up (va_up (va_up (va_up (va_up (va_up ν 14 (fun _ => i54_4)) 13 (fun _ => i54_3)) 8 f54_0) 9 f54_1) 12 (fun _ => i54_2)) 15 (fun _ => i54_5))) [(0, .ref (b 20)), (1, .int s)] [] 57
      refine V.aload_n (pc := 57) 0 hC dX7_opens_57 rfl ?_
      refine V.aload_n (pc := 58) 0 hC dX7_opens_58 rfl ?_
      refine V.get (pc := 59) (v := .int i54_5) hC cf_X7 0 15 fl_X7_135 (by decide) gm_0 rfl dX7_opens_59 ?_
      refine V.eqi (y := bdS ((lvS (lkS (μ 0)) (sgS (lkS (μ 0)) u 1) 5) (p + 1))) (hu54_0.2.2.1) ?_
      refine V.if_ne (pc := 62) 74 hC dX7_opens_62 (by decide) (fun c_62 => ?_) (fun c_62 => ?_)
      · refine V.iconst (pc := 74) 1 hC dX7_opens_74 (by decide) ?_
        refine V.goto (pc := 75) 79 hC dX7_opens_75 (by decide) ?_
        refine V.put (pc := 79) (v := .int 1) hC cf_X7 0 15 (wM k b μ (va_up (va_up (va_up (va_up (va_up (va_up ν 14 (fun _ => i54_4)) 13 (fun _ => i54_3)) 8 f54_0) 9 f54_1) 12 (fun _ => i54_2)) 15 (fun _ => 1))) fl_X7_135 (by decide) gm_0 rfl rfl rfl (Nat.le_of_ble_eq_true rfl) rfl dX7_opens_79 ?_
        refine V.aload_n (pc := 82) 0 hC dX7_opens_82 rfl ?_
        refine V.dup (pc := 83) hC dX7_opens_83 rfl ?_
        refine V.get (pc := 84) (v := .int i54_3) hC cf_X7 0 13 fl_X7_121 (by decide) gm_0 rfl dX7_opens_84 ?_
        refine V.aload_n (pc := 87) 0 hC dX7_opens_87 rfl ?_
        refine V.get (pc := 88) (v := .int 1) hC cf_X7 0 15 fl_X7_135 (by decide) gm_0 rfl dX7_opens_88 ?_
        refine V.if_eq (pc := 91) 98 hC dX7_opens_91 (by decide) (fun c_91 => ?_) (fun c_91 => ?_)
        · exact absurd c_91 (by decide)
        · refine V.iconst (pc := 94) 0 hC dX7_opens_94 (by decide) ?_
          refine V.goto (pc := 95) 99 hC dX7_opens_95 (by decide) ?_
          refine V.iadd (pc := 99) hC dX7_opens_99 ?_
          refine V.put (pc := 100) (v := .int (i54_3 + 0)) hC cf_X7 0 13 (wM k b μ (va_up (va_up (va_up (va_up (va_up (va_up ν 14 (fun _ => i54_4)) 13 (fun _ => i54_3 + 0)) 8 f54_0) 9 f54_1) 12 (fun _ => i54_2)) 15 (fun _ => 1))) fl_X7_121 (by decide) gm_0 rfl rfl rfl (Nat.le_of_ble_eq_true rfl) rfl dX7_opens_100 ?_
          refine V.aload_n (pc := 103) 0 hC dX7_opens_103 rfl ?_
          refine V.dup (pc := 104) hC dX7_opens_104 rfl ?_
          refine V.get (pc := 105) (v := .int i54_4) hC cf_X7 0 14 fl_X7_143 (by decide) gm_0 rfl dX7_opens_105 ?_
          refine V.iconst (pc := 108) 1 hC dX7_opens_108 (by decide) ?_
          refine V.isub (pc := 109) hC dX7_opens_109 ?_
          refine V.put (pc := 110) (v := .int (i54_4 - 1)) hC cf_X7 0 14 (wM k b μ (va_up (va_up (va_up (va_up (va_up (va_up ν 14 (fun _ => i54_4 - 1)) 13 (fun _ => i54_3 + 0)) 8 f54_0) 9 f54_1) 12 (fun _ => i54_2)) 15 (fun _ => 1))) fl_X7_143 (by decide) gm_0 rfl rfl rfl (Nat.le_of_ble_eq_true rfl) rfl dX7_opens_110 ?_
          exact hR (f54_0, f54_1, i54_2, i54_3 + 0, i54_4 - 1, 1) _ _ dX7_opens_113 ⟨rfl, by rw [opG, if_neg (by decide), if_neg (fun q => c_37 (hs.trans q)), if_neg (fun q => c_62 (if_pos q.1))]; exact PO_bad (nadd hu54_0.1 (nl 0)) (by rw [hu54_0.2.1]; rfl) rfl hu54_0.2.2.2.1⟩
      · refine V.aload_n (pc := 65) 0 hC dX7_opens_65 rfl ?_
        refine V.callV0 (pc := 66) (as := []) hC (c_X7_look μ (va_up (va_up (va_up (va_up (va_up (va_up ν 14 (fun _ => i54_4)) 13 (fun _ => i54_3)) 8 f54_0) 9 f54_1) 12 (fun _ => i54_2)) 15 (fun _ => i54_5)) (((lvS (lkS (μ 0)) (sgS (lkS (μ 0)) u 1) 5) (p + 1)).2.1) hI hu54_0.1 (by have := ((lv_g (lk_tok (ρ := μ 0)) (sg_g (u := u) (lk_tok (ρ := μ 0)) 1) 5) (p + 1) hlt).2.1; omega)) mu_X7_look ml_X7_131 (by decide) ⟨0, 7, TX7, 20, _, rfl, gm_0⟩ rfl (Nat.le_of_ble_eq_true rfl) dX7_opens_66 ?_
        rintro _ _ rfl
        show V X (wM k b μ (va_up (va_up (va_up (va_up (va_up (va_up ν 14 (fun _ => i54_4)) 13 (fun _ => i54_3)) 8 f54_0) 9 f54_1) 12 (fun _ => i54_2)) 15 (fun _ => i54_5))) [(0, .ref (b 20)), (1, .int s)] [.int (lkS (μ 0) (((lvS (lkS (μ 0)) (sgS (lkS (μ 0)) u 1) 5) (p + 1)).2.1)), .ref (b 20)] 69
        refine V.bipush (pc := 69) 41 hC dX7_opens_69 (by decide) ?_
        refine V.icmp_eq (pc := 71) 78 hC dX7_opens_71 (by decide) (fun c_71 => ?_) (fun c_71 => ?_)
        · refine V.iconst (pc := 78) 0 hC dX7_opens_78 (by decide) ?_
          refine V.put (pc := 79) (v := .int 0) hC cf_X7 0 15 (wM k b μ (va_up (va_up (va_up (va_up (va_up (va_up ν 14 (fun _ => i54_4)) 13 (fun _ => i54_3)) 8 f54_0) 9 f54_1) 12 (fun _ => i54_2)) 15 (fun _ => 0))) fl_X7_135 (by decide) gm_0 rfl rfl rfl (Nat.le_of_ble_eq_true rfl) rfl dX7_opens_79 ?_
          refine V.aload_n (pc := 82) 0 hC dX7_opens_82 rfl ?_
          refine V.dup (pc := 83) hC dX7_opens_83 rfl ?_
          refine V.get (pc := 84) (v := .int i54_3) hC cf_X7 0 13 fl_X7_121 (by decide) gm_0 rfl dX7_opens_84 ?_
          refine V.aload_n (pc := 87) 0 hC dX7_opens_87 rfl ?_
          refine V.get (pc := 88) (v := .int 0) hC cf_X7 0 15 fl_X7_135 (by decide) gm_0 rfl dX7_opens_88 ?_
          refine V.if_eq (pc := 91) 98 hC dX7_opens_91 (by decide) (fun c_91 => ?_) (fun c_91 => ?_)
          · refine V.iconst (pc := 98) 1 hC dX7_opens_98 (by decide) ?_
            refine V.iadd (pc := 99) hC dX7_opens_99 ?_
            refine V.put (pc := 100) (v := .int (i54_3 + 1)) hC cf_X7 0 13 (wM k b μ (va_up (va_up (va_up (va_up (va_up (va_up ν 14 (fun _ => i54_4)) 13 (fun _ => i54_3 + 1)) 8 f54_0) 9 f54_1) 12 (fun _ => i54_2)) 15 (fun _ => 0))) fl_X7_121 (by decide) gm_0 rfl rfl rfl (Nat.le_of_ble_eq_true rfl) rfl dX7_opens_100 ?_
            refine V.aload_n (pc := 103) 0 hC dX7_opens_103 rfl ?_
            refine V.dup (pc := 104) hC dX7_opens_104 rfl ?_
            refine V.get (pc := 105) (v := .int i54_4) hC cf_X7 0 14 fl_X7_143 (by decide) gm_0 rfl dX7_opens_105 ?_
            refine V.iconst (pc := 108) 1 hC dX7_opens_108 (by decide) ?_
            refine V.isub (pc := 109) hC dX7_opens_109 ?_
            refine V.put (pc := 110) (v := .int (i54_4 - 1)) hC cf_X7 0 14 (wM k b μ (va_up (va_up (va_up (va_up (va_up (va_up ν 14 (fun _ => i54_4 - 1)) 13 (fun _ => i54_3 + 1)) 8 f54_0) 9 f54_1) 12 (fun _ => i54_2)) 15 (fun _ => 0))) fl_X7_143 (by decide) gm_0 rfl rfl rfl (Nat.le_of_ble_eq_true rfl) rfl dX7_opens_110 ?_
            exact hR (f54_0, f54_1, i54_2, i54_3 + 1, i54_4 - 1, 0) _ _ dX7_opens_113 ⟨rfl, by rw [opG, if_neg (by decide), if_neg (fun q => c_37 (hs.trans q)), if_pos ⟨bd_0 c_62, c_71⟩]; exact ⟨nadd hu54_0.1 (nl 1), (by rw [hu54_0.2.1]; rfl), rfl, hu54_0.2.2.2.1, fun _ => hu54_0.2.2.2.2 (bd_0 c_62)⟩⟩
          · exact absurd c_91 (by decide)
        · refine V.iconst (pc := 74) 1 hC dX7_opens_74 (by decide) ?_
          refine V.goto (pc := 75) 79 hC dX7_opens_75 (by decide) ?_
          refine V.put (pc := 79) (v := .int 1) hC cf_X7 0 15 (wM k b μ (va_up (va_up (va_up (va_up (va_up (va_up ν 14 (fun _ => i54_4)) 13 (fun _ => i54_3)) 8 f54_0) 9 f54_1) 12 (fun _ => i54_2)) 15 (fun _ => 1))) fl_X7_135 (by decide) gm_0 rfl rfl rfl (Nat.le_of_ble_eq_true rfl) rfl dX7_opens_79 ?_
          refine V.aload_n (pc := 82) 0 hC dX7_opens_82 rfl ?_
          refine V.dup (pc := 83) hC dX7_opens_83 rfl ?_
          refine V.get (pc := 84) (v := .int i54_3) hC cf_X7 0 13 fl_X7_121 (by decide) gm_0 rfl dX7_opens_84 ?_
          refine V.aload_n (pc := 87) 0 hC dX7_opens_87 rfl ?_
          refine V.get (pc := 88) (v := .int 1) hC cf_X7 0 15 fl_X7_135 (by decide) gm_0 rfl dX7_opens_88 ?_
          refine V.if_eq (pc := 91) 98 hC dX7_opens_91 (by decide) (fun c_91 => ?_) (fun c_91 => ?_)
          · exact absurd c_91 (by decide)
          · refine V.iconst (pc := 94) 0 hC dX7_opens_94 (by decide) ?_
            refine V.goto (pc := 95) 99 hC dX7_opens_95 (by decide) ?_
            refine V.iadd (pc := 99) hC dX7_opens_99 ?_
            refine V.put (pc := 100) (v := .int (i54_3 + 0)) hC cf_X7 0 13 (wM k b μ (va_up (va_up (va_up (va_up (va_up (va_up ν 14 (fun _ => i54_4)) 13 (fun _ => i54_3 + 0)) 8 f54_0) 9 f54_1) 12 (fun _ => i54_2)) 15 (fun _ => 1))) fl_X7_121 (by decide) gm_0 rfl rfl rfl (Nat.le_of_ble_eq_true rfl) rfl dX7_opens_100 ?_
            refine V.aload_n (pc := 103) 0 hC dX7_opens_103 rfl ?_
            refine V.dup (pc := 104) hC dX7_opens_104 rfl ?_
            refine V.get (pc := 105) (v := .int i54_4) hC cf_X7 0 14 fl_X7_143 (by decide) gm_0 rfl dX7_opens_105 ?_
            refine V.iconst (pc := 108) 1 hC dX7_opens_108 (by decide) ?_
            refine V.isub (pc := 109) hC dX7_opens_109 ?_
            refine V.put (pc := 110) (v := .int (i54_4 - 1)) hC cf_X7 0 14 (wM k b μ (va_up (va_up (va_up (va_up (va_up (va_up ν 14 (fun _ => i54_4 - 1)) 13 (fun _ => i54_3 + 0)) 8 f54_0) 9 f54_1) 12 (fun _ => i54_2)) 15 (fun _ => 1))) fl_X7_143 (by decide) gm_0 rfl rfl rfl (Nat.le_of_ble_eq_true rfl) rfl dX7_opens_110 ?_
            exact hR (f54_0, f54_1, i54_2, i54_3 + 0, i54_4 - 1, 1) _ _ dX7_opens_113 ⟨rfl, by rw [opG, if_neg (by decide), if_neg (fun q => c_37 (hs.trans q)), if_neg (fun q => c_71 q.2)]; exact PO_bad (nadd hu54_0.1 (nl 0)) (by rw [hu54_0.2.1]; rfl) rfl hu54_0.2.2.2.1⟩
    · refine V.aload_n (pc := 40) 0 hC dX7_opens_40 rfl ?_
      refine V.callV0 (pc := 41) (as := []) hC (c_X7_one_1 μ (va_up (va_up ν 14 (fun _ => 3 + 1)) 13 (fun _ => (ν 13 0) + 1)) u L (p + 1) hI ⟨hP.1, hP.2.1, nadd hP.2.2.1 (nl 1), rfl, hP.2.2.2.2.1, by omega, hlt⟩) mu_X7_one ml_X7_146 (by decide) ⟨0, 7, TX7, 20, _, rfl, gm_0⟩ rfl (Nat.le_of_ble_eq_true rfl) dX7_opens_41 ?_
      rintro _ ⟨f41_0, f41_1, i41_2, i41_3, i41_4, i41_5⟩ ⟨rfl, hu41_0⟩
      have hu41_0 : POut 4 ((ν 8)) ((ν 9)) L ((sgS (lkS (μ 0)) u 1) (p + 1)) f41_0 f41_1 i41_2 i41_3 i41_4 i41_5 := hu41_0
      show V X (wM k b μ (va_up (va_up (va_up (va_up (va_up (va_up ν 14 (fun _ => i41_4)) 13 (fun _ => i41_3)) 8 f41_0) 9 f41_1) 12 (fun _ => i41_2)) 15 (fun _ => i41_5))) [(0, .ref (b 20)), (1, .int s)] [] 44
      refine V.aload_n (pc := 44) 0 hC dX7_opens_44 rfl ?_
      refine V.iconst (pc := 45) 3 hC dX7_opens_45 (by decide) ?_
      refine V.iconst (pc := 46) 0 hC dX7_opens_46 (by decide) ?_
      refine V.callV0 (pc := 47) (as := [.int 3, .int 0]) hC (c_X7_step μ (va_up (va_up (va_up (va_up (va_up (va_up ν 14 (fun _ => i41_4)) 13 (fun _ => i41_3)) 8 f41_0) 9 f41_1) 12 (fun _ => i41_2)) 15 (fun _ => i41_5)) 3 0 hu41_0.2.2.2.1) mu_X7_step ml_X7_139 (by decide) ⟨0, 7, TX7, 20, _, rfl, gm_0⟩ rfl (Nat.le_of_ble_eq_true rfl) dX7_opens_47 ?_
      rintro _ ⟨f47_0, f47_1, i47_2⟩ ⟨rfl, hu47_0⟩
      have hu47_0 : StF (f41_0) (f41_1) (i41_2) 3 0 f47_0 f47_1 i47_2 := hu47_0
      show V X (wM k b μ (va_up (va_up (va_up (va_up (va_up (va_up ν 14 (fun _ => i41_4)) 13 (fun _ => i41_3)) 8 f47_0) 9 f47_1) 12 (fun _ => i47_2)) 15 (fun _ => i41_5))) [(0, .ref (b 20)), (1, .int s)] [] 50
      refine V.goto (pc := 50) 103 hC dX7_opens_50 (by decide) ?_
      refine V.aload_n (pc := 103) 0 hC dX7_opens_103 rfl ?_
      refine V.dup (pc := 104) hC dX7_opens_104 rfl ?_
      refine V.get (pc := 105) (v := .int i41_4) hC cf_X7 0 14 fl_X7_143 (by decide) gm_0 rfl dX7_opens_105 ?_
      refine V.iconst (pc := 108) 1 hC dX7_opens_108 (by decide) ?_
      refine V.isub (pc := 109) hC dX7_opens_109 ?_
      refine V.put (pc := 110) (v := .int (i41_4 - 1)) hC cf_X7 0 14 (wM k b μ (va_up (va_up (va_up (va_up (va_up (va_up ν 14 (fun _ => i41_4 - 1)) 13 (fun _ => i41_3)) 8 f47_0) 9 f47_1) 12 (fun _ => i47_2)) 15 (fun _ => i41_5))) fl_X7_143 (by decide) gm_0 rfl rfl rfl (Nat.le_of_ble_eq_true rfl) rfl dX7_opens_110 ?_
      exact hR (f47_0, f47_1, i47_2, i41_3, i41_4 - 1, i41_5) _ _ dX7_opens_113 ⟨rfl, by rw [opG, if_neg (by decide), if_pos (hs.symm.trans c_37)]; exact PO_deny hu41_0 hu47_0 (fun q => by have := ((sg_g (u := u) (lk_tok (ρ := μ 0)) 1) (p + 1) hlt).2.2 q; have := ((sg_g (u := u) (lk_tok (ρ := μ 0)) 1) (p + 1) hlt).2.1; omega) (by rw [hu41_0.2.1]; rfl)⟩
  · have nc_5 : 3 = 5 := (neq (nl 3) (nl 5) (by omega) (by omega)).mp c_5
    exact absurd c_5 (by decide)
set_option maxHeartbeats 4000000 in
set_option maxRecDepth 100000 in
theorem c_X7_one_2 {l : Launch} {D : va_G} {k : Nat → ClassId} {g b : Nat → Nat} (μ ν : St) (u : Int32) (L p : Nat) (hI : Inv (μ 0)) (hP : PIn (nN (μ 0 5)) (ν 12 0) (ν 13 0) (ν 14 0) (ν 15 0) (ν 16 0) u 3 L p) : Ct l D k g yX7_one cX7_one 3 none 16 336 [.ref (b 20)] (S := Rw × Rw × Int32 × Int32 × Int32 × Int32) (wM k b μ ν) (fun uu => wM k b μ (va_up (va_up (va_up (va_up (va_up (va_up ν 8 uu.1) 9 uu.2.1) 12 (fun _ => uu.2.2.1)) 13 (fun _ => uu.2.2.2.1)) 14 (fun _ => uu.2.2.2.2.1)) 15 (fun _ => uu.2.2.2.2.2))) (fun vv uu => vv = none ∧ POut 3 (ν 8) (ν 9) L ((sgS (lkS (μ 0)) u 2) p) uu.1 uu.2.1 uu.2.2.1 uu.2.2.2.1 uu.2.2.2.2.1 uu.2.2.2.2.2) := by
  refine Ct.ofV RX7 rfl (by decide +kernel) (Nat.le_of_ble_eq_true rfl) (fun X hC hR => ?_)
  have hb60 := hI.bb; have hle := hP.2.2.2.2.2
  show V X (wM k b μ ν) [(0, .ref (b 20))] [] 0
  refine V.aload_n (pc := 0) 0 hC dX7_one_0 rfl ?_
  refine V.callV0 (pc := 1) (as := []) hC (c_X7_look μ ν p hI hP.2.2.1 (by omega)) mu_X7_look ml_X7_131 (by decide) ⟨0, 7, TX7, 20, _, rfl, gm_0⟩ rfl (Nat.le_of_ble_eq_true rfl) dX7_one_1 ?_
  rintro _ _ rfl
  show V X (wM k b μ ν) [(0, .ref (b 20))] [.int (lkS (μ 0) p)] 4
  refine V.istore_n (pc := 4) [(1, .int (lkS (μ 0) p)), (0, .ref (b 20))] hC dX7_one_4 (by decide) rfl ?_
  refine V.aload_n (pc := 5) 1 hC dX7_one_5 rfl ?_
  refine V.iload_n (pc := 6) 0 hC dX7_one_6 rfl ?_
  refine V.callV0 (pc := 7) (as := [.int (lkS (μ 0) p)]) hC (c_X7_nameOf μ ν (lkS (μ 0) p) ) mu_X7_nameOf ml_X7_152 (by decide) ⟨0, 7, TX7, 20, _, rfl, gm_0⟩ rfl (Nat.le_of_ble_eq_true rfl) dX7_one_7 ?_
  rintro _ _ rfl
  show V X (wM k b μ ν) [(1, .int (lkS (μ 0) p)), (0, .ref (b 20))] [.int (namS (ν 16 0) (lkS (μ 0) p))] 10
  refine V.eqi (y := namS u (lkS (μ 0) p)) (by rw [hP.1]) ?_
  refine V.istore_n (pc := 10) [(2, .int (namS u (lkS (μ 0) p))), (1, .int (lkS (μ 0) p)), (0, .ref (b 20))] hC dX7_one_10 (by decide) rfl ?_
  refine V.iload_n (pc := 11) 0 hC dX7_one_11 rfl ?_
  refine V.if_lt (pc := 12) 34 hC dX7_one_12 (by decide) (fun c_12 => ?_) (fun c_12 => ?_)
  · refine V.iload_n (pc := 34) 1 hC dX7_one_34 rfl ?_
    refine V.bipush (pc := 35) 33 hC dX7_one_35 (by decide) ?_
    refine V.icmp_eq (pc := 37) 46 hC dX7_one_37 (by decide) (fun c_37 => ?_) (fun c_37 => ?_)
    · refine V.aload_n (pc := 46) 2 hC dX7_one_46 rfl ?_
      refine V.iload_n (pc := 47) 1 hC dX7_one_47 rfl ?_
      refine V.callV0 (pc := 48) (as := [.int (lkS (μ 0) p)]) hC (c_X7_opens_2 μ ν u L p (lkS (μ 0) p) hI hP rfl (Or.inl c_37)) mu_X7_opens ml_X7_155 (by decide) ⟨0, 7, TX7, 20, _, rfl, gm_0⟩ rfl (Nat.le_of_ble_eq_true rfl) dX7_one_48 ?_
      rintro _ ⟨f48_0, f48_1, i48_2, i48_3, i48_4, i48_5⟩ ⟨rfl, hu48_0⟩
      have hu48_0 : POut 3 (ν 8) (ν 9) L (opG (lkS (μ 0)) true (sgS (lkS (μ 0)) u 1) (lvS (lkS (μ 0)) (sgS (lkS (μ 0)) u 1) 5) p) f48_0 f48_1 i48_2 i48_3 i48_4 i48_5 := hu48_0
      show V X (wM k b μ (va_up (va_up (va_up (va_up (va_up (va_up ν 8 f48_0) 9 f48_1) 12 (fun _ => i48_2)) 13 (fun _ => i48_3)) 14 (fun _ => i48_4)) 15 (fun _ => i48_5))) [(2, .int (namS u (lkS (μ 0) p))), (1, .int (lkS (μ 0) p)), (0, .ref (b 20))] [] 51
      refine V.goto (pc := 51) 58 hC dX7_one_51 (by decide) ?_
      exact hR (f48_0, f48_1, i48_2, i48_3, i48_4, i48_5) _ _ dX7_one_58 ⟨rfl, by rw [show (sgS (lkS (μ 0)) u 2) p = _ from (if_neg (i_gt c_12)).trans (if_pos (Or.inl c_37))]; exact hu48_0⟩
    · refine V.iload_n (pc := 40) 1 hC dX7_one_40 rfl ?_
      refine V.bipush (pc := 41) 40 hC dX7_one_41 (by decide) ?_
      refine V.icmp_ne (pc := 43) 54 hC dX7_one_43 (by decide) (fun c_43 => ?_) (fun c_43 => ?_)
      · refine V.aload_n (pc := 54) 2 hC dX7_one_54 rfl ?_
        refine V.callV0 (pc := 55) (as := []) hC (c_X7_number μ ν u L p 3 hI hP) mu_X7_number ml_X7_159 (by decide) ⟨0, 7, TX7, 20, _, rfl, gm_0⟩ rfl (Nat.le_of_ble_eq_true rfl) dX7_one_55 ?_
        rintro _ ⟨f55_0, f55_1, i55_2, i55_3, i55_4, i55_5⟩ ⟨rfl, hu55_0⟩
        have hu55_0 : POut 3 (ν 8) (ν 9) L (numS (lkS (μ 0)) p) f55_0 f55_1 i55_2 i55_3 i55_4 i55_5 := hu55_0
        show V X (wM k b μ (va_up (va_up (va_up (va_up (va_up (va_up ν 8 f55_0) 9 f55_1) 12 (fun _ => i55_2)) 13 (fun _ => i55_3)) 14 (fun _ => i55_4)) 15 (fun _ => i55_5))) [(2, .int (namS u (lkS (μ 0) p))), (1, .int (lkS (μ 0) p)), (0, .ref (b 20))] [] 58
        exact hR (f55_0, f55_1, i55_2, i55_3, i55_4, i55_5) _ _ dX7_one_58 ⟨rfl, by rw [show (sgS (lkS (μ 0)) u 2) p = _ from (if_neg (i_gt c_12)).trans (if_neg (fun q => q.elim c_37 c_43))]; exact hu55_0⟩
      · refine V.aload_n (pc := 46) 2 hC dX7_one_46 rfl ?_
        refine V.iload_n (pc := 47) 1 hC dX7_one_47 rfl ?_
        refine V.callV0 (pc := 48) (as := [.int (lkS (μ 0) p)]) hC (c_X7_opens_2 μ ν u L p (lkS (μ 0) p) hI hP rfl (Or.inr c_43)) mu_X7_opens ml_X7_155 (by decide) ⟨0, 7, TX7, 20, _, rfl, gm_0⟩ rfl (Nat.le_of_ble_eq_true rfl) dX7_one_48 ?_
        rintro _ ⟨f48_0, f48_1, i48_2, i48_3, i48_4, i48_5⟩ ⟨rfl, hu48_0⟩
        have hu48_0 : POut 3 (ν 8) (ν 9) L (opG (lkS (μ 0)) true (sgS (lkS (μ 0)) u 1) (lvS (lkS (μ 0)) (sgS (lkS (μ 0)) u 1) 5) p) f48_0 f48_1 i48_2 i48_3 i48_4 i48_5 := hu48_0
        show V X (wM k b μ (va_up (va_up (va_up (va_up (va_up (va_up ν 8 f48_0) 9 f48_1) 12 (fun _ => i48_2)) 13 (fun _ => i48_3)) 14 (fun _ => i48_4)) 15 (fun _ => i48_5))) [(2, .int (namS u (lkS (μ 0) p))), (1, .int (lkS (μ 0) p)), (0, .ref (b 20))] [] 51
        refine V.goto (pc := 51) 58 hC dX7_one_51 (by decide) ?_
        exact hR (f48_0, f48_1, i48_2, i48_3, i48_4, i48_5) _ _ dX7_one_58 ⟨rfl, by rw [show (sgS (lkS (μ 0)) u 2) p = _ from (if_neg (i_gt c_12)).trans (if_pos (Or.inr c_43))]; exact hu48_0⟩
  · refine V.aload_n (pc := 15) 2 hC dX7_one_15 rfl ?_
    refine V.dup (pc := 16) hC dX7_one_16 rfl ?_
    refine V.get (pc := 17) (v := .int (ν 13 0)) hC cf_X7 0 13 fl_X7_121 (by decide) gm_0 rfl dX7_one_17 ?_
    refine V.iconst (pc := 20) 1 hC dX7_one_20 (by decide) ?_
    refine V.iadd (pc := 21) hC dX7_one_21 ?_
    refine V.put (pc := 22) (v := .int ((ν 13 0) + 1)) hC cf_X7 0 13 (wM k b μ (va_up ν 13 (fun _ => (ν 13 0) + 1))) fl_X7_121 (by decide) gm_0 rfl rfl rfl (Nat.le_of_ble_eq_true rfl) rfl dX7_one_22 ?_
    refine V.aload_n (pc := 25) 2 hC dX7_one_25 rfl ?_
    refine V.iconst (pc := 26) 2 hC dX7_one_26 (by decide) ?_
    refine V.iload_n (pc := 27) 0 hC dX7_one_27 rfl ?_
    refine V.callV0 (pc := 28) (as := [.int 2, .int (namS u (lkS (μ 0) p))]) hC (c_X7_step μ (va_up ν 13 (fun _ => (ν 13 0) + 1)) 2 (namS u (lkS (μ 0) p)) (isN.mk hP.2.1 (by omega) (by omega))) mu_X7_step ml_X7_139 (by decide) ⟨0, 7, TX7, 20, _, rfl, gm_0⟩ rfl (Nat.le_of_ble_eq_true rfl) dX7_one_28 ?_
    rintro _ ⟨f28_0, f28_1, i28_2⟩ ⟨rfl, hu28_0⟩
    have hu28_0 : StF ((ν 8)) ((ν 9)) ((ν 12 0)) 2 (namS u (lkS (μ 0) p)) f28_0 f28_1 i28_2 := hu28_0
    show V X (wM k b μ (va_up (va_up (va_up (va_up ν 13 (fun _ => (ν 13 0) + 1)) 8 f28_0) 9 f28_1) 12 (fun _ => i28_2))) [(2, .int (namS u (lkS (μ 0) p))), (1, .int (lkS (μ 0) p)), (0, .ref (b 20))] [] 31
    refine V.goto (pc := 31) 58 hC dX7_one_31 (by decide) ?_
    exact hR (f28_0, f28_1, i28_2, (ν 13 0) + 1, ν 14 0, ν 15 0) _ _ dX7_one_58 ⟨rfl, by rw [show (sgS (lkS (μ 0)) u 2) p = (true, p + 1, [(2, (namS u (lkS (μ 0) p)))]) from if_pos (i_nlt c_12)]; exact PO_one hP.2.1 (by have := tok_lt lk_tok (nam_b (i_nlt c_12)).2; omega) hu28_0 (nadd hP.2.2.1 (nl 1)) hP.2.2.2.1 hP.2.2.2.2.1⟩
set_option maxHeartbeats 4000000 in
set_option maxRecDepth 100000 in
theorem c_X7_times_2 {l : Launch} {D : va_G} {k : Nat → ClassId} {g b : Nat → Nat} (μ ν : St) (u : Int32) (L p : Nat) (hI : Inv (μ 0)) (hP : PIn (nN (μ 0 5)) (ν 12 0) (ν 13 0) (ν 14 0) (ν 15 0) (ν 16 0) u 3 L p) : Ct l D k g yX7_times cX7_times 2 none 17 358 [.ref (b 20)] (S := Rw × Rw × Int32 × Int32 × Int32 × Int32) (wM k b μ ν) (fun uu => wM k b μ (va_up (va_up (va_up (va_up (va_up (va_up ν 8 uu.1) 9 uu.2.1) 12 (fun _ => uu.2.2.1)) 13 (fun _ => uu.2.2.2.1)) 14 (fun _ => uu.2.2.2.2.1)) 15 (fun _ => uu.2.2.2.2.2))) (fun vv uu => vv = none ∧ POut 3 (ν 8) (ν 9) L ((lvS (lkS (μ 0)) (sgS (lkS (μ 0)) u 2) 1) p) uu.1 uu.2.1 uu.2.2.1 uu.2.2.2.1 uu.2.2.2.2.1 uu.2.2.2.2.2) := by
  refine Ct.ofV RX7 rfl (by decide +kernel) (Nat.le_of_ble_eq_true rfl) (fun X hC hR => ?_)
  have hb60 := hI.bb; have hle := hP.2.2.2.2.2
  show V X (wM k b μ ν) [(0, .ref (b 20))] [] 0
  refine V.aload_n (pc := 0) 0 hC dX7_times_0 rfl ?_
  refine V.callV0 (pc := 1) (as := []) hC (c_X7_one_2 μ ν u L p hI hP) mu_X7_one ml_X7_146 (by decide) ⟨0, 7, TX7, 20, _, rfl, gm_0⟩ rfl (Nat.le_of_ble_eq_true rfl) dX7_times_1 ?_
  rintro _ ⟨f1_0, f1_1, i1_2, i1_3, i1_4, i1_5⟩ ⟨rfl, hu1_0⟩
  have hu1_0 : POut 3 (ν 8) (ν 9) L ((sgS (lkS (μ 0)) u 2) p) f1_0 f1_1 i1_2 i1_3 i1_4 i1_5 := hu1_0
  show V X (wM k b μ (va_up (va_up (va_up (va_up (va_up (va_up ν 8 f1_0) 9 f1_1) 12 (fun _ => i1_2)) 13 (fun _ => i1_3)) 14 (fun _ => i1_4)) 15 (fun _ => i1_5))) [(0, .ref (b 20))] [] 4
  have loop_4 : ∀ (n : Nat) (x : Res) (f8 f9 : Rw) (i12 i13 i14 i15 : Int32), GR (nN (μ 0 5)) p x → POut 3 (ν 8) (ν 9) L x f8 f9 i12 i13 i14 i15 → 60 ≤ n + x.2.1 → (lvS (lkS (μ 0)) (sgS (lkS (μ 0)) u 2) 1) p = lpS (lkS (μ 0)) (sgS (lkS (μ 0)) u 2) 4 n x → V X (wM k b μ (va_up (va_up (va_up (va_up (va_up (va_up ν 8 f8) 9 f9) 12 (fun _ => i12)) 13 (fun _ => i13)) 14 (fun _ => i14)) 15 (fun _ => i15))) [(0, .ref (b 20))] [] 4 := by
    intro n
    induction n with
    | zero =>
      intro x f8 f9 i12 i13 i14 i15 hg hx hi hv
      have hxb := hg.2.1
      have hz : lkS (μ 0) x.2.1 = -1 := lk_tok x.2.1 (by omega)
      refine V.aload_n (pc := 4) 0 hC dX7_times_4 rfl ?_
      refine V.get (pc := 5) (v := .int i15) hC cf_X7 0 15 fl_X7_135 (by decide) gm_0 rfl dX7_times_5 ?_
      refine V.eqi (y := bdS x) (hx.2.2.1) ?_
      refine V.if_ne (pc := 8) 66 hC dX7_times_8 (by decide) (fun c_8 => ?_) (fun c_8 => ?_)
      · exact hR (f8, f9, i12, i13, i14, i15) _ _ dX7_times_66 ⟨rfl, by rw [show (lvS (lkS (μ 0)) (sgS (lkS (μ 0)) u 2) 1) p = x from hv.trans (lp_no (fun q => bd_1 c_8 q.1))]; exact hx⟩
      · refine V.aload_n (pc := 11) 0 hC dX7_times_11 rfl ?_
        refine V.callV0 (pc := 12) (as := []) hC (c_X7_look μ (va_up (va_up (va_up (va_up (va_up (va_up ν 8 f8) 9 f9) 12 (fun _ => i12)) 13 (fun _ => i13)) 14 (fun _ => i14)) 15 (fun _ => i15)) x.2.1 hI hx.1 (by omega)) mu_X7_look ml_X7_131 (by decide) ⟨0, 7, TX7, 20, _, rfl, gm_0⟩ rfl (Nat.le_of_ble_eq_true rfl) dX7_times_12 ?_
        rintro _ _ rfl
        show V X (wM k b μ (va_up (va_up (va_up (va_up (va_up (va_up ν 8 f8) 9 f9) 12 (fun _ => i12)) 13 (fun _ => i13)) 14 (fun _ => i14)) 15 (fun _ => i15))) [(0, .ref (b 20))] [.int (lkS (μ 0) x.2.1)] 15
        refine V.bipush (pc := 15) 42 hC dX7_times_15 (by decide) ?_
        refine V.icmp_eq (pc := 17) 38 hC dX7_times_17 (by decide) (fun c_17 => ?_) (fun c_17 => ?_)
        · exact absurd c_17 (by rw [hz]; decide)
        · refine V.aload_n (pc := 20) 0 hC dX7_times_20 rfl ?_
          refine V.callV0 (pc := 21) (as := []) hC (c_X7_look μ (va_up (va_up (va_up (va_up (va_up (va_up ν 8 f8) 9 f9) 12 (fun _ => i12)) 13 (fun _ => i13)) 14 (fun _ => i14)) 15 (fun _ => i15)) x.2.1 hI hx.1 (by omega)) mu_X7_look ml_X7_131 (by decide) ⟨0, 7, TX7, 20, _, rfl, gm_0⟩ rfl (Nat.le_of_ble_eq_true rfl) dX7_times_21 ?_
          rintro _ _ rfl
          show V X (wM k b μ (va_up (va_up (va_up (va_up (va_up (va_up ν 8 f8) 9 f9) 12 (fun _ => i12)) 13 (fun _ => i13)) 14 (fun _ => i14)) 15 (fun _ => i15))) [(0, .ref (b 20))] [.int (lkS (μ 0) x.2.1)] 24
          refine V.bipush (pc := 24) 47 hC dX7_times_24 (by decide) ?_
          refine V.icmp_eq (pc := 26) 38 hC dX7_times_26 (by decide) (fun c_26 => ?_) (fun c_26 => ?_)
          · exact absurd c_26 (by rw [hz]; decide)
          · refine V.aload_n (pc := 29) 0 hC dX7_times_29 rfl ?_
            refine V.callV0 (pc := 30) (as := []) hC (c_X7_look μ (va_up (va_up (va_up (va_up (va_up (va_up ν 8 f8) 9 f9) 12 (fun _ => i12)) 13 (fun _ => i13)) 14 (fun _ => i14)) 15 (fun _ => i15)) x.2.1 hI hx.1 (by omega)) mu_X7_look ml_X7_131 (by decide) ⟨0, 7, TX7, 20, _, rfl, gm_0⟩ rfl (Nat.le_of_ble_eq_true rfl) dX7_times_30 ?_
            rintro _ _ rfl
            show V X (wM k b μ (va_up (va_up (va_up (va_up (va_up (va_up ν 8 f8) 9 f9) 12 (fun _ => i12)) 13 (fun _ => i13)) 14 (fun _ => i14)) 15 (fun _ => i15))) [(0, .ref (b 20))] [.int (lkS (μ 0) x.2.1)] 33
            refine V.bipush (pc := 33) 37 hC dX7_times_33 (by decide) ?_
            refine V.icmp_ne (pc := 35) 66 hC dX7_times_35 (by decide) (fun c_35 => ?_) (fun c_35 => ?_)
            · exact hR (f8, f9, i12, i13, i14, i15) _ _ dX7_times_66 ⟨rfl, by rw [show (lvS (lkS (μ 0)) (sgS (lkS (μ 0)) u 2) 1) p = x from hv.trans (lp_no (fun q => (rk_4.mp q.2).elim c_17 (fun q => q.elim c_26 c_35)))]; exact hx⟩
            · exact absurd c_35 (by rw [hz]; decide)
    | succ n ih =>
      intro x f8 f9 i12 i13 i14 i15 hg hx hi hv
      have hxb := hg.2.1
      refine V.aload_n (pc := 4) 0 hC dX7_times_4 rfl ?_
      refine V.get (pc := 5) (v := .int i15) hC cf_X7 0 15 fl_X7_135 (by decide) gm_0 rfl dX7_times_5 ?_
      refine V.eqi (y := bdS x) (hx.2.2.1) ?_
      refine V.if_ne (pc := 8) 66 hC dX7_times_8 (by decide) (fun c_8 => ?_) (fun c_8 => ?_)
      · exact hR (f8, f9, i12, i13, i14, i15) _ _ dX7_times_66 ⟨rfl, by rw [show (lvS (lkS (μ 0)) (sgS (lkS (μ 0)) u 2) 1) p = x from hv.trans (lp_no (fun q => bd_1 c_8 q.1))]; exact hx⟩
      · refine V.aload_n (pc := 11) 0 hC dX7_times_11 rfl ?_
        refine V.callV0 (pc := 12) (as := []) hC (c_X7_look μ (va_up (va_up (va_up (va_up (va_up (va_up ν 8 f8) 9 f9) 12 (fun _ => i12)) 13 (fun _ => i13)) 14 (fun _ => i14)) 15 (fun _ => i15)) x.2.1 hI hx.1 (by omega)) mu_X7_look ml_X7_131 (by decide) ⟨0, 7, TX7, 20, _, rfl, gm_0⟩ rfl (Nat.le_of_ble_eq_true rfl) dX7_times_12 ?_
        rintro _ _ rfl
        show V X (wM k b μ (va_up (va_up (va_up (va_up (va_up (va_up ν 8 f8) 9 f9) 12 (fun _ => i12)) 13 (fun _ => i13)) 14 (fun _ => i14)) 15 (fun _ => i15))) [(0, .ref (b 20))] [.int (lkS (μ 0) x.2.1)] 15
        refine V.bipush (pc := 15) 42 hC dX7_times_15 (by decide) ?_
        refine V.icmp_eq (pc := 17) 38 hC dX7_times_17 (by decide) (fun c_17 => ?_) (fun c_17 => ?_)
        · have hok := bd_0 c_8
          have hgx := hg.2.2 hok
          have hrk : rkS (lkS (μ 0) x.2.1) = 4 := rk_4.mpr (Or.inl c_17)
          have hlt : x.2.1 < nN (μ 0 5) := tok_lt lk_tok (rk_op hrk (by omega)).2
          have hgy := (sg_g (u := u) (lk_tok (ρ := μ 0)) 2) (x.2.1 + 1) hlt
          have hgb := hg.2.1
          refine V.aload_n (pc := 38) 0 hC dX7_times_38 rfl ?_
          refine V.callV0 (pc := 39) (as := []) hC (c_X7_look μ (va_up (va_up (va_up (va_up (va_up (va_up ν 8 f8) 9 f9) 12 (fun _ => i12)) 13 (fun _ => i13)) 14 (fun _ => i14)) 15 (fun _ => i15)) x.2.1 hI hx.1 (by omega)) mu_X7_look ml_X7_131 (by decide) ⟨0, 7, TX7, 20, _, rfl, gm_0⟩ rfl (Nat.le_of_ble_eq_true rfl) dX7_times_39 ?_
          rintro _ _ rfl
          show V X (wM k b μ (va_up (va_up (va_up (va_up (va_up (va_up ν 8 f8) 9 f9) 12 (fun _ => i12)) 13 (fun _ => i13)) 14 (fun _ => i14)) 15 (fun _ => i15))) [(0, .ref (b 20))] [.int (lkS (μ 0) x.2.1)] 42
          refine V.istore_n (pc := 42) [(1, .int (lkS (μ 0) x.2.1)), (0, .ref (b 20))] hC dX7_times_42 (by decide) rfl ?_
          refine V.aload_n (pc := 43) 1 hC dX7_times_43 rfl ?_
          refine V.dup (pc := 44) hC dX7_times_44 rfl ?_
          refine V.get (pc := 45) (v := .int i13) hC cf_X7 0 13 fl_X7_121 (by decide) gm_0 rfl dX7_times_45 ?_
          refine V.iconst (pc := 48) 1 hC dX7_times_48 (by decide) ?_
          refine V.iadd (pc := 49) hC dX7_times_49 ?_
          refine V.put (pc := 50) (v := .int (i13 + 1)) hC cf_X7 0 13 (wM k b μ (va_up (va_up (va_up (va_up (va_up (va_up ν 8 f8) 9 f9) 12 (fun _ => i12)) 13 (fun _ => i13 + 1)) 14 (fun _ => i14)) 15 (fun _ => i15))) fl_X7_121 (by decide) gm_0 rfl rfl rfl (Nat.le_of_ble_eq_true rfl) rfl dX7_times_50 ?_
          refine V.aload_n (pc := 53) 1 hC dX7_times_53 rfl ?_
          refine V.callV0 (pc := 54) (as := []) hC (c_X7_one_2 μ (va_up (va_up (va_up (va_up (va_up (va_up ν 8 f8) 9 f9) 12 (fun _ => i12)) 13 (fun _ => i13 + 1)) 14 (fun _ => i14)) 15 (fun _ => i15)) u (L + x.2.2.length) (x.2.1 + 1) hI ⟨hP.1, (hx.2.2.2.2 hok).1, nadd hx.1 (nl 1), hx.2.1, hx.2.2.1.trans c_8, by omega, hlt⟩) mu_X7_one ml_X7_146 (by decide) ⟨0, 7, TX7, 20, _, rfl, gm_0⟩ rfl (Nat.le_of_ble_eq_true rfl) dX7_times_54 ?_
          rintro _ ⟨f54_0, f54_1, i54_2, i54_3, i54_4, i54_5⟩ ⟨rfl, hu54_0⟩
          have hu54_0 : POut 3 (f8) (f9) (L + x.2.2.length) ((sgS (lkS (μ 0)) u 2) (x.2.1 + 1)) f54_0 f54_1 i54_2 i54_3 i54_4 i54_5 := hu54_0
          show V X (wM k b μ (va_up (va_up (va_up (va_up (va_up (va_up ν 8 f54_0) 9 f54_1) 12 (fun _ => i54_2)) 13 (fun _ => i54_3)) 14 (fun _ => i54_4)) 15 (fun _ => i54_5))) [(1, .int (lkS (μ 0) x.2.1)), (0, .ref (b 20))] [] 57
          refine V.aload_n (pc := 57) 1 hC dX7_times_57 rfl ?_
          refine V.iload_n (pc := 58) 0 hC dX7_times_58 rfl ?_
          refine V.iconst (pc := 59) 0 hC dX7_times_59 (by decide) ?_
          refine V.callV0 (pc := 60) (as := [.int (lkS (μ 0) x.2.1), .int 0]) hC (c_X7_step μ (va_up (va_up (va_up (va_up (va_up (va_up ν 8 f54_0) 9 f54_1) 12 (fun _ => i54_2)) 13 (fun _ => i54_3)) 14 (fun _ => i54_4)) 15 (fun _ => i54_5)) (lkS (μ 0) x.2.1) 0 hu54_0.2.2.2.1) mu_X7_step ml_X7_139 (by decide) ⟨0, 7, TX7, 20, _, rfl, gm_0⟩ rfl (Nat.le_of_ble_eq_true rfl) dX7_times_60 ?_
          rintro _ ⟨f60_0, f60_1, i60_2⟩ ⟨rfl, hu60_0⟩
          have hu60_0 : StF (f54_0) (f54_1) (i54_2) (lkS (μ 0) x.2.1) 0 f60_0 f60_1 i60_2 := hu60_0
          show V X (wM k b μ (va_up (va_up (va_up (va_up (va_up (va_up ν 8 f60_0) 9 f60_1) 12 (fun _ => i60_2)) 13 (fun _ => i54_3)) 14 (fun _ => i54_4)) 15 (fun _ => i54_5))) [(1, .int (lkS (μ 0) x.2.1)), (0, .ref (b 20))] [] 63
          refine V.goto (pc := 63) 4 hC dX7_times_63 (by decide) ?_
          exact V.sub [1] rfl (ih (appS x ((sgS (lkS (μ 0)) u 2) (x.2.1 + 1)) (lkS (μ 0) x.2.1)) f60_0 f60_1 i60_2 i54_3 i54_4 i54_5 (hg.app hok hgy (rk_op hrk (by omega)).1) (PO_app hx hok hu54_0 hu60_0 (fun q => by have := hgy.2.2 q; have := hgy.2.1; omega)) (by have := hgy.1; show 60 ≤ n + ((sgS (lkS (μ 0)) u 2) (x.2.1 + 1)).2.1; omega) (hv.trans (lp_yes ⟨hok, hrk⟩)))
        · refine V.aload_n (pc := 20) 0 hC dX7_times_20 rfl ?_
          refine V.callV0 (pc := 21) (as := []) hC (c_X7_look μ (va_up (va_up (va_up (va_up (va_up (va_up ν 8 f8) 9 f9) 12 (fun _ => i12)) 13 (fun _ => i13)) 14 (fun _ => i14)) 15 (fun _ => i15)) x.2.1 hI hx.1 (by omega)) mu_X7_look ml_X7_131 (by decide) ⟨0, 7, TX7, 20, _, rfl, gm_0⟩ rfl (Nat.le_of_ble_eq_true rfl) dX7_times_21 ?_
          rintro _ _ rfl
          show V X (wM k b μ (va_up (va_up (va_up (va_up (va_up (va_up ν 8 f8) 9 f9) 12 (fun _ => i12)) 13 (fun _ => i13)) 14 (fun _ => i14)) 15 (fun _ => i15))) [(0, .ref (b 20))] [.int (lkS (μ 0) x.2.1)] 24
          refine V.bipush (pc := 24) 47 hC dX7_times_24 (by decide) ?_
          refine V.icmp_eq (pc := 26) 38 hC dX7_times_26 (by decide) (fun c_26 => ?_) (fun c_26 => ?_)
          · have hok := bd_0 c_8
            have hgx := hg.2.2 hok
            have hrk : rkS (lkS (μ 0) x.2.1) = 4 := rk_4.mpr (Or.inr (Or.inl c_26))
            have hlt : x.2.1 < nN (μ 0 5) := tok_lt lk_tok (rk_op hrk (by omega)).2
            have hgy := (sg_g (u := u) (lk_tok (ρ := μ 0)) 2) (x.2.1 + 1) hlt
            have hgb := hg.2.1
            refine V.aload_n (pc := 38) 0 hC dX7_times_38 rfl ?_
            refine V.callV0 (pc := 39) (as := []) hC (c_X7_look μ (va_up (va_up (va_up (va_up (va_up (va_up ν 8 f8) 9 f9) 12 (fun _ => i12)) 13 (fun _ => i13)) 14 (fun _ => i14)) 15 (fun _ => i15)) x.2.1 hI hx.1 (by omega)) mu_X7_look ml_X7_131 (by decide) ⟨0, 7, TX7, 20, _, rfl, gm_0⟩ rfl (Nat.le_of_ble_eq_true rfl) dX7_times_39 ?_
            rintro _ _ rfl
            show V X (wM k b μ (va_up (va_up (va_up (va_up (va_up (va_up ν 8 f8) 9 f9) 12 (fun _ => i12)) 13 (fun _ => i13)) 14 (fun _ => i14)) 15 (fun _ => i15))) [(0, .ref (b 20))] [.int (lkS (μ 0) x.2.1)] 42
            refine V.istore_n (pc := 42) [(1, .int (lkS (μ 0) x.2.1)), (0, .ref (b 20))] hC dX7_times_42 (by decide) rfl ?_
            refine V.aload_n (pc := 43) 1 hC dX7_times_43 rfl ?_
            refine V.dup (pc := 44) hC dX7_times_44 rfl ?_
            refine V.get (pc := 45) (v := .int i13) hC cf_X7 0 13 fl_X7_121 (by decide) gm_0 rfl dX7_times_45 ?_
            refine V.iconst (pc := 48) 1 hC dX7_times_48 (by decide) ?_
            refine V.iadd (pc := 49) hC dX7_times_49 ?_
            refine V.put (pc := 50) (v := .int (i13 + 1)) hC cf_X7 0 13 (wM k b μ (va_up (va_up (va_up (va_up (va_up (va_up ν 8 f8) 9 f9) 12 (fun _ => i12)) 13 (fun _ => i13 + 1)) 14 (fun _ => i14)) 15 (fun _ => i15))) fl_X7_121 (by decide) gm_0 rfl rfl rfl (Nat.le_of_ble_eq_true rfl) rfl dX7_times_50 ?_
            refine V.aload_n (pc := 53) 1 hC dX7_times_53 rfl ?_
            refine V.callV0 (pc := 54) (as := []) hC (c_X7_one_2 μ (va_up (va_up (va_up (va_up (va_up (va_up ν 8 f8) 9 f9) 12 (fun _ => i12)) 13 (fun _ => i13 + 1)) 14 (fun _ => i14)) 15 (fun _ => i15)) u (L + x.2.2.length) (x.2.1 + 1) hI ⟨hP.1, (hx.2.2.2.2 hok).1, nadd hx.1 (nl 1), hx.2.1, hx.2.2.1.trans c_8, by omega, hlt⟩) mu_X7_one ml_X7_146 (by decide) ⟨0, 7, TX7, 20, _, rfl, gm_0⟩ rfl (Nat.le_of_ble_eq_true rfl) dX7_times_54 ?_
            rintro _ ⟨f54_0, f54_1, i54_2, i54_3, i54_4, i54_5⟩ ⟨rfl, hu54_0⟩
            have hu54_0 : POut 3 (f8) (f9) (L + x.2.2.length) ((sgS (lkS (μ 0)) u 2) (x.2.1 + 1)) f54_0 f54_1 i54_2 i54_3 i54_4 i54_5 := hu54_0
            show V X (wM k b μ (va_up (va_up (va_up (va_up (va_up (va_up ν 8 f54_0) 9 f54_1) 12 (fun _ => i54_2)) 13 (fun _ => i54_3)) 14 (fun _ => i54_4)) 15 (fun _ => i54_5))) [(1, .int (lkS (μ 0) x.2.1)), (0, .ref (b 20))] [] 57
            refine V.aload_n (pc := 57) 1 hC dX7_times_57 rfl ?_
            refine V.iload_n (pc := 58) 0 hC dX7_times_58 rfl ?_
            refine V.iconst (pc := 59) 0 hC dX7_times_59 (by decide) ?_
            refine V.callV0 (pc := 60) (as := [.int (lkS (μ 0) x.2.1), .int 0]) hC (c_X7_step μ (va_up (va_up (va_up (va_up (va_up (va_up ν 8 f54_0) 9 f54_1) 12 (fun _ => i54_2)) 13 (fun _ => i54_3)) 14 (fun _ => i54_4)) 15 (fun _ => i54_5)) (lkS (μ 0) x.2.1) 0 hu54_0.2.2.2.1) mu_X7_step ml_X7_139 (by decide) ⟨0, 7, TX7, 20, _, rfl, gm_0⟩ rfl (Nat.le_of_ble_eq_true rfl) dX7_times_60 ?_
            rintro _ ⟨f60_0, f60_1, i60_2⟩ ⟨rfl, hu60_0⟩
            have hu60_0 : StF (f54_0) (f54_1) (i54_2) (lkS (μ 0) x.2.1) 0 f60_0 f60_1 i60_2 := hu60_0
            show V X (wM k b μ (va_up (va_up (va_up (va_up (va_up (va_up ν 8 f60_0) 9 f60_1) 12 (fun _ => i60_2)) 13 (fun _ => i54_3)) 14 (fun _ => i54_4)) 15 (fun _ => i54_5))) [(1, .int (lkS (μ 0) x.2.1)), (0, .ref (b 20))] [] 63
            refine V.goto (pc := 63) 4 hC dX7_times_63 (by decide) ?_
            exact V.sub [1] rfl (ih (appS x ((sgS (lkS (μ 0)) u 2) (x.2.1 + 1)) (lkS (μ 0) x.2.1)) f60_0 f60_1 i60_2 i54_3 i54_4 i54_5 (hg.app hok hgy (rk_op hrk (by omega)).1) (PO_app hx hok hu54_0 hu60_0 (fun q => by have := hgy.2.2 q; have := hgy.2.1; omega)) (by have := hgy.1; show 60 ≤ n + ((sgS (lkS (μ 0)) u 2) (x.2.1 + 1)).2.1; omega) (hv.trans (lp_yes ⟨hok, hrk⟩)))
          · refine V.aload_n (pc := 29) 0 hC dX7_times_29 rfl ?_
            refine V.callV0 (pc := 30) (as := []) hC (c_X7_look μ (va_up (va_up (va_up (va_up (va_up (va_up ν 8 f8) 9 f9) 12 (fun _ => i12)) 13 (fun _ => i13)) 14 (fun _ => i14)) 15 (fun _ => i15)) x.2.1 hI hx.1 (by omega)) mu_X7_look ml_X7_131 (by decide) ⟨0, 7, TX7, 20, _, rfl, gm_0⟩ rfl (Nat.le_of_ble_eq_true rfl) dX7_times_30 ?_
            rintro _ _ rfl
            show V X (wM k b μ (va_up (va_up (va_up (va_up (va_up (va_up ν 8 f8) 9 f9) 12 (fun _ => i12)) 13 (fun _ => i13)) 14 (fun _ => i14)) 15 (fun _ => i15))) [(0, .ref (b 20))] [.int (lkS (μ 0) x.2.1)] 33
            refine V.bipush (pc := 33) 37 hC dX7_times_33 (by decide) ?_
            refine V.icmp_ne (pc := 35) 66 hC dX7_times_35 (by decide) (fun c_35 => ?_) (fun c_35 => ?_)
            · exact hR (f8, f9, i12, i13, i14, i15) _ _ dX7_times_66 ⟨rfl, by rw [show (lvS (lkS (μ 0)) (sgS (lkS (μ 0)) u 2) 1) p = x from hv.trans (lp_no (fun q => (rk_4.mp q.2).elim c_17 (fun q => q.elim c_26 c_35)))]; exact hx⟩
            · have hok := bd_0 c_8
              have hgx := hg.2.2 hok
              have hrk : rkS (lkS (μ 0) x.2.1) = 4 := rk_4.mpr (Or.inr (Or.inr c_35))
              have hlt : x.2.1 < nN (μ 0 5) := tok_lt lk_tok (rk_op hrk (by omega)).2
              have hgy := (sg_g (u := u) (lk_tok (ρ := μ 0)) 2) (x.2.1 + 1) hlt
              have hgb := hg.2.1
              refine V.aload_n (pc := 38) 0 hC dX7_times_38 rfl ?_
              refine V.callV0 (pc := 39) (as := []) hC (c_X7_look μ (va_up (va_up (va_up (va_up (va_up (va_up ν 8 f8) 9 f9) 12 (fun _ => i12)) 13 (fun _ => i13)) 14 (fun _ => i14)) 15 (fun _ => i15)) x.2.1 hI hx.1 (by omega)) mu_X7_look ml_X7_131 (by decide) ⟨0, 7, TX7, 20, _, rfl, gm_0⟩ rfl (Nat.le_of_ble_eq_true rfl) dX7_times_39 ?_
              rintro _ _ rfl
              show V X (wM k b μ (va_up (va_up (va_up (va_up (va_up (va_up ν 8 f8) 9 f9) 12 (fun _ => i12)) 13 (fun _ => i13)) 14 (fun _ => i14)) 15 (fun _ => i15))) [(0, .ref (b 20))] [.int (lkS (μ 0) x.2.1)] 42
              refine V.istore_n (pc := 42) [(1, .int (lkS (μ 0) x.2.1)), (0, .ref (b 20))] hC dX7_times_42 (by decide) rfl ?_
              refine V.aload_n (pc := 43) 1 hC dX7_times_43 rfl ?_
              refine V.dup (pc := 44) hC dX7_times_44 rfl ?_
              refine V.get (pc := 45) (v := .int i13) hC cf_X7 0 13 fl_X7_121 (by decide) gm_0 rfl dX7_times_45 ?_
              refine V.iconst (pc := 48) 1 hC dX7_times_48 (by decide) ?_
              refine V.iadd (pc := 49) hC dX7_times_49 ?_
              refine V.put (pc := 50) (v := .int (i13 + 1)) hC cf_X7 0 13 (wM k b μ (va_up (va_up (va_up (va_up (va_up (va_up ν 8 f8) 9 f9) 12 (fun _ => i12)) 13 (fun _ => i13 + 1)) 14 (fun _ => i14)) 15 (fun _ => i15))) fl_X7_121 (by decide) gm_0 rfl rfl rfl (Nat.le_of_ble_eq_true rfl) rfl dX7_times_50 ?_
              refine V.aload_n (pc := 53) 1 hC dX7_times_53 rfl ?_
              refine V.callV0 (pc := 54) (as := []) hC (c_X7_one_2 μ (va_up (va_up (va_up (va_up (va_up (va_up ν 8 f8) 9 f9) 12 (fun _ => i12)) 13 (fun _ => i13 + 1)) 14 (fun _ => i14)) 15 (fun _ => i15)) u (L + x.2.2.length) (x.2.1 + 1) hI ⟨hP.1, (hx.2.2.2.2 hok).1, nadd hx.1 (nl 1), hx.2.1, hx.2.2.1.trans c_8, by omega, hlt⟩) mu_X7_one ml_X7_146 (by decide) ⟨0, 7, TX7, 20, _, rfl, gm_0⟩ rfl (Nat.le_of_ble_eq_true rfl) dX7_times_54 ?_
              rintro _ ⟨f54_0, f54_1, i54_2, i54_3, i54_4, i54_5⟩ ⟨rfl, hu54_0⟩
              have hu54_0 : POut 3 (f8) (f9) (L + x.2.2.length) ((sgS (lkS (μ 0)) u 2) (x.2.1 + 1)) f54_0 f54_1 i54_2 i54_3 i54_4 i54_5 := hu54_0
              show V X (wM k b μ (va_up (va_up (va_up (va_up (va_up (va_up ν 8 f54_0) 9 f54_1) 12 (fun _ => i54_2)) 13 (fun _ => i54_3)) 14 (fun _ => i54_4)) 15 (fun _ => i54_5))) [(1, .int (lkS (μ 0) x.2.1)), (0, .ref (b 20))] [] 57
              refine V.aload_n (pc := 57) 1 hC dX7_times_57 rfl ?_
              refine V.iload_n (pc := 58) 0 hC dX7_times_58 rfl ?_
              refine V.iconst (pc := 59) 0 hC dX7_times_59 (by decide) ?_
              refine V.callV0 (pc := 60) (as := [.int (lkS (μ 0) x.2.1), .int 0]) hC (c_X7_step μ (va_up (va_up (va_up (va_up (va_up (va_up ν 8 f54_0) 9 f54_1) 12 (fun _ => i54_2)) 13 (fun _ => i54_3)) 14 (fun _ => i54_4)) 15 (fun _ => i54_5)) (lkS (μ 0) x.2.1) 0 hu54_0.2.2.2.1) mu_X7_step ml_X7_139 (by decide) ⟨0, 7, TX7, 20, _, rfl, gm_0⟩ rfl (Nat.le_of_ble_eq_true rfl) dX7_times_60 ?_
              rintro _ ⟨f60_0, f60_1, i60_2⟩ ⟨rfl, hu60_0⟩
              have hu60_0 : StF (f54_0) (f54_1) (i54_2) (lkS (μ 0) x.2.1) 0 f60_0 f60_1 i60_2 := hu60_0
              show V X (wM k b μ (va_up (va_up (va_up (va_up (va_up (va_up ν 8 f60_0) 9 f60_1) 12 (fun _ => i60_2)) 13 (fun _ => i54_3)) 14 (fun _ => i54_4)) 15 (fun _ => i54_5))) [(1, .int (lkS (μ 0) x.2.1)), (0, .ref (b 20))] [] 63
              refine V.goto (pc := 63) 4 hC dX7_times_63 (by decide) ?_
              exact V.sub [1] rfl (ih (appS x ((sgS (lkS (μ 0)) u 2) (x.2.1 + 1)) (lkS (μ 0) x.2.1)) f60_0 f60_1 i60_2 i54_3 i54_4 i54_5 (hg.app hok hgy (rk_op hrk (by omega)).1) (PO_app hx hok hu54_0 hu60_0 (fun q => by have := hgy.2.2 q; have := hgy.2.1; omega)) (by have := hgy.1; show 60 ≤ n + ((sgS (lkS (μ 0)) u 2) (x.2.1 + 1)).2.1; omega) (hv.trans (lp_yes ⟨hok, hrk⟩)))
  exact V.sub [0] rfl (loop_4 60 ((sgS (lkS (μ 0)) u 2) p) f1_0 f1_1 i1_2 i1_3 i1_4 i1_5 ((sg_g (u := u) (lk_tok (ρ := μ 0)) 2) p (by omega)) hu1_0 (by omega) rfl)
set_option maxHeartbeats 4000000 in
set_option maxRecDepth 100000 in
theorem c_X7_sum_2 {l : Launch} {D : va_G} {k : Nat → ClassId} {g b : Nat → Nat} (μ ν : St) (u : Int32) (L p : Nat) (hI : Inv (μ 0)) (hP : PIn (nN (μ 0 5)) (ν 12 0) (ν 13 0) (ν 14 0) (ν 15 0) (ν 16 0) u 3 L p) : Ct l D k g yX7_sum cX7_sum 2 none 18 379 [.ref (b 20)] (S := Rw × Rw × Int32 × Int32 × Int32 × Int32) (wM k b μ ν) (fun uu => wM k b μ (va_up (va_up (va_up (va_up (va_up (va_up ν 8 uu.1) 9 uu.2.1) 12 (fun _ => uu.2.2.1)) 13 (fun _ => uu.2.2.2.1)) 14 (fun _ => uu.2.2.2.2.1)) 15 (fun _ => uu.2.2.2.2.2))) (fun vv uu => vv = none ∧ POut 3 (ν 8) (ν 9) L ((lvS (lkS (μ 0)) (sgS (lkS (μ 0)) u 2) 2) p) uu.1 uu.2.1 uu.2.2.1 uu.2.2.2.1 uu.2.2.2.2.1 uu.2.2.2.2.2) := by
  refine Ct.ofV RX7 rfl (by decide +kernel) (Nat.le_of_ble_eq_true rfl) (fun X hC hR => ?_)
  have hb60 := hI.bb; have hle := hP.2.2.2.2.2
  show V X (wM k b μ ν) [(0, .ref (b 20))] [] 0
  refine V.aload_n (pc := 0) 0 hC dX7_sum_0 rfl ?_
  refine V.callV0 (pc := 1) (as := []) hC (c_X7_times_2 μ ν u L p hI hP) mu_X7_times ml_X7_162 (by decide) ⟨0, 7, TX7, 20, _, rfl, gm_0⟩ rfl (Nat.le_of_ble_eq_true rfl) dX7_sum_1 ?_
  rintro _ ⟨f1_0, f1_1, i1_2, i1_3, i1_4, i1_5⟩ ⟨rfl, hu1_0⟩
  have hu1_0 : POut 3 (ν 8) (ν 9) L ((lvS (lkS (μ 0)) (sgS (lkS (μ 0)) u 2) 1) p) f1_0 f1_1 i1_2 i1_3 i1_4 i1_5 := hu1_0
  show V X (wM k b μ (va_up (va_up (va_up (va_up (va_up (va_up ν 8 f1_0) 9 f1_1) 12 (fun _ => i1_2)) 13 (fun _ => i1_3)) 14 (fun _ => i1_4)) 15 (fun _ => i1_5))) [(0, .ref (b 20))] [] 4
  have loop_4 : ∀ (n : Nat) (x : Res) (f8 f9 : Rw) (i12 i13 i14 i15 : Int32), GR (nN (μ 0 5)) p x → POut 3 (ν 8) (ν 9) L x f8 f9 i12 i13 i14 i15 → 60 ≤ n + x.2.1 → (lvS (lkS (μ 0)) (sgS (lkS (μ 0)) u 2) 2) p = lpS (lkS (μ 0)) (lvS (lkS (μ 0)) (sgS (lkS (μ 0)) u 2) 1) 3 n x → V X (wM k b μ (va_up (va_up (va_up (va_up (va_up (va_up ν 8 f8) 9 f9) 12 (fun _ => i12)) 13 (fun _ => i13)) 14 (fun _ => i14)) 15 (fun _ => i15))) [(0, .ref (b 20))] [] 4 := by
    intro n
    induction n with
    | zero =>
      intro x f8 f9 i12 i13 i14 i15 hg hx hi hv
      have hxb := hg.2.1
      have hz : lkS (μ 0) x.2.1 = -1 := lk_tok x.2.1 (by omega)
      refine V.aload_n (pc := 4) 0 hC dX7_sum_4 rfl ?_
      refine V.get (pc := 5) (v := .int i15) hC cf_X7 0 15 fl_X7_135 (by decide) gm_0 rfl dX7_sum_5 ?_
      refine V.eqi (y := bdS x) (hx.2.2.1) ?_
      refine V.if_ne (pc := 8) 57 hC dX7_sum_8 (by decide) (fun c_8 => ?_) (fun c_8 => ?_)
      · exact hR (f8, f9, i12, i13, i14, i15) _ _ dX7_sum_57 ⟨rfl, by rw [show (lvS (lkS (μ 0)) (sgS (lkS (μ 0)) u 2) 2) p = x from hv.trans (lp_no (fun q => bd_1 c_8 q.1))]; exact hx⟩
      · refine V.aload_n (pc := 11) 0 hC dX7_sum_11 rfl ?_
        refine V.callV0 (pc := 12) (as := []) hC (c_X7_look μ (va_up (va_up (va_up (va_up (va_up (va_up ν 8 f8) 9 f9) 12 (fun _ => i12)) 13 (fun _ => i13)) 14 (fun _ => i14)) 15 (fun _ => i15)) x.2.1 hI hx.1 (by omega)) mu_X7_look ml_X7_131 (by decide) ⟨0, 7, TX7, 20, _, rfl, gm_0⟩ rfl (Nat.le_of_ble_eq_true rfl) dX7_sum_12 ?_
        rintro _ _ rfl
        show V X (wM k b μ (va_up (va_up (va_up (va_up (va_up (va_up ν 8 f8) 9 f9) 12 (fun _ => i12)) 13 (fun _ => i13)) 14 (fun _ => i14)) 15 (fun _ => i15))) [(0, .ref (b 20))] [.int (lkS (μ 0) x.2.1)] 15
        refine V.bipush (pc := 15) 43 hC dX7_sum_15 (by decide) ?_
        refine V.icmp_eq (pc := 17) 29 hC dX7_sum_17 (by decide) (fun c_17 => ?_) (fun c_17 => ?_)
        · exact absurd c_17 (by rw [hz]; decide)
        · refine V.aload_n (pc := 20) 0 hC dX7_sum_20 rfl ?_
          refine V.callV0 (pc := 21) (as := []) hC (c_X7_look μ (va_up (va_up (va_up (va_up (va_up (va_up ν 8 f8) 9 f9) 12 (fun _ => i12)) 13 (fun _ => i13)) 14 (fun _ => i14)) 15 (fun _ => i15)) x.2.1 hI hx.1 (by omega)) mu_X7_look ml_X7_131 (by decide) ⟨0, 7, TX7, 20, _, rfl, gm_0⟩ rfl (Nat.le_of_ble_eq_true rfl) dX7_sum_21 ?_
          rintro _ _ rfl
          show V X (wM k b μ (va_up (va_up (va_up (va_up (va_up (va_up ν 8 f8) 9 f9) 12 (fun _ => i12)) 13 (fun _ => i13)) 14 (fun _ => i14)) 15 (fun _ => i15))) [(0, .ref (b 20))] [.int (lkS (μ 0) x.2.1)] 24
          refine V.bipush (pc := 24) 45 hC dX7_sum_24 (by decide) ?_
          refine V.icmp_ne (pc := 26) 57 hC dX7_sum_26 (by decide) (fun c_26 => ?_) (fun c_26 => ?_)
          · exact hR (f8, f9, i12, i13, i14, i15) _ _ dX7_sum_57 ⟨rfl, by rw [show (lvS (lkS (μ 0)) (sgS (lkS (μ 0)) u 2) 2) p = x from hv.trans (lp_no (fun q => (rk_3.mp q.2).elim c_17 c_26))]; exact hx⟩
          · exact absurd c_26 (by rw [hz]; decide)
    | succ n ih =>
      intro x f8 f9 i12 i13 i14 i15 hg hx hi hv
      have hxb := hg.2.1
      refine V.aload_n (pc := 4) 0 hC dX7_sum_4 rfl ?_
      refine V.get (pc := 5) (v := .int i15) hC cf_X7 0 15 fl_X7_135 (by decide) gm_0 rfl dX7_sum_5 ?_
      refine V.eqi (y := bdS x) (hx.2.2.1) ?_
      refine V.if_ne (pc := 8) 57 hC dX7_sum_8 (by decide) (fun c_8 => ?_) (fun c_8 => ?_)
      · exact hR (f8, f9, i12, i13, i14, i15) _ _ dX7_sum_57 ⟨rfl, by rw [show (lvS (lkS (μ 0)) (sgS (lkS (μ 0)) u 2) 2) p = x from hv.trans (lp_no (fun q => bd_1 c_8 q.1))]; exact hx⟩
      · refine V.aload_n (pc := 11) 0 hC dX7_sum_11 rfl ?_
        refine V.callV0 (pc := 12) (as := []) hC (c_X7_look μ (va_up (va_up (va_up (va_up (va_up (va_up ν 8 f8) 9 f9) 12 (fun _ => i12)) 13 (fun _ => i13)) 14 (fun _ => i14)) 15 (fun _ => i15)) x.2.1 hI hx.1 (by omega)) mu_X7_look ml_X7_131 (by decide) ⟨0, 7, TX7, 20, _, rfl, gm_0⟩ rfl (Nat.le_of_ble_eq_true rfl) dX7_sum_12 ?_
        rintro _ _ rfl
        show V X (wM k b μ (va_up (va_up (va_up (va_up (va_up (va_up ν 8 f8) 9 f9) 12 (fun _ => i12)) 13 (fun _ => i13)) 14 (fun _ => i14)) 15 (fun _ => i15))) [(0, .ref (b 20))] [.int (lkS (μ 0) x.2.1)] 15
        refine V.bipush (pc := 15) 43 hC dX7_sum_15 (by decide) ?_
        refine V.icmp_eq (pc := 17) 29 hC dX7_sum_17 (by decide) (fun c_17 => ?_) (fun c_17 => ?_)
        · have hok := bd_0 c_8
          have hgx := hg.2.2 hok
          have hrk : rkS (lkS (μ 0) x.2.1) = 3 := rk_3.mpr (Or.inl c_17)
          have hlt : x.2.1 < nN (μ 0 5) := tok_lt lk_tok (rk_op hrk (by omega)).2
          have hgy := (lv_g (lk_tok (ρ := μ 0)) (sg_g (u := u) (lk_tok (ρ := μ 0)) 2) 1) (x.2.1 + 1) hlt
          have hgb := hg.2.1
          refine V.aload_n (pc := 29) 0 hC dX7_sum_29 rfl ?_
          refine V.callV0 (pc := 30) (as := []) hC (c_X7_look μ (va_up (va_up (va_up (va_up (va_up (va_up ν 8 f8) 9 f9) 12 (fun _ => i12)) 13 (fun _ => i13)) 14 (fun _ => i14)) 15 (fun _ => i15)) x.2.1 hI hx.1 (by omega)) mu_X7_look ml_X7_131 (by decide) ⟨0, 7, TX7, 20, _, rfl, gm_0⟩ rfl (Nat.le_of_ble_eq_true rfl) dX7_sum_30 ?_
          rintro _ _ rfl
          show V X (wM k b μ (va_up (va_up (va_up (va_up (va_up (va_up ν 8 f8) 9 f9) 12 (fun _ => i12)) 13 (fun _ => i13)) 14 (fun _ => i14)) 15 (fun _ => i15))) [(0, .ref (b 20))] [.int (lkS (μ 0) x.2.1)] 33
          refine V.istore_n (pc := 33) [(1, .int (lkS (μ 0) x.2.1)), (0, .ref (b 20))] hC dX7_sum_33 (by decide) rfl ?_
          refine V.aload_n (pc := 34) 1 hC dX7_sum_34 rfl ?_
          refine V.dup (pc := 35) hC dX7_sum_35 rfl ?_
          refine V.get (pc := 36) (v := .int i13) hC cf_X7 0 13 fl_X7_121 (by decide) gm_0 rfl dX7_sum_36 ?_
          refine V.iconst (pc := 39) 1 hC dX7_sum_39 (by decide) ?_
          refine V.iadd (pc := 40) hC dX7_sum_40 ?_
          refine V.put (pc := 41) (v := .int (i13 + 1)) hC cf_X7 0 13 (wM k b μ (va_up (va_up (va_up (va_up (va_up (va_up ν 8 f8) 9 f9) 12 (fun _ => i12)) 13 (fun _ => i13 + 1)) 14 (fun _ => i14)) 15 (fun _ => i15))) fl_X7_121 (by decide) gm_0 rfl rfl rfl (Nat.le_of_ble_eq_true rfl) rfl dX7_sum_41 ?_
          refine V.aload_n (pc := 44) 1 hC dX7_sum_44 rfl ?_
          refine V.callV0 (pc := 45) (as := []) hC (c_X7_times_2 μ (va_up (va_up (va_up (va_up (va_up (va_up ν 8 f8) 9 f9) 12 (fun _ => i12)) 13 (fun _ => i13 + 1)) 14 (fun _ => i14)) 15 (fun _ => i15)) u (L + x.2.2.length) (x.2.1 + 1) hI ⟨hP.1, (hx.2.2.2.2 hok).1, nadd hx.1 (nl 1), hx.2.1, hx.2.2.1.trans c_8, by omega, hlt⟩) mu_X7_times ml_X7_162 (by decide) ⟨0, 7, TX7, 20, _, rfl, gm_0⟩ rfl (Nat.le_of_ble_eq_true rfl) dX7_sum_45 ?_
          rintro _ ⟨f45_0, f45_1, i45_2, i45_3, i45_4, i45_5⟩ ⟨rfl, hu45_0⟩
          have hu45_0 : POut 3 (f8) (f9) (L + x.2.2.length) ((lvS (lkS (μ 0)) (sgS (lkS (μ 0)) u 2) 1) (x.2.1 + 1)) f45_0 f45_1 i45_2 i45_3 i45_4 i45_5 := hu45_0
          show V X (wM k b μ (va_up (va_up (va_up (va_up (va_up (va_up ν 8 f45_0) 9 f45_1) 12 (fun _ => i45_2)) 13 (fun _ => i45_3)) 14 (fun _ => i45_4)) 15 (fun _ => i45_5))) [(1, .int (lkS (μ 0) x.2.1)), (0, .ref (b 20))] [] 48
          refine V.aload_n (pc := 48) 1 hC dX7_sum_48 rfl ?_
          refine V.iload_n (pc := 49) 0 hC dX7_sum_49 rfl ?_
          refine V.iconst (pc := 50) 0 hC dX7_sum_50 (by decide) ?_
          refine V.callV0 (pc := 51) (as := [.int (lkS (μ 0) x.2.1), .int 0]) hC (c_X7_step μ (va_up (va_up (va_up (va_up (va_up (va_up ν 8 f45_0) 9 f45_1) 12 (fun _ => i45_2)) 13 (fun _ => i45_3)) 14 (fun _ => i45_4)) 15 (fun _ => i45_5)) (lkS (μ 0) x.2.1) 0 hu45_0.2.2.2.1) mu_X7_step ml_X7_139 (by decide) ⟨0, 7, TX7, 20, _, rfl, gm_0⟩ rfl (Nat.le_of_ble_eq_true rfl) dX7_sum_51 ?_
          rintro _ ⟨f51_0, f51_1, i51_2⟩ ⟨rfl, hu51_0⟩
          have hu51_0 : StF (f45_0) (f45_1) (i45_2) (lkS (μ 0) x.2.1) 0 f51_0 f51_1 i51_2 := hu51_0
          show V X (wM k b μ (va_up (va_up (va_up (va_up (va_up (va_up ν 8 f51_0) 9 f51_1) 12 (fun _ => i51_2)) 13 (fun _ => i45_3)) 14 (fun _ => i45_4)) 15 (fun _ => i45_5))) [(1, .int (lkS (μ 0) x.2.1)), (0, .ref (b 20))] [] 54
          refine V.goto (pc := 54) 4 hC dX7_sum_54 (by decide) ?_
          exact V.sub [1] rfl (ih (appS x ((lvS (lkS (μ 0)) (sgS (lkS (μ 0)) u 2) 1) (x.2.1 + 1)) (lkS (μ 0) x.2.1)) f51_0 f51_1 i51_2 i45_3 i45_4 i45_5 (hg.app hok hgy (rk_op hrk (by omega)).1) (PO_app hx hok hu45_0 hu51_0 (fun q => by have := hgy.2.2 q; have := hgy.2.1; omega)) (by have := hgy.1; show 60 ≤ n + ((lvS (lkS (μ 0)) (sgS (lkS (μ 0)) u 2) 1) (x.2.1 + 1)).2.1; omega) (hv.trans (lp_yes ⟨hok, hrk⟩)))
        · refine V.aload_n (pc := 20) 0 hC dX7_sum_20 rfl ?_
          refine V.callV0 (pc := 21) (as := []) hC (c_X7_look μ (va_up (va_up (va_up (va_up (va_up (va_up ν 8 f8) 9 f9) 12 (fun _ => i12)) 13 (fun _ => i13)) 14 (fun _ => i14)) 15 (fun _ => i15)) x.2.1 hI hx.1 (by omega)) mu_X7_look ml_X7_131 (by decide) ⟨0, 7, TX7, 20, _, rfl, gm_0⟩ rfl (Nat.le_of_ble_eq_true rfl) dX7_sum_21 ?_
          rintro _ _ rfl
          show V X (wM k b μ (va_up (va_up (va_up (va_up (va_up (va_up ν 8 f8) 9 f9) 12 (fun _ => i12)) 13 (fun _ => i13)) 14 (fun _ => i14)) 15 (fun _ => i15))) [(0, .ref (b 20))] [.int (lkS (μ 0) x.2.1)] 24
          refine V.bipush (pc := 24) 45 hC dX7_sum_24 (by decide) ?_
          refine V.icmp_ne (pc := 26) 57 hC dX7_sum_26 (by decide) (fun c_26 => ?_) (fun c_26 => ?_)
          · exact hR (f8, f9, i12, i13, i14, i15) _ _ dX7_sum_57 ⟨rfl, by rw [show (lvS (lkS (μ 0)) (sgS (lkS (μ 0)) u 2) 2) p = x from hv.trans (lp_no (fun q => (rk_3.mp q.2).elim c_17 c_26))]; exact hx⟩
          · have hok := bd_0 c_8
            have hgx := hg.2.2 hok
            have hrk : rkS (lkS (μ 0) x.2.1) = 3 := rk_3.mpr (Or.inr c_26)
            have hlt : x.2.1 < nN (μ 0 5) := tok_lt lk_tok (rk_op hrk (by omega)).2
            have hgy := (lv_g (lk_tok (ρ := μ 0)) (sg_g (u := u) (lk_tok (ρ := μ 0)) 2) 1) (x.2.1 + 1) hlt
            have hgb := hg.2.1
            refine V.aload_n (pc := 29) 0 hC dX7_sum_29 rfl ?_
            refine V.callV0 (pc := 30) (as := []) hC (c_X7_look μ (va_up (va_up (va_up (va_up (va_up (va_up ν 8 f8) 9 f9) 12 (fun _ => i12)) 13 (fun _ => i13)) 14 (fun _ => i14)) 15 (fun _ => i15)) x.2.1 hI hx.1 (by omega)) mu_X7_look ml_X7_131 (by decide) ⟨0, 7, TX7, 20, _, rfl, gm_0⟩ rfl (Nat.le_of_ble_eq_true rfl) dX7_sum_30 ?_
            rintro _ _ rfl
            show V X (wM k b μ (va_up (va_up (va_up (va_up (va_up (va_up ν 8 f8) 9 f9) 12 (fun _ => i12)) 13 (fun _ => i13)) 14 (fun _ => i14)) 15 (fun _ => i15))) [(0, .ref (b 20))] [.int (lkS (μ 0) x.2.1)] 33
            refine V.istore_n (pc := 33) [(1, .int (lkS (μ 0) x.2.1)), (0, .ref (b 20))] hC dX7_sum_33 (by decide) rfl ?_
            refine V.aload_n (pc := 34) 1 hC dX7_sum_34 rfl ?_
            refine V.dup (pc := 35) hC dX7_sum_35 rfl ?_
            refine V.get (pc := 36) (v := .int i13) hC cf_X7 0 13 fl_X7_121 (by decide) gm_0 rfl dX7_sum_36 ?_
            refine V.iconst (pc := 39) 1 hC dX7_sum_39 (by decide) ?_
            refine V.iadd (pc := 40) hC dX7_sum_40 ?_
            refine V.put (pc := 41) (v := .int (i13 + 1)) hC cf_X7 0 13 (wM k b μ (va_up (va_up (va_up (va_up (va_up (va_up ν 8 f8) 9 f9) 12 (fun _ => i12)) 13 (fun _ => i13 + 1)) 14 (fun _ => i14)) 15 (fun _ => i15))) fl_X7_121 (by decide) gm_0 rfl rfl rfl (Nat.le_of_ble_eq_true rfl) rfl dX7_sum_41 ?_
            refine V.aload_n (pc := 44) 1 hC dX7_sum_44 rfl ?_
            refine V.callV0 (pc := 45) (as := []) hC (c_X7_times_2 μ (va_up (va_up (va_up (va_up (va_up (va_up ν 8 f8) 9 f9) 12 (fun _ => i12)) 13 (fun _ => i13 + 1)) 14 (fun _ => i14)) 15 (fun _ => i15)) u (L + x.2.2.length) (x.2.1 + 1) hI ⟨hP.1, (hx.2.2.2.2 hok).1, nadd hx.1 (nl 1), hx.2.1, hx.2.2.1.trans c_8, by omega, hlt⟩) mu_X7_times ml_X7_162 (by decide) ⟨0, 7, TX7, 20, _, rfl, gm_0⟩ rfl (Nat.le_of_ble_eq_true rfl) dX7_sum_45 ?_
            rintro _ ⟨f45_0, f45_1, i45_2, i45_3, i45_4, i45_5⟩ ⟨rfl, hu45_0⟩
            have hu45_0 : POut 3 (f8) (f9) (L + x.2.2.length) ((lvS (lkS (μ 0)) (sgS (lkS (μ 0)) u 2) 1) (x.2.1 + 1)) f45_0 f45_1 i45_2 i45_3 i45_4 i45_5 := hu45_0
            show V X (wM k b μ (va_up (va_up (va_up (va_up (va_up (va_up ν 8 f45_0) 9 f45_1) 12 (fun _ => i45_2)) 13 (fun _ => i45_3)) 14 (fun _ => i45_4)) 15 (fun _ => i45_5))) [(1, .int (lkS (μ 0) x.2.1)), (0, .ref (b 20))] [] 48
            refine V.aload_n (pc := 48) 1 hC dX7_sum_48 rfl ?_
            refine V.iload_n (pc := 49) 0 hC dX7_sum_49 rfl ?_
            refine V.iconst (pc := 50) 0 hC dX7_sum_50 (by decide) ?_
            refine V.callV0 (pc := 51) (as := [.int (lkS (μ 0) x.2.1), .int 0]) hC (c_X7_step μ (va_up (va_up (va_up (va_up (va_up (va_up ν 8 f45_0) 9 f45_1) 12 (fun _ => i45_2)) 13 (fun _ => i45_3)) 14 (fun _ => i45_4)) 15 (fun _ => i45_5)) (lkS (μ 0) x.2.1) 0 hu45_0.2.2.2.1) mu_X7_step ml_X7_139 (by decide) ⟨0, 7, TX7, 20, _, rfl, gm_0⟩ rfl (Nat.le_of_ble_eq_true rfl) dX7_sum_51 ?_
            rintro _ ⟨f51_0, f51_1, i51_2⟩ ⟨rfl, hu51_0⟩
            have hu51_0 : StF (f45_0) (f45_1) (i45_2) (lkS (μ 0) x.2.1) 0 f51_0 f51_1 i51_2 := hu51_0
            show V X (wM k b μ (va_up (va_up (va_up (va_up (va_up (va_up ν 8 f51_0) 9 f51_1) 12 (fun _ => i51_2)) 13 (fun _ => i45_3)) 14 (fun _ => i45_4)) 15 (fun _ => i45_5))) [(1, .int (lkS (μ 0) x.2.1)), (0, .ref (b 20))] [] 54
            refine V.goto (pc := 54) 4 hC dX7_sum_54 (by decide) ?_
            exact V.sub [1] rfl (ih (appS x ((lvS (lkS (μ 0)) (sgS (lkS (μ 0)) u 2) 1) (x.2.1 + 1)) (lkS (μ 0) x.2.1)) f51_0 f51_1 i51_2 i45_3 i45_4 i45_5 (hg.app hok hgy (rk_op hrk (by omega)).1) (PO_app hx hok hu45_0 hu51_0 (fun q => by have := hgy.2.2 q; have := hgy.2.1; omega)) (by have := hgy.1; show 60 ≤ n + ((lvS (lkS (μ 0)) (sgS (lkS (μ 0)) u 2) 1) (x.2.1 + 1)).2.1; omega) (hv.trans (lp_yes ⟨hok, hrk⟩)))
  exact V.sub [0] rfl (loop_4 60 ((lvS (lkS (μ 0)) (sgS (lkS (μ 0)) u 2) 1) p) f1_0 f1_1 i1_2 i1_3 i1_4 i1_5 ((lv_g (lk_tok (ρ := μ 0)) (sg_g (u := u) (lk_tok (ρ := μ 0)) 2) 1) p (by omega)) hu1_0 (by omega) rfl)
set_option maxHeartbeats 4000000 in
set_option maxRecDepth 100000 in
theorem c_X7_compares_2 {l : Launch} {D : va_G} {k : Nat → ClassId} {g b : Nat → Nat} (μ ν : St) (u : Int32) (L p : Nat) (hI : Inv (μ 0)) (hP : PIn (nN (μ 0 5)) (ν 12 0) (ν 13 0) (ν 14 0) (ν 15 0) (ν 16 0) u 3 L p) : Ct l D k g yX7_compares cX7_compares 2 none 19 400 [.ref (b 20)] (S := Rw × Rw × Int32 × Int32 × Int32 × Int32) (wM k b μ ν) (fun uu => wM k b μ (va_up (va_up (va_up (va_up (va_up (va_up ν 8 uu.1) 9 uu.2.1) 12 (fun _ => uu.2.2.1)) 13 (fun _ => uu.2.2.2.1)) 14 (fun _ => uu.2.2.2.2.1)) 15 (fun _ => uu.2.2.2.2.2))) (fun vv uu => vv = none ∧ POut 3 (ν 8) (ν 9) L ((lvS (lkS (μ 0)) (sgS (lkS (μ 0)) u 2) 3) p) uu.1 uu.2.1 uu.2.2.1 uu.2.2.2.1 uu.2.2.2.2.1 uu.2.2.2.2.2) := by
  refine Ct.ofV RX7 rfl (by decide +kernel) (Nat.le_of_ble_eq_true rfl) (fun X hC hR => ?_)
  have hb60 := hI.bb; have hle := hP.2.2.2.2.2
  show V X (wM k b μ ν) [(0, .ref (b 20))] [] 0
  refine V.aload_n (pc := 0) 0 hC dX7_compares_0 rfl ?_
  refine V.callV0 (pc := 1) (as := []) hC (c_X7_sum_2 μ ν u L p hI hP) mu_X7_sum ml_X7_165 (by decide) ⟨0, 7, TX7, 20, _, rfl, gm_0⟩ rfl (Nat.le_of_ble_eq_true rfl) dX7_compares_1 ?_
  rintro _ ⟨f1_0, f1_1, i1_2, i1_3, i1_4, i1_5⟩ ⟨rfl, hu1_0⟩
  have hu1_0 : POut 3 (ν 8) (ν 9) L ((lvS (lkS (μ 0)) (sgS (lkS (μ 0)) u 2) 2) p) f1_0 f1_1 i1_2 i1_3 i1_4 i1_5 := hu1_0
  show V X (wM k b μ (va_up (va_up (va_up (va_up (va_up (va_up ν 8 f1_0) 9 f1_1) 12 (fun _ => i1_2)) 13 (fun _ => i1_3)) 14 (fun _ => i1_4)) 15 (fun _ => i1_5))) [(0, .ref (b 20))] [] 4
  have hg : GR (nN (μ 0 5)) p ((lvS (lkS (μ 0)) (sgS (lkS (μ 0)) u 2) 2) p) := (lv_g (lk_tok (ρ := μ 0)) (sg_g (u := u) (lk_tok (ρ := μ 0)) 2) 2) p (by omega)
  have hxb := hg.2.1
  refine V.aload_n (pc := 4) 0 hC dX7_compares_4 rfl ?_
  refine V.callV0 (pc := 5) (as := []) hC (c_X7_look μ (va_up (va_up (va_up (va_up (va_up (va_up ν 8 f1_0) 9 f1_1) 12 (fun _ => i1_2)) 13 (fun _ => i1_3)) 14 (fun _ => i1_4)) 15 (fun _ => i1_5)) (((lvS (lkS (μ 0)) (sgS (lkS (μ 0)) u 2) 2) p).2.1) hI hu1_0.1 (by omega)) mu_X7_look ml_X7_131 (by decide) ⟨0, 7, TX7, 20, _, rfl, gm_0⟩ rfl (Nat.le_of_ble_eq_true rfl) dX7_compares_5 ?_
  rintro _ _ rfl
  show V X (wM k b μ (va_up (va_up (va_up (va_up (va_up (va_up ν 8 f1_0) 9 f1_1) 12 (fun _ => i1_2)) 13 (fun _ => i1_3)) 14 (fun _ => i1_4)) 15 (fun _ => i1_5))) [(0, .ref (b 20))] [.int (lkS (μ 0) (((lvS (lkS (μ 0)) (sgS (lkS (μ 0)) u 2) 2) p).2.1))] 8
  refine V.istore_n (pc := 8) [(1, .int (lkS (μ 0) (((lvS (lkS (μ 0)) (sgS (lkS (μ 0)) u 2) 2) p).2.1))), (0, .ref (b 20))] hC dX7_compares_8 (by decide) rfl ?_
  refine V.aload_n (pc := 9) 1 hC dX7_compares_9 rfl ?_
  refine V.get (pc := 10) (v := .int i1_5) hC cf_X7 0 15 fl_X7_135 (by decide) gm_0 rfl dX7_compares_10 ?_
  refine V.eqi (y := bdS ((lvS (lkS (μ 0)) (sgS (lkS (μ 0)) u 2) 2) p)) (hu1_0.2.2.1) ?_
  refine V.if_ne (pc := 13) 54 hC dX7_compares_13 (by decide) (fun c_13 => ?_) (fun c_13 => ?_)
  · exact hR (f1_0, f1_1, i1_2, i1_3, i1_4, i1_5) _ _ dX7_compares_54 ⟨rfl, by rw [show (lvS (lkS (μ 0)) (sgS (lkS (μ 0)) u 2) 3) p = ((lvS (lkS (μ 0)) (sgS (lkS (μ 0)) u 2) 2) p) from lp_no (fun q => bd_1 c_13 q.1)]; exact hu1_0⟩
  · refine V.iload_n (pc := 16) 0 hC dX7_compares_16 rfl ?_
    refine V.bipush (pc := 17) 60 hC dX7_compares_17 (by decide) ?_
    refine V.icmp_eq (pc := 19) 34 hC dX7_compares_19 (by decide) (fun c_19 => ?_) (fun c_19 => ?_)
    · have hok := bd_0 c_13
      have hgx := hg.2.2 hok
      have hrk : rkS (lkS (μ 0) ((lvS (lkS (μ 0)) (sgS (lkS (μ 0)) u 2) 2) p).2.1) = 2 := rk_2.mpr (Or.inl c_19)
      have hlt : ((lvS (lkS (μ 0)) (sgS (lkS (μ 0)) u 2) 2) p).2.1 < nN (μ 0 5) := tok_lt lk_tok (rk_op hrk (by omega)).2
      have hgy := (lv_g (lk_tok (ρ := μ 0)) (sg_g (u := u) (lk_tok (ρ := μ 0)) 2) 2) (((lvS (lkS (μ 0)) (sgS (lkS (μ 0)) u 2) 2) p).2.1 + 1) hlt
      have hgb := hg.2.1
      refine V.aload_n (pc := 34) 1 hC dX7_compares_34 rfl ?_
      refine V.dup (pc := 35) hC dX7_compares_35 rfl ?_
      refine V.get (pc := 36) (v := .int i1_3) hC cf_X7 0 13 fl_X7_121 (by decide) gm_0 rfl dX7_compares_36 ?_
      refine V.iconst (pc := 39) 1 hC dX7_compares_39 (by decide) ?_
      refine V.iadd (pc := 40) hC dX7_compares_40 ?_
      refine V.put (pc := 41) (v := .int (i1_3 + 1)) hC cf_X7 0 13 (wM k b μ (va_up (va_up (va_up (va_up (va_up (va_up ν 8 f1_0) 9 f1_1) 12 (fun _ => i1_2)) 13 (fun _ => i1_3 + 1)) 14 (fun _ => i1_4)) 15 (fun _ => i1_5))) fl_X7_121 (by decide) gm_0 rfl rfl rfl (Nat.le_of_ble_eq_true rfl) rfl dX7_compares_41 ?_
      refine V.aload_n (pc := 44) 1 hC dX7_compares_44 rfl ?_
      refine V.callV0 (pc := 45) (as := []) hC (c_X7_sum_2 μ (va_up (va_up (va_up (va_up (va_up (va_up ν 8 f1_0) 9 f1_1) 12 (fun _ => i1_2)) 13 (fun _ => i1_3 + 1)) 14 (fun _ => i1_4)) 15 (fun _ => i1_5)) u (L + ((lvS (lkS (μ 0)) (sgS (lkS (μ 0)) u 2) 2) p).2.2.length) (((lvS (lkS (μ 0)) (sgS (lkS (μ 0)) u 2) 2) p).2.1 + 1) hI ⟨hP.1, (hu1_0.2.2.2.2 hok).1, nadd hu1_0.1 (nl 1), hu1_0.2.1, hu1_0.2.2.1.trans c_13, by omega, hlt⟩) mu_X7_sum ml_X7_165 (by decide) ⟨0, 7, TX7, 20, _, rfl, gm_0⟩ rfl (Nat.le_of_ble_eq_true rfl) dX7_compares_45 ?_
      rintro _ ⟨f45_0, f45_1, i45_2, i45_3, i45_4, i45_5⟩ ⟨rfl, hu45_0⟩
      have hu45_0 : POut 3 (f1_0) (f1_1) (L + ((lvS (lkS (μ 0)) (sgS (lkS (μ 0)) u 2) 2) p).2.2.length) ((lvS (lkS (μ 0)) (sgS (lkS (μ 0)) u 2) 2) (((lvS (lkS (μ 0)) (sgS (lkS (μ 0)) u 2) 2) p).2.1 + 1)) f45_0 f45_1 i45_2 i45_3 i45_4 i45_5 := hu45_0
      show V X (wM k b μ (va_up (va_up (va_up (va_up (va_up (va_up ν 8 f45_0) 9 f45_1) 12 (fun _ => i45_2)) 13 (fun _ => i45_3)) 14 (fun _ => i45_4)) 15 (fun _ => i45_5))) [(1, .int (lkS (μ 0) (((lvS (lkS (μ 0)) (sgS (lkS (μ 0)) u 2) 2) p).2.1))), (0, .ref (b 20))] [] 48
      refine V.aload_n (pc := 48) 1 hC dX7_compares_48 rfl ?_
      refine V.iload_n (pc := 49) 0 hC dX7_compares_49 rfl ?_
      refine V.iconst (pc := 50) 0 hC dX7_compares_50 (by decide) ?_
      refine V.callV0 (pc := 51) (as := [.int (lkS (μ 0) (((lvS (lkS (μ 0)) (sgS (lkS (μ 0)) u 2) 2) p).2.1)), .int 0]) hC (c_X7_step μ (va_up (va_up (va_up (va_up (va_up (va_up ν 8 f45_0) 9 f45_1) 12 (fun _ => i45_2)) 13 (fun _ => i45_3)) 14 (fun _ => i45_4)) 15 (fun _ => i45_5)) (lkS (μ 0) (((lvS (lkS (μ 0)) (sgS (lkS (μ 0)) u 2) 2) p).2.1)) 0 hu45_0.2.2.2.1) mu_X7_step ml_X7_139 (by decide) ⟨0, 7, TX7, 20, _, rfl, gm_0⟩ rfl (Nat.le_of_ble_eq_true rfl) dX7_compares_51 ?_
      rintro _ ⟨f51_0, f51_1, i51_2⟩ ⟨rfl, hu51_0⟩
      have hu51_0 : StF (f45_0) (f45_1) (i45_2) (lkS (μ 0) (((lvS (lkS (μ 0)) (sgS (lkS (μ 0)) u 2) 2) p).2.1)) 0 f51_0 f51_1 i51_2 := hu51_0
      show V X (wM k b μ (va_up (va_up (va_up (va_up (va_up (va_up ν 8 f51_0) 9 f51_1) 12 (fun _ => i51_2)) 13 (fun _ => i45_3)) 14 (fun _ => i45_4)) 15 (fun _ => i45_5))) [(1, .int (lkS (μ 0) (((lvS (lkS (μ 0)) (sgS (lkS (μ 0)) u 2) 2) p).2.1))), (0, .ref (b 20))] [] 54
      exact hR (f51_0, f51_1, i51_2, i45_3, i45_4, i45_5) _ _ dX7_compares_54 ⟨rfl, by rw [show (lvS (lkS (μ 0)) (sgS (lkS (μ 0)) u 2) 3) p = appS ((lvS (lkS (μ 0)) (sgS (lkS (μ 0)) u 2) 2) p) ((lvS (lkS (μ 0)) (sgS (lkS (μ 0)) u 2) 2) (((lvS (lkS (μ 0)) (sgS (lkS (μ 0)) u 2) 2) p).2.1 + 1)) (lkS (μ 0) ((lvS (lkS (μ 0)) (sgS (lkS (μ 0)) u 2) 2) p).2.1) from lp_yes ⟨hok, hrk⟩]; exact PO_app hu1_0 hok hu45_0 hu51_0 (fun q => by have := hgy.2.2 q; have := hgy.2.1; omega)⟩
    · refine V.iload_n (pc := 22) 0 hC dX7_compares_22 rfl ?_
      refine V.bipush (pc := 23) 61 hC dX7_compares_23 (by decide) ?_
      refine V.icmp_eq (pc := 25) 34 hC dX7_compares_25 (by decide) (fun c_25 => ?_) (fun c_25 => ?_)
      · have hok := bd_0 c_13
        have hgx := hg.2.2 hok
        have hrk : rkS (lkS (μ 0) ((lvS (lkS (μ 0)) (sgS (lkS (μ 0)) u 2) 2) p).2.1) = 2 := rk_2.mpr (Or.inr (Or.inl c_25))
        have hlt : ((lvS (lkS (μ 0)) (sgS (lkS (μ 0)) u 2) 2) p).2.1 < nN (μ 0 5) := tok_lt lk_tok (rk_op hrk (by omega)).2
        have hgy := (lv_g (lk_tok (ρ := μ 0)) (sg_g (u := u) (lk_tok (ρ := μ 0)) 2) 2) (((lvS (lkS (μ 0)) (sgS (lkS (μ 0)) u 2) 2) p).2.1 + 1) hlt
        have hgb := hg.2.1
        refine V.aload_n (pc := 34) 1 hC dX7_compares_34 rfl ?_
        refine V.dup (pc := 35) hC dX7_compares_35 rfl ?_
        refine V.get (pc := 36) (v := .int i1_3) hC cf_X7 0 13 fl_X7_121 (by decide) gm_0 rfl dX7_compares_36 ?_
        refine V.iconst (pc := 39) 1 hC dX7_compares_39 (by decide) ?_
        refine V.iadd (pc := 40) hC dX7_compares_40 ?_
        refine V.put (pc := 41) (v := .int (i1_3 + 1)) hC cf_X7 0 13 (wM k b μ (va_up (va_up (va_up (va_up (va_up (va_up ν 8 f1_0) 9 f1_1) 12 (fun _ => i1_2)) 13 (fun _ => i1_3 + 1)) 14 (fun _ => i1_4)) 15 (fun _ => i1_5))) fl_X7_121 (by decide) gm_0 rfl rfl rfl (Nat.le_of_ble_eq_true rfl) rfl dX7_compares_41 ?_
        refine V.aload_n (pc := 44) 1 hC dX7_compares_44 rfl ?_
        refine V.callV0 (pc := 45) (as := []) hC (c_X7_sum_2 μ (va_up (va_up (va_up (va_up (va_up (va_up ν 8 f1_0) 9 f1_1) 12 (fun _ => i1_2)) 13 (fun _ => i1_3 + 1)) 14 (fun _ => i1_4)) 15 (fun _ => i1_5)) u (L + ((lvS (lkS (μ 0)) (sgS (lkS (μ 0)) u 2) 2) p).2.2.length) (((lvS (lkS (μ 0)) (sgS (lkS (μ 0)) u 2) 2) p).2.1 + 1) hI ⟨hP.1, (hu1_0.2.2.2.2 hok).1, nadd hu1_0.1 (nl 1), hu1_0.2.1, hu1_0.2.2.1.trans c_13, by omega, hlt⟩) mu_X7_sum ml_X7_165 (by decide) ⟨0, 7, TX7, 20, _, rfl, gm_0⟩ rfl (Nat.le_of_ble_eq_true rfl) dX7_compares_45 ?_
        rintro _ ⟨f45_0, f45_1, i45_2, i45_3, i45_4, i45_5⟩ ⟨rfl, hu45_0⟩
        have hu45_0 : POut 3 (f1_0) (f1_1) (L + ((lvS (lkS (μ 0)) (sgS (lkS (μ 0)) u 2) 2) p).2.2.length) ((lvS (lkS (μ 0)) (sgS (lkS (μ 0)) u 2) 2) (((lvS (lkS (μ 0)) (sgS (lkS (μ 0)) u 2) 2) p).2.1 + 1)) f45_0 f45_1 i45_2 i45_3 i45_4 i45_5 := hu45_0
        show V X (wM k b μ (va_up (va_up (va_up (va_up (va_up (va_up ν 8 f45_0) 9 f45_1) 12 (fun _ => i45_2)) 13 (fun _ => i45_3)) 14 (fun _ => i45_4)) 15 (fun _ => i45_5))) [(1, .int (lkS (μ 0) (((lvS (lkS (μ 0)) (sgS (lkS (μ 0)) u 2) 2) p).2.1))), (0, .ref (b 20))] [] 48
        refine V.aload_n (pc := 48) 1 hC dX7_compares_48 rfl ?_
        refine V.iload_n (pc := 49) 0 hC dX7_compares_49 rfl ?_
        refine V.iconst (pc := 50) 0 hC dX7_compares_50 (by decide) ?_
        refine V.callV0 (pc := 51) (as := [.int (lkS (μ 0) (((lvS (lkS (μ 0)) (sgS (lkS (μ 0)) u 2) 2) p).2.1)), .int 0]) hC (c_X7_step μ (va_up (va_up (va_up (va_up (va_up (va_up ν 8 f45_0) 9 f45_1) 12 (fun _ => i45_2)) 13 (fun _ => i45_3)) 14 (fun _ => i45_4)) 15 (fun _ => i45_5)) (lkS (μ 0) (((lvS (lkS (μ 0)) (sgS (lkS (μ 0)) u 2) 2) p).2.1)) 0 hu45_0.2.2.2.1) mu_X7_step ml_X7_139 (by decide) ⟨0, 7, TX7, 20, _, rfl, gm_0⟩ rfl (Nat.le_of_ble_eq_true rfl) dX7_compares_51 ?_
        rintro _ ⟨f51_0, f51_1, i51_2⟩ ⟨rfl, hu51_0⟩
        have hu51_0 : StF (f45_0) (f45_1) (i45_2) (lkS (μ 0) (((lvS (lkS (μ 0)) (sgS (lkS (μ 0)) u 2) 2) p).2.1)) 0 f51_0 f51_1 i51_2 := hu51_0
        show V X (wM k b μ (va_up (va_up (va_up (va_up (va_up (va_up ν 8 f51_0) 9 f51_1) 12 (fun _ => i51_2)) 13 (fun _ => i45_3)) 14 (fun _ => i45_4)) 15 (fun _ => i45_5))) [(1, .int (lkS (μ 0) (((lvS (lkS (μ 0)) (sgS (lkS (μ 0)) u 2) 2) p).2.1))), (0, .ref (b 20))] [] 54
        exact hR (f51_0, f51_1, i51_2, i45_3, i45_4, i45_5) _ _ dX7_compares_54 ⟨rfl, by rw [show (lvS (lkS (μ 0)) (sgS (lkS (μ 0)) u 2) 3) p = appS ((lvS (lkS (μ 0)) (sgS (lkS (μ 0)) u 2) 2) p) ((lvS (lkS (μ 0)) (sgS (lkS (μ 0)) u 2) 2) (((lvS (lkS (μ 0)) (sgS (lkS (μ 0)) u 2) 2) p).2.1 + 1)) (lkS (μ 0) ((lvS (lkS (μ 0)) (sgS (lkS (μ 0)) u 2) 2) p).2.1) from lp_yes ⟨hok, hrk⟩]; exact PO_app hu1_0 hok hu45_0 hu51_0 (fun q => by have := hgy.2.2 q; have := hgy.2.1; omega)⟩
      · refine V.iload_n (pc := 28) 0 hC dX7_compares_28 rfl ?_
        refine V.bipush (pc := 29) 62 hC dX7_compares_29 (by decide) ?_
        refine V.icmp_ne (pc := 31) 54 hC dX7_compares_31 (by decide) (fun c_31 => ?_) (fun c_31 => ?_)
        · exact hR (f1_0, f1_1, i1_2, i1_3, i1_4, i1_5) _ _ dX7_compares_54 ⟨rfl, by rw [show (lvS (lkS (μ 0)) (sgS (lkS (μ 0)) u 2) 3) p = ((lvS (lkS (μ 0)) (sgS (lkS (μ 0)) u 2) 2) p) from lp_no (fun q => (rk_2.mp q.2).elim c_19 (fun q => q.elim c_25 c_31))]; exact hu1_0⟩
        · have hok := bd_0 c_13
          have hgx := hg.2.2 hok
          have hrk : rkS (lkS (μ 0) ((lvS (lkS (μ 0)) (sgS (lkS (μ 0)) u 2) 2) p).2.1) = 2 := rk_2.mpr (Or.inr (Or.inr c_31))
          have hlt : ((lvS (lkS (μ 0)) (sgS (lkS (μ 0)) u 2) 2) p).2.1 < nN (μ 0 5) := tok_lt lk_tok (rk_op hrk (by omega)).2
          have hgy := (lv_g (lk_tok (ρ := μ 0)) (sg_g (u := u) (lk_tok (ρ := μ 0)) 2) 2) (((lvS (lkS (μ 0)) (sgS (lkS (μ 0)) u 2) 2) p).2.1 + 1) hlt
          have hgb := hg.2.1
          refine V.aload_n (pc := 34) 1 hC dX7_compares_34 rfl ?_
          refine V.dup (pc := 35) hC dX7_compares_35 rfl ?_
          refine V.get (pc := 36) (v := .int i1_3) hC cf_X7 0 13 fl_X7_121 (by decide) gm_0 rfl dX7_compares_36 ?_
          refine V.iconst (pc := 39) 1 hC dX7_compares_39 (by decide) ?_
          refine V.iadd (pc := 40) hC dX7_compares_40 ?_
          refine V.put (pc := 41) (v := .int (i1_3 + 1)) hC cf_X7 0 13 (wM k b μ (va_up (va_up (va_up (va_up (va_up (va_up ν 8 f1_0) 9 f1_1) 12 (fun _ => i1_2)) 13 (fun _ => i1_3 + 1)) 14 (fun _ => i1_4)) 15 (fun _ => i1_5))) fl_X7_121 (by decide) gm_0 rfl rfl rfl (Nat.le_of_ble_eq_true rfl) rfl dX7_compares_41 ?_
          refine V.aload_n (pc := 44) 1 hC dX7_compares_44 rfl ?_
          refine V.callV0 (pc := 45) (as := []) hC (c_X7_sum_2 μ (va_up (va_up (va_up (va_up (va_up (va_up ν 8 f1_0) 9 f1_1) 12 (fun _ => i1_2)) 13 (fun _ => i1_3 + 1)) 14 (fun _ => i1_4)) 15 (fun _ => i1_5)) u (L + ((lvS (lkS (μ 0)) (sgS (lkS (μ 0)) u 2) 2) p).2.2.length) (((lvS (lkS (μ 0)) (sgS (lkS (μ 0)) u 2) 2) p).2.1 + 1) hI ⟨hP.1, (hu1_0.2.2.2.2 hok).1, nadd hu1_0.1 (nl 1), hu1_0.2.1, hu1_0.2.2.1.trans c_13, by omega, hlt⟩) mu_X7_sum ml_X7_165 (by decide) ⟨0, 7, TX7, 20, _, rfl, gm_0⟩ rfl (Nat.le_of_ble_eq_true rfl) dX7_compares_45 ?_
          rintro _ ⟨f45_0, f45_1, i45_2, i45_3, i45_4, i45_5⟩ ⟨rfl, hu45_0⟩
          have hu45_0 : POut 3 (f1_0) (f1_1) (L + ((lvS (lkS (μ 0)) (sgS (lkS (μ 0)) u 2) 2) p).2.2.length) ((lvS (lkS (μ 0)) (sgS (lkS (μ 0)) u 2) 2) (((lvS (lkS (μ 0)) (sgS (lkS (μ 0)) u 2) 2) p).2.1 + 1)) f45_0 f45_1 i45_2 i45_3 i45_4 i45_5 := hu45_0
          show V X (wM k b μ (va_up (va_up (va_up (va_up (va_up (va_up ν 8 f45_0) 9 f45_1) 12 (fun _ => i45_2)) 13 (fun _ => i45_3)) 14 (fun _ => i45_4)) 15 (fun _ => i45_5))) [(1, .int (lkS (μ 0) (((lvS (lkS (μ 0)) (sgS (lkS (μ 0)) u 2) 2) p).2.1))), (0, .ref (b 20))] [] 48
          refine V.aload_n (pc := 48) 1 hC dX7_compares_48 rfl ?_
          refine V.iload_n (pc := 49) 0 hC dX7_compares_49 rfl ?_
          refine V.iconst (pc := 50) 0 hC dX7_compares_50 (by decide) ?_
          refine V.callV0 (pc := 51) (as := [.int (lkS (μ 0) (((lvS (lkS (μ 0)) (sgS (lkS (μ 0)) u 2) 2) p).2.1)), .int 0]) hC (c_X7_step μ (va_up (va_up (va_up (va_up (va_up (va_up ν 8 f45_0) 9 f45_1) 12 (fun _ => i45_2)) 13 (fun _ => i45_3)) 14 (fun _ => i45_4)) 15 (fun _ => i45_5)) (lkS (μ 0) (((lvS (lkS (μ 0)) (sgS (lkS (μ 0)) u 2) 2) p).2.1)) 0 hu45_0.2.2.2.1) mu_X7_step ml_X7_139 (by decide) ⟨0, 7, TX7, 20, _, rfl, gm_0⟩ rfl (Nat.le_of_ble_eq_true rfl) dX7_compares_51 ?_
          rintro _ ⟨f51_0, f51_1, i51_2⟩ ⟨rfl, hu51_0⟩
          have hu51_0 : StF (f45_0) (f45_1) (i45_2) (lkS (μ 0) (((lvS (lkS (μ 0)) (sgS (lkS (μ 0)) u 2) 2) p).2.1)) 0 f51_0 f51_1 i51_2 := hu51_0
          show V X (wM k b μ (va_up (va_up (va_up (va_up (va_up (va_up ν 8 f51_0) 9 f51_1) 12 (fun _ => i51_2)) 13 (fun _ => i45_3)) 14 (fun _ => i45_4)) 15 (fun _ => i45_5))) [(1, .int (lkS (μ 0) (((lvS (lkS (μ 0)) (sgS (lkS (μ 0)) u 2) 2) p).2.1))), (0, .ref (b 20))] [] 54
          exact hR (f51_0, f51_1, i51_2, i45_3, i45_4, i45_5) _ _ dX7_compares_54 ⟨rfl, by rw [show (lvS (lkS (μ 0)) (sgS (lkS (μ 0)) u 2) 3) p = appS ((lvS (lkS (μ 0)) (sgS (lkS (μ 0)) u 2) 2) p) ((lvS (lkS (μ 0)) (sgS (lkS (μ 0)) u 2) 2) (((lvS (lkS (μ 0)) (sgS (lkS (μ 0)) u 2) 2) p).2.1 + 1)) (lkS (μ 0) ((lvS (lkS (μ 0)) (sgS (lkS (μ 0)) u 2) 2) p).2.1) from lp_yes ⟨hok, hrk⟩]; exact PO_app hu1_0 hok hu45_0 hu51_0 (fun q => by have := hgy.2.2 q; have := hgy.2.1; omega)⟩
set_option maxHeartbeats 4000000 in
set_option maxRecDepth 100000 in
theorem c_X7_all_2 {l : Launch} {D : va_G} {k : Nat → ClassId} {g b : Nat → Nat} (μ ν : St) (u : Int32) (L p : Nat) (hI : Inv (μ 0)) (hP : PIn (nN (μ 0 5)) (ν 12 0) (ν 13 0) (ν 14 0) (ν 15 0) (ν 16 0) u 3 L p) : Ct l D k g yX7_all cX7_all 1 none 20 421 [.ref (b 20)] (S := Rw × Rw × Int32 × Int32 × Int32 × Int32) (wM k b μ ν) (fun uu => wM k b μ (va_up (va_up (va_up (va_up (va_up (va_up ν 8 uu.1) 9 uu.2.1) 12 (fun _ => uu.2.2.1)) 13 (fun _ => uu.2.2.2.1)) 14 (fun _ => uu.2.2.2.2.1)) 15 (fun _ => uu.2.2.2.2.2))) (fun vv uu => vv = none ∧ POut 3 (ν 8) (ν 9) L ((lvS (lkS (μ 0)) (sgS (lkS (μ 0)) u 2) 4) p) uu.1 uu.2.1 uu.2.2.1 uu.2.2.2.1 uu.2.2.2.2.1 uu.2.2.2.2.2) := by
  refine Ct.ofV RX7 rfl (by decide +kernel) (Nat.le_of_ble_eq_true rfl) (fun X hC hR => ?_)
  have hb60 := hI.bb; have hle := hP.2.2.2.2.2
  show V X (wM k b μ ν) [(0, .ref (b 20))] [] 0
  refine V.aload_n (pc := 0) 0 hC dX7_all_0 rfl ?_
  refine V.callV0 (pc := 1) (as := []) hC (c_X7_compares_2 μ ν u L p hI hP) mu_X7_compares ml_X7_168 (by decide) ⟨0, 7, TX7, 20, _, rfl, gm_0⟩ rfl (Nat.le_of_ble_eq_true rfl) dX7_all_1 ?_
  rintro _ ⟨f1_0, f1_1, i1_2, i1_3, i1_4, i1_5⟩ ⟨rfl, hu1_0⟩
  have hu1_0 : POut 3 (ν 8) (ν 9) L ((lvS (lkS (μ 0)) (sgS (lkS (μ 0)) u 2) 3) p) f1_0 f1_1 i1_2 i1_3 i1_4 i1_5 := hu1_0
  show V X (wM k b μ (va_up (va_up (va_up (va_up (va_up (va_up ν 8 f1_0) 9 f1_1) 12 (fun _ => i1_2)) 13 (fun _ => i1_3)) 14 (fun _ => i1_4)) 15 (fun _ => i1_5))) [(0, .ref (b 20))] [] 4
  have loop_4 : ∀ (n : Nat) (x : Res) (f8 f9 : Rw) (i12 i13 i14 i15 : Int32), GR (nN (μ 0 5)) p x → POut 3 (ν 8) (ν 9) L x f8 f9 i12 i13 i14 i15 → 60 ≤ n + x.2.1 → (lvS (lkS (μ 0)) (sgS (lkS (μ 0)) u 2) 4) p = lpS (lkS (μ 0)) (lvS (lkS (μ 0)) (sgS (lkS (μ 0)) u 2) 3) 1 n x → V X (wM k b μ (va_up (va_up (va_up (va_up (va_up (va_up ν 8 f8) 9 f9) 12 (fun _ => i12)) 13 (fun _ => i13)) 14 (fun _ => i14)) 15 (fun _ => i15))) [(0, .ref (b 20))] [] 4 := by
    intro n
    induction n with
    | zero =>
      intro x f8 f9 i12 i13 i14 i15 hg hx hi hv
      have hxb := hg.2.1
      have hz : lkS (μ 0) x.2.1 = -1 := lk_tok x.2.1 (by omega)
      refine V.aload_n (pc := 4) 0 hC dX7_all_4 rfl ?_
      refine V.get (pc := 5) (v := .int i15) hC cf_X7 0 15 fl_X7_135 (by decide) gm_0 rfl dX7_all_5 ?_
      refine V.eqi (y := bdS x) (hx.2.2.1) ?_
      refine V.if_ne (pc := 8) 44 hC dX7_all_8 (by decide) (fun c_8 => ?_) (fun c_8 => ?_)
      · exact hR (f8, f9, i12, i13, i14, i15) _ _ dX7_all_44 ⟨rfl, by rw [show (lvS (lkS (μ 0)) (sgS (lkS (μ 0)) u 2) 4) p = x from hv.trans (lp_no (fun q => bd_1 c_8 q.1))]; exact hx⟩
      · refine V.aload_n (pc := 11) 0 hC dX7_all_11 rfl ?_
        refine V.callV0 (pc := 12) (as := []) hC (c_X7_look μ (va_up (va_up (va_up (va_up (va_up (va_up ν 8 f8) 9 f9) 12 (fun _ => i12)) 13 (fun _ => i13)) 14 (fun _ => i14)) 15 (fun _ => i15)) x.2.1 hI hx.1 (by omega)) mu_X7_look ml_X7_131 (by decide) ⟨0, 7, TX7, 20, _, rfl, gm_0⟩ rfl (Nat.le_of_ble_eq_true rfl) dX7_all_12 ?_
        rintro _ _ rfl
        show V X (wM k b μ (va_up (va_up (va_up (va_up (va_up (va_up ν 8 f8) 9 f9) 12 (fun _ => i12)) 13 (fun _ => i13)) 14 (fun _ => i14)) 15 (fun _ => i15))) [(0, .ref (b 20))] [.int (lkS (μ 0) x.2.1)] 15
        refine V.bipush (pc := 15) 38 hC dX7_all_15 (by decide) ?_
        refine V.icmp_ne (pc := 17) 44 hC dX7_all_17 (by decide) (fun c_17 => ?_) (fun c_17 => ?_)
        · exact hR (f8, f9, i12, i13, i14, i15) _ _ dX7_all_44 ⟨rfl, by rw [show (lvS (lkS (μ 0)) (sgS (lkS (μ 0)) u 2) 4) p = x from hv.trans (lp_no (fun q => c_17 (rk_1.mp q.2)))]; exact hx⟩
        · exact absurd c_17 (by rw [hz]; decide)
    | succ n ih =>
      intro x f8 f9 i12 i13 i14 i15 hg hx hi hv
      have hxb := hg.2.1
      refine V.aload_n (pc := 4) 0 hC dX7_all_4 rfl ?_
      refine V.get (pc := 5) (v := .int i15) hC cf_X7 0 15 fl_X7_135 (by decide) gm_0 rfl dX7_all_5 ?_
      refine V.eqi (y := bdS x) (hx.2.2.1) ?_
      refine V.if_ne (pc := 8) 44 hC dX7_all_8 (by decide) (fun c_8 => ?_) (fun c_8 => ?_)
      · exact hR (f8, f9, i12, i13, i14, i15) _ _ dX7_all_44 ⟨rfl, by rw [show (lvS (lkS (μ 0)) (sgS (lkS (μ 0)) u 2) 4) p = x from hv.trans (lp_no (fun q => bd_1 c_8 q.1))]; exact hx⟩
      · refine V.aload_n (pc := 11) 0 hC dX7_all_11 rfl ?_
        refine V.callV0 (pc := 12) (as := []) hC (c_X7_look μ (va_up (va_up (va_up (va_up (va_up (va_up ν 8 f8) 9 f9) 12 (fun _ => i12)) 13 (fun _ => i13)) 14 (fun _ => i14)) 15 (fun _ => i15)) x.2.1 hI hx.1 (by omega)) mu_X7_look ml_X7_131 (by decide) ⟨0, 7, TX7, 20, _, rfl, gm_0⟩ rfl (Nat.le_of_ble_eq_true rfl) dX7_all_12 ?_
        rintro _ _ rfl
        show V X (wM k b μ (va_up (va_up (va_up (va_up (va_up (va_up ν 8 f8) 9 f9) 12 (fun _ => i12)) 13 (fun _ => i13)) 14 (fun _ => i14)) 15 (fun _ => i15))) [(0, .ref (b 20))] [.int (lkS (μ 0) x.2.1)] 15
        refine V.bipush (pc := 15) 38 hC dX7_all_15 (by decide) ?_
        refine V.icmp_ne (pc := 17) 44 hC dX7_all_17 (by decide) (fun c_17 => ?_) (fun c_17 => ?_)
        · exact hR (f8, f9, i12, i13, i14, i15) _ _ dX7_all_44 ⟨rfl, by rw [show (lvS (lkS (μ 0)) (sgS (lkS (μ 0)) u 2) 4) p = x from hv.trans (lp_no (fun q => c_17 (rk_1.mp q.2)))]; exact hx⟩
        · have hok := bd_0 c_8
          have hgx := hg.2.2 hok
          have hrk : rkS (lkS (μ 0) x.2.1) = 1 := rk_1.mpr (c_17)
          have hlt : x.2.1 < nN (μ 0 5) := tok_lt lk_tok (rk_op hrk (by omega)).2
          have hgy := (lv_g (lk_tok (ρ := μ 0)) (sg_g (u := u) (lk_tok (ρ := μ 0)) 2) 3) (x.2.1 + 1) hlt
          have hgb := hg.2.1
          refine V.aload_n (pc := 20) 0 hC dX7_all_20 rfl ?_
          refine V.dup (pc := 21) hC dX7_all_21 rfl ?_
          refine V.get (pc := 22) (v := .int i13) hC cf_X7 0 13 fl_X7_121 (by decide) gm_0 rfl dX7_all_22 ?_
          refine V.iconst (pc := 25) 1 hC dX7_all_25 (by decide) ?_
          refine V.iadd (pc := 26) hC dX7_all_26 ?_
          refine V.put (pc := 27) (v := .int (i13 + 1)) hC cf_X7 0 13 (wM k b μ (va_up (va_up (va_up (va_up (va_up (va_up ν 8 f8) 9 f9) 12 (fun _ => i12)) 13 (fun _ => i13 + 1)) 14 (fun _ => i14)) 15 (fun _ => i15))) fl_X7_121 (by decide) gm_0 rfl rfl rfl (Nat.le_of_ble_eq_true rfl) rfl dX7_all_27 ?_
          refine V.aload_n (pc := 30) 0 hC dX7_all_30 rfl ?_
          refine V.callV0 (pc := 31) (as := []) hC (c_X7_compares_2 μ (va_up (va_up (va_up (va_up (va_up (va_up ν 8 f8) 9 f9) 12 (fun _ => i12)) 13 (fun _ => i13 + 1)) 14 (fun _ => i14)) 15 (fun _ => i15)) u (L + x.2.2.length) (x.2.1 + 1) hI ⟨hP.1, (hx.2.2.2.2 hok).1, nadd hx.1 (nl 1), hx.2.1, hx.2.2.1.trans c_8, by omega, hlt⟩) mu_X7_compares ml_X7_168 (by decide) ⟨0, 7, TX7, 20, _, rfl, gm_0⟩ rfl (Nat.le_of_ble_eq_true rfl) dX7_all_31 ?_
          rintro _ ⟨f31_0, f31_1, i31_2, i31_3, i31_4, i31_5⟩ ⟨rfl, hu31_0⟩
          have hu31_0 : POut 3 (f8) (f9) (L + x.2.2.length) ((lvS (lkS (μ 0)) (sgS (lkS (μ 0)) u 2) 3) (x.2.1 + 1)) f31_0 f31_1 i31_2 i31_3 i31_4 i31_5 := hu31_0
          show V X (wM k b μ (va_up (va_up (va_up (va_up (va_up (va_up ν 8 f31_0) 9 f31_1) 12 (fun _ => i31_2)) 13 (fun _ => i31_3)) 14 (fun _ => i31_4)) 15 (fun _ => i31_5))) [(0, .ref (b 20))] [] 34
          refine V.aload_n (pc := 34) 0 hC dX7_all_34 rfl ?_
          refine V.bipush (pc := 35) 38 hC dX7_all_35 (by decide) ?_
          refine V.iconst (pc := 37) 0 hC dX7_all_37 (by decide) ?_
          refine V.callV0 (pc := 38) (as := [.int 38, .int 0]) hC (c_X7_step μ (va_up (va_up (va_up (va_up (va_up (va_up ν 8 f31_0) 9 f31_1) 12 (fun _ => i31_2)) 13 (fun _ => i31_3)) 14 (fun _ => i31_4)) 15 (fun _ => i31_5)) 38 0 hu31_0.2.2.2.1) mu_X7_step ml_X7_139 (by decide) ⟨0, 7, TX7, 20, _, rfl, gm_0⟩ rfl (Nat.le_of_ble_eq_true rfl) dX7_all_38 ?_
          rintro _ ⟨f38_0, f38_1, i38_2⟩ ⟨rfl, hu38_0⟩
          have hu38_0 : StF (f31_0) (f31_1) (i31_2) 38 0 f38_0 f38_1 i38_2 := hu38_0
          show V X (wM k b μ (va_up (va_up (va_up (va_up (va_up (va_up ν 8 f38_0) 9 f38_1) 12 (fun _ => i38_2)) 13 (fun _ => i31_3)) 14 (fun _ => i31_4)) 15 (fun _ => i31_5))) [(0, .ref (b 20))] [] 41
          refine V.goto (pc := 41) 4 hC dX7_all_41 (by decide) ?_
          exact V.sub [0] rfl (ih (appS x ((lvS (lkS (μ 0)) (sgS (lkS (μ 0)) u 2) 3) (x.2.1 + 1)) (lkS (μ 0) x.2.1)) f38_0 f38_1 i38_2 i31_3 i31_4 i31_5 (hg.app hok hgy (rk_op hrk (by omega)).1) (PO_app hx hok hu31_0 (by rw [c_17]; exact hu38_0) (fun q => by have := hgy.2.2 q; have := hgy.2.1; omega)) (by have := hgy.1; show 60 ≤ n + ((lvS (lkS (μ 0)) (sgS (lkS (μ 0)) u 2) 3) (x.2.1 + 1)).2.1; omega) (hv.trans (lp_yes ⟨hok, hrk⟩)))
  exact V.sub [0] rfl (loop_4 60 ((lvS (lkS (μ 0)) (sgS (lkS (μ 0)) u 2) 3) p) f1_0 f1_1 i1_2 i1_3 i1_4 i1_5 ((lv_g (lk_tok (ρ := μ 0)) (sg_g (u := u) (lk_tok (ρ := μ 0)) 2) 3) p (by omega)) hu1_0 (by omega) rfl)
set_option maxHeartbeats 4000000 in
set_option maxRecDepth 100000 in
theorem c_X7_any_2 {l : Launch} {D : va_G} {k : Nat → ClassId} {g b : Nat → Nat} (μ ν : St) (u : Int32) (L p : Nat) (hI : Inv (μ 0)) (hP : PIn (nN (μ 0 5)) (ν 12 0) (ν 13 0) (ν 14 0) (ν 15 0) (ν 16 0) u 3 L p) : Ct l D k g yX7_any cX7_any 1 none 21 441 [.ref (b 20)] (S := Rw × Rw × Int32 × Int32 × Int32 × Int32) (wM k b μ ν) (fun uu => wM k b μ (va_up (va_up (va_up (va_up (va_up (va_up ν 8 uu.1) 9 uu.2.1) 12 (fun _ => uu.2.2.1)) 13 (fun _ => uu.2.2.2.1)) 14 (fun _ => uu.2.2.2.2.1)) 15 (fun _ => uu.2.2.2.2.2))) (fun vv uu => vv = none ∧ POut 3 (ν 8) (ν 9) L ((lvS (lkS (μ 0)) (sgS (lkS (μ 0)) u 2) 5) p) uu.1 uu.2.1 uu.2.2.1 uu.2.2.2.1 uu.2.2.2.2.1 uu.2.2.2.2.2) := by
  refine Ct.ofV RX7 rfl (by decide +kernel) (Nat.le_of_ble_eq_true rfl) (fun X hC hR => ?_)
  have hb60 := hI.bb; have hle := hP.2.2.2.2.2
  show V X (wM k b μ ν) [(0, .ref (b 20))] [] 0
  refine V.aload_n (pc := 0) 0 hC dX7_any_0 rfl ?_
  refine V.callV0 (pc := 1) (as := []) hC (c_X7_all_2 μ ν u L p hI hP) mu_X7_all ml_X7_171 (by decide) ⟨0, 7, TX7, 20, _, rfl, gm_0⟩ rfl (Nat.le_of_ble_eq_true rfl) dX7_any_1 ?_
  rintro _ ⟨f1_0, f1_1, i1_2, i1_3, i1_4, i1_5⟩ ⟨rfl, hu1_0⟩
  have hu1_0 : POut 3 (ν 8) (ν 9) L ((lvS (lkS (μ 0)) (sgS (lkS (μ 0)) u 2) 4) p) f1_0 f1_1 i1_2 i1_3 i1_4 i1_5 := hu1_0
  show V X (wM k b μ (va_up (va_up (va_up (va_up (va_up (va_up ν 8 f1_0) 9 f1_1) 12 (fun _ => i1_2)) 13 (fun _ => i1_3)) 14 (fun _ => i1_4)) 15 (fun _ => i1_5))) [(0, .ref (b 20))] [] 4
  have loop_4 : ∀ (n : Nat) (x : Res) (f8 f9 : Rw) (i12 i13 i14 i15 : Int32), GR (nN (μ 0 5)) p x → POut 3 (ν 8) (ν 9) L x f8 f9 i12 i13 i14 i15 → 60 ≤ n + x.2.1 → (lvS (lkS (μ 0)) (sgS (lkS (μ 0)) u 2) 5) p = lpS (lkS (μ 0)) (lvS (lkS (μ 0)) (sgS (lkS (μ 0)) u 2) 4) 0 n x → V X (wM k b μ (va_up (va_up (va_up (va_up (va_up (va_up ν 8 f8) 9 f9) 12 (fun _ => i12)) 13 (fun _ => i13)) 14 (fun _ => i14)) 15 (fun _ => i15))) [(0, .ref (b 20))] [] 4 := by
    intro n
    induction n with
    | zero =>
      intro x f8 f9 i12 i13 i14 i15 hg hx hi hv
      have hxb := hg.2.1
      have hz : lkS (μ 0) x.2.1 = -1 := lk_tok x.2.1 (by omega)
      refine V.aload_n (pc := 4) 0 hC dX7_any_4 rfl ?_
      refine V.get (pc := 5) (v := .int i15) hC cf_X7 0 15 fl_X7_135 (by decide) gm_0 rfl dX7_any_5 ?_
      refine V.eqi (y := bdS x) (hx.2.2.1) ?_
      refine V.if_ne (pc := 8) 44 hC dX7_any_8 (by decide) (fun c_8 => ?_) (fun c_8 => ?_)
      · exact hR (f8, f9, i12, i13, i14, i15) _ _ dX7_any_44 ⟨rfl, by rw [show (lvS (lkS (μ 0)) (sgS (lkS (μ 0)) u 2) 5) p = x from hv.trans (lp_no (fun q => bd_1 c_8 q.1))]; exact hx⟩
      · refine V.aload_n (pc := 11) 0 hC dX7_any_11 rfl ?_
        refine V.callV0 (pc := 12) (as := []) hC (c_X7_look μ (va_up (va_up (va_up (va_up (va_up (va_up ν 8 f8) 9 f9) 12 (fun _ => i12)) 13 (fun _ => i13)) 14 (fun _ => i14)) 15 (fun _ => i15)) x.2.1 hI hx.1 (by omega)) mu_X7_look ml_X7_131 (by decide) ⟨0, 7, TX7, 20, _, rfl, gm_0⟩ rfl (Nat.le_of_ble_eq_true rfl) dX7_any_12 ?_
        rintro _ _ rfl
        show V X (wM k b μ (va_up (va_up (va_up (va_up (va_up (va_up ν 8 f8) 9 f9) 12 (fun _ => i12)) 13 (fun _ => i13)) 14 (fun _ => i14)) 15 (fun _ => i15))) [(0, .ref (b 20))] [.int (lkS (μ 0) x.2.1)] 15
        refine V.bipush (pc := 15) 124 hC dX7_any_15 (by decide) ?_
        refine V.icmp_ne (pc := 17) 44 hC dX7_any_17 (by decide) (fun c_17 => ?_) (fun c_17 => ?_)
        · exact hR (f8, f9, i12, i13, i14, i15) _ _ dX7_any_44 ⟨rfl, by rw [show (lvS (lkS (μ 0)) (sgS (lkS (μ 0)) u 2) 5) p = x from hv.trans (lp_no (fun q => c_17 (rk_0.mp q.2)))]; exact hx⟩
        · exact absurd c_17 (by rw [hz]; decide)
    | succ n ih =>
      intro x f8 f9 i12 i13 i14 i15 hg hx hi hv
      have hxb := hg.2.1
      refine V.aload_n (pc := 4) 0 hC dX7_any_4 rfl ?_
      refine V.get (pc := 5) (v := .int i15) hC cf_X7 0 15 fl_X7_135 (by decide) gm_0 rfl dX7_any_5 ?_
      refine V.eqi (y := bdS x) (hx.2.2.1) ?_
      refine V.if_ne (pc := 8) 44 hC dX7_any_8 (by decide) (fun c_8 => ?_) (fun c_8 => ?_)
      · exact hR (f8, f9, i12, i13, i14, i15) _ _ dX7_any_44 ⟨rfl, by rw [show (lvS (lkS (μ 0)) (sgS (lkS (μ 0)) u 2) 5) p = x from hv.trans (lp_no (fun q => bd_1 c_8 q.1))]; exact hx⟩
      · refine V.aload_n (pc := 11) 0 hC dX7_any_11 rfl ?_
        refine V.callV0 (pc := 12) (as := []) hC (c_X7_look μ (va_up (va_up (va_up (va_up (va_up (va_up ν 8 f8) 9 f9) 12 (fun _ => i12)) 13 (fun _ => i13)) 14 (fun _ => i14)) 15 (fun _ => i15)) x.2.1 hI hx.1 (by omega)) mu_X7_look ml_X7_131 (by decide) ⟨0, 7, TX7, 20, _, rfl, gm_0⟩ rfl (Nat.le_of_ble_eq_true rfl) dX7_any_12 ?_
        rintro _ _ rfl
        show V X (wM k b μ (va_up (va_up (va_up (va_up (va_up (va_up ν 8 f8) 9 f9) 12 (fun _ => i12)) 13 (fun _ => i13)) 14 (fun _ => i14)) 15 (fun _ => i15))) [(0, .ref (b 20))] [.int (lkS (μ 0) x.2.1)] 15
        refine V.bipush (pc := 15) 124 hC dX7_any_15 (by decide) ?_
        refine V.icmp_ne (pc := 17) 44 hC dX7_any_17 (by decide) (fun c_17 => ?_) (fun c_17 => ?_)
        · exact hR (f8, f9, i12, i13, i14, i15) _ _ dX7_any_44 ⟨rfl, by rw [show (lvS (lkS (μ 0)) (sgS (lkS (μ 0)) u 2) 5) p = x from hv.trans (lp_no (fun q => c_17 (rk_0.mp q.2)))]; exact hx⟩
        · have hok := bd_0 c_8
          have hgx := hg.2.2 hok
          have hrk : rkS (lkS (μ 0) x.2.1) = 0 := rk_0.mpr (c_17)
          have hlt : x.2.1 < nN (μ 0 5) := tok_lt lk_tok (rk_op hrk (by omega)).2
          have hgy := (lv_g (lk_tok (ρ := μ 0)) (sg_g (u := u) (lk_tok (ρ := μ 0)) 2) 4) (x.2.1 + 1) hlt
          have hgb := hg.2.1
          refine V.aload_n (pc := 20) 0 hC dX7_any_20 rfl ?_
          refine V.dup (pc := 21) hC dX7_any_21 rfl ?_
          refine V.get (pc := 22) (v := .int i13) hC cf_X7 0 13 fl_X7_121 (by decide) gm_0 rfl dX7_any_22 ?_
          refine V.iconst (pc := 25) 1 hC dX7_any_25 (by decide) ?_
          refine V.iadd (pc := 26) hC dX7_any_26 ?_
          refine V.put (pc := 27) (v := .int (i13 + 1)) hC cf_X7 0 13 (wM k b μ (va_up (va_up (va_up (va_up (va_up (va_up ν 8 f8) 9 f9) 12 (fun _ => i12)) 13 (fun _ => i13 + 1)) 14 (fun _ => i14)) 15 (fun _ => i15))) fl_X7_121 (by decide) gm_0 rfl rfl rfl (Nat.le_of_ble_eq_true rfl) rfl dX7_any_27 ?_
          refine V.aload_n (pc := 30) 0 hC dX7_any_30 rfl ?_
          refine V.callV0 (pc := 31) (as := []) hC (c_X7_all_2 μ (va_up (va_up (va_up (va_up (va_up (va_up ν 8 f8) 9 f9) 12 (fun _ => i12)) 13 (fun _ => i13 + 1)) 14 (fun _ => i14)) 15 (fun _ => i15)) u (L + x.2.2.length) (x.2.1 + 1) hI ⟨hP.1, (hx.2.2.2.2 hok).1, nadd hx.1 (nl 1), hx.2.1, hx.2.2.1.trans c_8, by omega, hlt⟩) mu_X7_all ml_X7_171 (by decide) ⟨0, 7, TX7, 20, _, rfl, gm_0⟩ rfl (Nat.le_of_ble_eq_true rfl) dX7_any_31 ?_
          rintro _ ⟨f31_0, f31_1, i31_2, i31_3, i31_4, i31_5⟩ ⟨rfl, hu31_0⟩
          have hu31_0 : POut 3 (f8) (f9) (L + x.2.2.length) ((lvS (lkS (μ 0)) (sgS (lkS (μ 0)) u 2) 4) (x.2.1 + 1)) f31_0 f31_1 i31_2 i31_3 i31_4 i31_5 := hu31_0
          show V X (wM k b μ (va_up (va_up (va_up (va_up (va_up (va_up ν 8 f31_0) 9 f31_1) 12 (fun _ => i31_2)) 13 (fun _ => i31_3)) 14 (fun _ => i31_4)) 15 (fun _ => i31_5))) [(0, .ref (b 20))] [] 34
          refine V.aload_n (pc := 34) 0 hC dX7_any_34 rfl ?_
          refine V.bipush (pc := 35) 124 hC dX7_any_35 (by decide) ?_
          refine V.iconst (pc := 37) 0 hC dX7_any_37 (by decide) ?_
          refine V.callV0 (pc := 38) (as := [.int 124, .int 0]) hC (c_X7_step μ (va_up (va_up (va_up (va_up (va_up (va_up ν 8 f31_0) 9 f31_1) 12 (fun _ => i31_2)) 13 (fun _ => i31_3)) 14 (fun _ => i31_4)) 15 (fun _ => i31_5)) 124 0 hu31_0.2.2.2.1) mu_X7_step ml_X7_139 (by decide) ⟨0, 7, TX7, 20, _, rfl, gm_0⟩ rfl (Nat.le_of_ble_eq_true rfl) dX7_any_38 ?_
          rintro _ ⟨f38_0, f38_1, i38_2⟩ ⟨rfl, hu38_0⟩
          have hu38_0 : StF (f31_0) (f31_1) (i31_2) 124 0 f38_0 f38_1 i38_2 := hu38_0
          show V X (wM k b μ (va_up (va_up (va_up (va_up (va_up (va_up ν 8 f38_0) 9 f38_1) 12 (fun _ => i38_2)) 13 (fun _ => i31_3)) 14 (fun _ => i31_4)) 15 (fun _ => i31_5))) [(0, .ref (b 20))] [] 41
          refine V.goto (pc := 41) 4 hC dX7_any_41 (by decide) ?_
          exact V.sub [0] rfl (ih (appS x ((lvS (lkS (μ 0)) (sgS (lkS (μ 0)) u 2) 4) (x.2.1 + 1)) (lkS (μ 0) x.2.1)) f38_0 f38_1 i38_2 i31_3 i31_4 i31_5 (hg.app hok hgy (rk_op hrk (by omega)).1) (PO_app hx hok hu31_0 (by rw [c_17]; exact hu38_0) (fun q => by have := hgy.2.2 q; have := hgy.2.1; omega)) (by have := hgy.1; show 60 ≤ n + ((lvS (lkS (μ 0)) (sgS (lkS (μ 0)) u 2) 4) (x.2.1 + 1)).2.1; omega) (hv.trans (lp_yes ⟨hok, hrk⟩)))
  exact V.sub [0] rfl (loop_4 60 ((lvS (lkS (μ 0)) (sgS (lkS (μ 0)) u 2) 4) p) f1_0 f1_1 i1_2 i1_3 i1_4 i1_5 ((lv_g (lk_tok (ρ := μ 0)) (sg_g (u := u) (lk_tok (ρ := μ 0)) 2) 4) p (by omega)) hu1_0 (by omega) rfl)
