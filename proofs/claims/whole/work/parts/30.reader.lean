set_option maxHeartbeats 4000000 in
set_option maxRecDepth 100000 in
theorem c_X1_single_4 {l : Launch} {D : va_G} {k : Nat → ClassId} {g a : Nat → Nat} (σ ν : St) (ρ : Rw) (u L p : Nat) (hT : RT σ ρ) (hI : Inv ρ) (hu2 : u < 2) (hP : CIn (nN (ρ 5)) (ν 71 0) (ν 72 0) (ν 73 0) u L p) : Ct l D k g yX1_readSingle cX1_readSingle 4 (some .boolean) 16 375 [.ref (a 3), .int 4] (S := Rw × Int32 × Int32) (wX k g a σ ν) (fun uu => wX k g a σ (va_up (va_up (va_up ν 70 uu.1) 71 (fun _ => uu.2.1)) 72 (fun _ => uu.2.2))) (fun vv uu => vv = some (.int (bI (((sgS (lkS ρ) (nI u) 1) p).1 = true))) ∧ COut (ν 70) L ((sgS (lkS ρ) (nI u) 1) p) uu.1 uu.2.1 uu.2.2) := by
  refine Ct.ofI RX1 rfl (by decide +kernel) (Nat.le_of_ble_eq_true rfl) (fun X hC hR => ?_)
  have hb60 := hI.bb; have hle := hP.2.2.2
  have hm1 : ¬ 0 ≤ namS (nI u) (-1) := fun z => (nam_b z).2 rfl
  show V X (wX k g a σ ν) [(0, .ref (a 3)), (1, .int 4)] [] 0
  refine V.aload_n (pc := 0) 0 hC dX1_readSingle_0 rfl ?_
  refine V.callV0 (pc := 1) (as := []) hC (c_X1_next σ ν ρ p hT hI hP.2.2.1 (by omega)) mu_X1_next ml_X1_52 (by decide) ⟨3, 1, TX1, 5, _, rfl, gx_3⟩ rfl (Nat.le_of_ble_eq_true rfl) dX1_readSingle_1 ?_
  rintro _ _ rfl
  show V X (wX k g a σ ν) [(0, .ref (a 3)), (1, .int 4)] [.int (lkS ρ p)] 4
  refine V.istore_n (pc := 4) [(2, .int (lkS ρ p)), (0, .ref (a 3)), (1, .int 4)] hC dX1_readSingle_4 (by decide) rfl ?_
  refine V.iload_n (pc := 5) 0 hC dX1_readSingle_5 rfl ?_
  refine V.callS0 (pc := 6) (as := [.int (lkS ρ p)]) hC (c_X1_isDigit (lkS ρ p) ) ms_X1_isDigit ml_X1_68 (by decide) rfl (Nat.le_of_ble_eq_true rfl) dX1_readSingle_6 ?_
  rintro _ _ rfl
  show V X (wX k g a σ ν) [(2, .int (lkS ρ p)), (0, .ref (a 3)), (1, .int 4)] [.int (bI (inS (lkS ρ p) 48 57))] 9
  refine V.if_eq_b (P := inS (lkS ρ p) 48 57) (pc := 9) 18 hC dX1_readSingle_9 (by decide) (fun c_9 => ?_) (fun c_9 => ?_)
  · refine V.iload_n (pc := 18) 0 hC dX1_readSingle_18 rfl ?_
    refine V.iconst (pc := 19) (-1) hC dX1_readSingle_19 (by decide) ?_
    refine V.icmp_ne (pc := 20) 27 hC dX1_readSingle_20 (by decide) (fun c_20 => ?_) (fun c_20 => ?_)
    · have hbn := lk_n hI c_20
      refine V.aload_n (pc := 27) 1 hC dX1_readSingle_27 rfl ?_
      refine V.get (pc := 28) (v := .ref (g (nmA (ν 73 0)))) hC cf_X1 3 4 fl_X1_17 (by decide) gx_3 rfl dX1_readSingle_28 ?_
      refine V.iload_n (pc := 31) 0 hC dX1_readSingle_31 rfl ?_
      refine V.i2c (pc := 32) hC dX1_readSingle_32 ?_
      refine V.eqi (y := lkS ρ p) (i2c_n hbn) ?_
      refine V.sts (st' := [.int (lkS ρ p), .ref (g (2 + (u + 1)))]) (by rw [nmA_u hP.1 hu2]) ?_
      refine V.callStr (pc := 33) (as := [.int (lkS ρ p)]) (i := (u + 1)) hC (c_ixu u (lkS ρ p) hu2 hbn) mu_J0_indexOf_0f7a4 ml_X1_74 (by decide) (by omega) rfl (Nat.le_of_ble_eq_true rfl) dX1_readSingle_33 ?_
      rintro _ _ rfl
      show V X (wX k g a σ ν) [(2, .int (lkS ρ p)), (0, .ref (a 3)), (1, .int 4)] [.int (namS (nI u) (lkS ρ p))] 36
      refine V.istore_n (pc := 36) [(3, .int (namS (nI u) (lkS ρ p))), (2, .int (lkS ρ p)), (0, .ref (a 3)), (1, .int 4)] hC dX1_readSingle_36 (by decide) rfl ?_
      refine V.iload_n (pc := 37) 0 hC dX1_readSingle_37 rfl ?_
      refine V.if_lt (pc := 38) 60 hC dX1_readSingle_38 (by decide) (fun c_38 => ?_) (fun c_38 => ?_)
      · have c38 : ¬ 0 ≤ (namS (nI u) (lkS ρ p)) := i_gt c_38
        refine V.iload_n (pc := 60) 1 hC dX1_readSingle_60 rfl ?_
        refine V.bipush (pc := 61) 33 hC dX1_readSingle_61 (by decide) ?_
        refine V.icmp_eq (pc := 63) 72 hC dX1_readSingle_63 (by decide) (fun c_63 => ?_) (fun c_63 => ?_)
        · refine V.iload_n (pc := 72) 3 hC dX1_readSingle_72 rfl ?_
          refine V.iconst (pc := 73) 5 hC dX1_readSingle_73 (by decide) ?_
          refine V.icmp_lt (pc := 74) 79 hC dX1_readSingle_74 (by decide) (fun c_74 => ?_) (fun c_74 => ?_)
          · have nc_74 : 4 < 5 := (nlt (nl 4) (nl 5) (by omega) (by omega)).mp c_74
            have hc3 : (lkS ρ p) = 33 ∨ (lkS ρ p) = 40 := Or.inl c_63
            have hlt : p < nN (ρ 5) := tok_lt lk_tok (fun q => by rw [q] at hc3; exact absurd hc3 (by decide))
            refine V.aload_n (pc := 79) 2 hC dX1_readSingle_79 rfl ?_
            refine V.dup (pc := 80) hC dX1_readSingle_80 rfl ?_
            refine V.get (pc := 81) (v := .int (ν 72 0)) hC cf_X1 3 3 fl_X1_29 (by decide) gx_3 rfl dX1_readSingle_81 ?_
            refine V.iconst (pc := 84) 1 hC dX1_readSingle_84 (by decide) ?_
            refine V.iadd (pc := 85) hC dX1_readSingle_85 ?_
            refine V.put (pc := 86) (v := .int ((ν 72 0) + 1)) hC cf_X1 3 3 (wX k g a σ (va_up ν 72 (fun _ => (ν 72 0) + 1))) fl_X1_29 (by decide) gx_3 rfl rfl rfl (Nat.le_of_ble_eq_true rfl) rfl dX1_readSingle_86 ?_
            refine V.iload_n (pc := 89) 1 hC dX1_readSingle_89 rfl ?_
            refine V.bipush (pc := 90) 33 hC dX1_readSingle_90 (by decide) ?_
            refine V.icmp_ne (pc := 92) 105 hC dX1_readSingle_92 (by decide) (fun c_92 => ?_) (fun c_92 => ?_)
            · exact absurd c_63 c_92
            · have hXo : ((sgS (lkS ρ) (nI u) 1) p) = (((sgS (lkS ρ) (nI u) 0) (p + 1)).1, ((sgS (lkS ρ) (nI u) 0) (p + 1)).2.1, ((sgS (lkS ρ) (nI u) 0) (p + 1)).2.2 ++ [(3, 0)]) := (if_neg c38).trans ((if_pos hc3).trans ((if_neg (by decide)).trans (if_pos c_92)))
              refine V.aload_n (pc := 95) 2 hC dX1_readSingle_95 rfl ?_
              refine V.iload_n (pc := 96) 3 hC dX1_readSingle_96 rfl ?_
              refine V.iconst (pc := 97) 1 hC dX1_readSingle_97 (by decide) ?_
              refine V.iadd (pc := 98) hC dX1_readSingle_98 ?_
              refine V.eqi (y := 5) (by decide) ?_
              refine V.callV0 (pc := 99) (as := [.int 5]) hC (c_X1_not_5 σ (va_up ν 72 (fun _ => (ν 72 0) + 1)) ρ u L (p + 1) hT hI hu2 ⟨hP.1, hP.2.1, nadd hP.2.2.1 (nl 1), by omega, hlt⟩ (by omega)) mu_X1_readNot ml_X1_81 (by decide) ⟨3, 1, TX1, 5, _, rfl, gx_3⟩ rfl (Nat.le_of_ble_eq_true rfl) dX1_readSingle_99 ?_
              rintro _ ⟨f99_0, i99_1, i99_2⟩ ⟨rfl, hu99_0⟩
              have hu99_0 : COut ((ν 70)) L (((sgS (lkS ρ) (nI u) 0) (p + 1)).1, ((sgS (lkS ρ) (nI u) 0) (p + 1)).2.1, ((sgS (lkS ρ) (nI u) 0) (p + 1)).2.2 ++ [(3, 0)]) f99_0 i99_1 i99_2 := hu99_0
              show V X (wX k g a σ (va_up (va_up (va_up ν 72 (fun _ => i99_2)) 70 f99_0) 71 (fun _ => i99_1))) [(3, .int (namS (nI u) (lkS ρ p))), (2, .int (lkS ρ p)), (0, .ref (a 3)), (1, .int 4)] [.int (bI (((sgS (lkS ρ) (nI u) 0) (p + 1)).1 = true))] 102
              refine V.goto (pc := 102) 112 hC dX1_readSingle_102 (by decide) ?_
              exact hR (bI (((sgS (lkS ρ) (nI u) 0) (p + 1)).1 = true)) (f99_0, i99_1, i99_2) _ _ dX1_readSingle_112 (by first | rfl | exact bI_n _) ⟨by rw [hXo], by rw [hXo]; exact hu99_0⟩
          · have nc_74 : ¬ (4 < 5) := fun z => c_74 ((nlt (nl 4) (nl 5) (by omega) (by omega)).mpr z)
            exact absurd c_74 (by decide)
        · refine V.iload_n (pc := 66) 1 hC dX1_readSingle_66 rfl ?_
          refine V.bipush (pc := 67) 40 hC dX1_readSingle_67 (by decide) ?_
          refine V.icmp_ne (pc := 69) 77 hC dX1_readSingle_69 (by decide) (fun c_69 => ?_) (fun c_69 => ?_)
          · have hXb : ((sgS (lkS ρ) (nI u) 1) p) = (false, p, []) := (if_neg c38).trans ((if_neg (fun z => z.elim c_63 c_69)).trans (num_no c_9))
            refine V.iconst (pc := 77) 0 hC dX1_readSingle_77 (by decide) ?_
            exact hR 0 (ν 70, ν 71 0, ν 72 0) _ _ dX1_readSingle_78 (by first | rfl | exact bI_n _) ⟨rb0 (by rw [hXb]; exact fun z => absurd (show false = true from z) (by decide)), by rw [hXb]; exact CO_bad hP.2.2.1 (isN.mk hP.2.1 (by omega) (by omega))⟩
          · refine V.iload_n (pc := 72) 3 hC dX1_readSingle_72 rfl ?_
            refine V.iconst (pc := 73) 5 hC dX1_readSingle_73 (by decide) ?_
            refine V.icmp_lt (pc := 74) 79 hC dX1_readSingle_74 (by decide) (fun c_74 => ?_) (fun c_74 => ?_)
            · have nc_74 : 4 < 5 := (nlt (nl 4) (nl 5) (by omega) (by omega)).mp c_74
              have hc3 : (lkS ρ p) = 33 ∨ (lkS ρ p) = 40 := Or.inr c_69
              have hlt : p < nN (ρ 5) := tok_lt lk_tok (fun q => by rw [q] at hc3; exact absurd hc3 (by decide))
              refine V.aload_n (pc := 79) 2 hC dX1_readSingle_79 rfl ?_
              refine V.dup (pc := 80) hC dX1_readSingle_80 rfl ?_
              refine V.get (pc := 81) (v := .int (ν 72 0)) hC cf_X1 3 3 fl_X1_29 (by decide) gx_3 rfl dX1_readSingle_81 ?_
              refine V.iconst (pc := 84) 1 hC dX1_readSingle_84 (by decide) ?_
              refine V.iadd (pc := 85) hC dX1_readSingle_85 ?_
              refine V.put (pc := 86) (v := .int ((ν 72 0) + 1)) hC cf_X1 3 3 (wX k g a σ (va_up ν 72 (fun _ => (ν 72 0) + 1))) fl_X1_29 (by decide) gx_3 rfl rfl rfl (Nat.le_of_ble_eq_true rfl) rfl dX1_readSingle_86 ?_
              refine V.iload_n (pc := 89) 1 hC dX1_readSingle_89 rfl ?_
              refine V.bipush (pc := 90) 33 hC dX1_readSingle_90 (by decide) ?_
              refine V.icmp_ne (pc := 92) 105 hC dX1_readSingle_92 (by decide) (fun c_92 => ?_) (fun c_92 => ?_)
              · have hXo : ((sgS (lkS ρ) (nI u) 1) p) = (if ((lvS (lkS ρ) (sgS (lkS ρ) (nI u) 0) 5) (p + 1)).1 = true ∧ lkS ρ ((lvS (lkS ρ) (sgS (lkS ρ) (nI u) 0) 5) (p + 1)).2.1 = 41 then (true, ((lvS (lkS ρ) (sgS (lkS ρ) (nI u) 0) 5) (p + 1)).2.1 + 1, ((lvS (lkS ρ) (sgS (lkS ρ) (nI u) 0) 5) (p + 1)).2.2) else (false, ((lvS (lkS ρ) (sgS (lkS ρ) (nI u) 0) 5) (p + 1)).2.1, ((lvS (lkS ρ) (sgS (lkS ρ) (nI u) 0) 5) (p + 1)).2.2)) := (if_neg c38).trans ((if_pos hc3).trans ((if_neg (by decide)).trans (if_neg c_92)))
                refine V.aload_n (pc := 105) 2 hC dX1_readSingle_105 rfl ?_
                refine V.iload_n (pc := 106) 3 hC dX1_readSingle_106 rfl ?_
                refine V.iconst (pc := 107) 1 hC dX1_readSingle_107 (by decide) ?_
                refine V.iadd (pc := 108) hC dX1_readSingle_108 ?_
                refine V.eqi (y := 5) (by decide) ?_
                refine V.callV0 (pc := 109) (as := [.int 5]) hC (c_X1_br_5 σ (va_up ν 72 (fun _ => (ν 72 0) + 1)) ρ u L (p + 1) hT hI hu2 ⟨hP.1, hP.2.1, nadd hP.2.2.1 (nl 1), by omega, hlt⟩) mu_X1_readBracket ml_X1_84 (by decide) ⟨3, 1, TX1, 5, _, rfl, gx_3⟩ rfl (Nat.le_of_ble_eq_true rfl) dX1_readSingle_109 ?_
                rintro _ ⟨f109_0, i109_1, i109_2⟩ ⟨rfl, hu109_0⟩
                have hu109_0 : COut ((ν 70)) L (if ((lvS (lkS ρ) (sgS (lkS ρ) (nI u) 0) 5) (p + 1)).1 = true ∧ lkS ρ ((lvS (lkS ρ) (sgS (lkS ρ) (nI u) 0) 5) (p + 1)).2.1 = 41 then (true, ((lvS (lkS ρ) (sgS (lkS ρ) (nI u) 0) 5) (p + 1)).2.1 + 1, ((lvS (lkS ρ) (sgS (lkS ρ) (nI u) 0) 5) (p + 1)).2.2) else (false, ((lvS (lkS ρ) (sgS (lkS ρ) (nI u) 0) 5) (p + 1)).2.1, ((lvS (lkS ρ) (sgS (lkS ρ) (nI u) 0) 5) (p + 1)).2.2) : Res) f109_0 i109_1 i109_2 := hu109_0
                show V X (wX k g a σ (va_up (va_up (va_up ν 72 (fun _ => i109_2)) 70 f109_0) 71 (fun _ => i109_1))) [(3, .int (namS (nI u) (lkS ρ p))), (2, .int (lkS ρ p)), (0, .ref (a 3)), (1, .int 4)] [.int (bI ((if ((lvS (lkS ρ) (sgS (lkS ρ) (nI u) 0) 5) (p + 1)).1 = true ∧ lkS ρ ((lvS (lkS ρ) (sgS (lkS ρ) (nI u) 0) 5) (p + 1)).2.1 = 41 then (true, ((lvS (lkS ρ) (sgS (lkS ρ) (nI u) 0) 5) (p + 1)).2.1 + 1, ((lvS (lkS ρ) (sgS (lkS ρ) (nI u) 0) 5) (p + 1)).2.2) else (false, ((lvS (lkS ρ) (sgS (lkS ρ) (nI u) 0) 5) (p + 1)).2.1, ((lvS (lkS ρ) (sgS (lkS ρ) (nI u) 0) 5) (p + 1)).2.2) : Res).1 = true))] 112
                exact hR (bI ((if ((lvS (lkS ρ) (sgS (lkS ρ) (nI u) 0) 5) (p + 1)).1 = true ∧ lkS ρ ((lvS (lkS ρ) (sgS (lkS ρ) (nI u) 0) 5) (p + 1)).2.1 = 41 then (true, ((lvS (lkS ρ) (sgS (lkS ρ) (nI u) 0) 5) (p + 1)).2.1 + 1, ((lvS (lkS ρ) (sgS (lkS ρ) (nI u) 0) 5) (p + 1)).2.2) else (false, ((lvS (lkS ρ) (sgS (lkS ρ) (nI u) 0) 5) (p + 1)).2.1, ((lvS (lkS ρ) (sgS (lkS ρ) (nI u) 0) 5) (p + 1)).2.2) : Res).1 = true)) (f109_0, i109_1, i109_2) _ _ dX1_readSingle_112 (by first | rfl | exact bI_n _) ⟨by rw [hXo], by rw [hXo]; exact hu109_0⟩
              · exact absurd c_92 c_63
            · have nc_74 : ¬ (4 < 5) := fun z => c_74 ((nlt (nl 4) (nl 5) (by omega) (by omega)).mpr z)
              exact absurd c_74 (by decide)
      · have hXm : ((sgS (lkS ρ) (nI u) 1) p) = (true, p + 1, [(2, (namS (nI u) (lkS ρ p)))]) := if_pos (i_nlt c_38)
        refine V.aload_n (pc := 41) 2 hC dX1_readSingle_41 rfl ?_
        refine V.dup (pc := 42) hC dX1_readSingle_42 rfl ?_
        refine V.get (pc := 43) (v := .int (ν 72 0)) hC cf_X1 3 3 fl_X1_29 (by decide) gx_3 rfl dX1_readSingle_43 ?_
        refine V.iconst (pc := 46) 1 hC dX1_readSingle_46 (by decide) ?_
        refine V.iadd (pc := 47) hC dX1_readSingle_47 ?_
        refine V.put (pc := 48) (v := .int ((ν 72 0) + 1)) hC cf_X1 3 3 (wX k g a σ (va_up ν 72 (fun _ => (ν 72 0) + 1))) fl_X1_29 (by decide) gx_3 rfl rfl rfl (Nat.le_of_ble_eq_true rfl) rfl dX1_readSingle_48 ?_
        refine V.aload_n (pc := 51) 2 hC dX1_readSingle_51 rfl ?_
        refine V.iconst (pc := 52) (-1) hC dX1_readSingle_52 (by decide) ?_
        refine V.iload_n (pc := 53) 0 hC dX1_readSingle_53 rfl ?_
        refine V.isub (pc := 54) hC dX1_readSingle_54 ?_
        refine V.callV0 (pc := 55) (as := [.int ((-1) - (namS (nI u) (lkS ρ p)))]) hC (c_X1_write σ (va_up ν 72 (fun _ => (ν 72 0) + 1)) ((-1) - (namS (nI u) (lkS ρ p))) (isN.mk hP.2.1 (by omega) (by omega))) mu_X1_write ml_X1_60 (by decide) ⟨3, 1, TX1, 5, _, rfl, gx_3⟩ rfl (Nat.le_of_ble_eq_true rfl) dX1_readSingle_55 ?_
        rintro _ ⟨f55_0, i55_1⟩ ⟨rfl, hu55_0⟩
        have hu55_0 : WtF ((ν 70)) ((ν 71 0)) ((-1) - (namS (nI u) (lkS ρ p))) f55_0 i55_1 := hu55_0
        show V X (wX k g a σ (va_up (va_up (va_up ν 72 (fun _ => (ν 72 0) + 1)) 70 f55_0) 71 (fun _ => i55_1))) [(3, .int (namS (nI u) (lkS ρ p))), (2, .int (lkS ρ p)), (0, .ref (a 3)), (1, .int 4)] [] 58
        refine V.iconst (pc := 58) 1 hC dX1_readSingle_58 (by decide) ?_
        exact hR 1 (f55_0, i55_1, (ν 72 0) + 1) _ _ dX1_readSingle_59 (by first | rfl | exact bI_n _) ⟨rb1 (by rw [hXm]), by rw [hXm]; exact CO_one hP.2.1 (by have := tok_lt lk_tok (nam_b (i_nlt c_38)).2; omega) (by rfl) hu55_0 (nadd hP.2.2.1 (nl 1))⟩
    · refine V.iconst (pc := 23) (-1) hC dX1_readSingle_23 (by decide) ?_
      refine V.goto (pc := 24) 36 hC dX1_readSingle_24 (by decide) ?_
      refine V.istore_n (pc := 36) [(3, .int (-1)), (2, .int (lkS ρ p)), (0, .ref (a 3)), (1, .int 4)] hC dX1_readSingle_36 (by decide) rfl ?_
      refine V.iload_n (pc := 37) 0 hC dX1_readSingle_37 rfl ?_
      refine V.if_lt (pc := 38) 60 hC dX1_readSingle_38 (by decide) (fun c_38 => ?_) (fun c_38 => ?_)
      · have c38 : ¬ 0 ≤ (namS (nI u) (lkS ρ p)) := by rw [c_20]; exact hm1
        refine V.iload_n (pc := 60) 1 hC dX1_readSingle_60 rfl ?_
        refine V.bipush (pc := 61) 33 hC dX1_readSingle_61 (by decide) ?_
        refine V.icmp_eq (pc := 63) 72 hC dX1_readSingle_63 (by decide) (fun c_63 => ?_) (fun c_63 => ?_)
        · refine V.iload_n (pc := 72) 3 hC dX1_readSingle_72 rfl ?_
          refine V.iconst (pc := 73) 5 hC dX1_readSingle_73 (by decide) ?_
          refine V.icmp_lt (pc := 74) 79 hC dX1_readSingle_74 (by decide) (fun c_74 => ?_) (fun c_74 => ?_)
          · have nc_74 : 4 < 5 := (nlt (nl 4) (nl 5) (by omega) (by omega)).mp c_74
            have hc3 : (lkS ρ p) = 33 ∨ (lkS ρ p) = 40 := Or.inl c_63
            have hlt : p < nN (ρ 5) := tok_lt lk_tok (fun q => by rw [q] at hc3; exact absurd hc3 (by decide))
            refine V.aload_n (pc := 79) 2 hC dX1_readSingle_79 rfl ?_
            refine V.dup (pc := 80) hC dX1_readSingle_80 rfl ?_
            refine V.get (pc := 81) (v := .int (ν 72 0)) hC cf_X1 3 3 fl_X1_29 (by decide) gx_3 rfl dX1_readSingle_81 ?_
            refine V.iconst (pc := 84) 1 hC dX1_readSingle_84 (by decide) ?_
            refine V.iadd (pc := 85) hC dX1_readSingle_85 ?_
            refine V.put (pc := 86) (v := .int ((ν 72 0) + 1)) hC cf_X1 3 3 (wX k g a σ (va_up ν 72 (fun _ => (ν 72 0) + 1))) fl_X1_29 (by decide) gx_3 rfl rfl rfl (Nat.le_of_ble_eq_true rfl) rfl dX1_readSingle_86 ?_
            refine V.iload_n (pc := 89) 1 hC dX1_readSingle_89 rfl ?_
            refine V.bipush (pc := 90) 33 hC dX1_readSingle_90 (by decide) ?_
            refine V.icmp_ne (pc := 92) 105 hC dX1_readSingle_92 (by decide) (fun c_92 => ?_) (fun c_92 => ?_)
            · exact absurd c_63 c_92
            · have hXo : ((sgS (lkS ρ) (nI u) 1) p) = (((sgS (lkS ρ) (nI u) 0) (p + 1)).1, ((sgS (lkS ρ) (nI u) 0) (p + 1)).2.1, ((sgS (lkS ρ) (nI u) 0) (p + 1)).2.2 ++ [(3, 0)]) := (if_neg c38).trans ((if_pos hc3).trans ((if_neg (by decide)).trans (if_pos c_92)))
              refine V.aload_n (pc := 95) 2 hC dX1_readSingle_95 rfl ?_
              refine V.iload_n (pc := 96) 3 hC dX1_readSingle_96 rfl ?_
              refine V.iconst (pc := 97) 1 hC dX1_readSingle_97 (by decide) ?_
              refine V.iadd (pc := 98) hC dX1_readSingle_98 ?_
              refine V.eqi (y := 5) (by decide) ?_
              refine V.callV0 (pc := 99) (as := [.int 5]) hC (c_X1_not_5 σ (va_up ν 72 (fun _ => (ν 72 0) + 1)) ρ u L (p + 1) hT hI hu2 ⟨hP.1, hP.2.1, nadd hP.2.2.1 (nl 1), by omega, hlt⟩ (by omega)) mu_X1_readNot ml_X1_81 (by decide) ⟨3, 1, TX1, 5, _, rfl, gx_3⟩ rfl (Nat.le_of_ble_eq_true rfl) dX1_readSingle_99 ?_
              rintro _ ⟨f99_0, i99_1, i99_2⟩ ⟨rfl, hu99_0⟩
              have hu99_0 : COut ((ν 70)) L (((sgS (lkS ρ) (nI u) 0) (p + 1)).1, ((sgS (lkS ρ) (nI u) 0) (p + 1)).2.1, ((sgS (lkS ρ) (nI u) 0) (p + 1)).2.2 ++ [(3, 0)]) f99_0 i99_1 i99_2 := hu99_0
              show V X (wX k g a σ (va_up (va_up (va_up ν 72 (fun _ => i99_2)) 70 f99_0) 71 (fun _ => i99_1))) [(3, .int (-1)), (2, .int (lkS ρ p)), (0, .ref (a 3)), (1, .int 4)] [.int (bI (((sgS (lkS ρ) (nI u) 0) (p + 1)).1 = true))] 102
              refine V.goto (pc := 102) 112 hC dX1_readSingle_102 (by decide) ?_
              exact hR (bI (((sgS (lkS ρ) (nI u) 0) (p + 1)).1 = true)) (f99_0, i99_1, i99_2) _ _ dX1_readSingle_112 (by first | rfl | exact bI_n _) ⟨by rw [hXo], by rw [hXo]; exact hu99_0⟩
          · have nc_74 : ¬ (4 < 5) := fun z => c_74 ((nlt (nl 4) (nl 5) (by omega) (by omega)).mpr z)
            exact absurd c_74 (by decide)
        · refine V.iload_n (pc := 66) 1 hC dX1_readSingle_66 rfl ?_
          refine V.bipush (pc := 67) 40 hC dX1_readSingle_67 (by decide) ?_
          refine V.icmp_ne (pc := 69) 77 hC dX1_readSingle_69 (by decide) (fun c_69 => ?_) (fun c_69 => ?_)
          · have hXb : ((sgS (lkS ρ) (nI u) 1) p) = (false, p, []) := (if_neg c38).trans ((if_neg (fun z => z.elim c_63 c_69)).trans (num_no c_9))
            refine V.iconst (pc := 77) 0 hC dX1_readSingle_77 (by decide) ?_
            exact hR 0 (ν 70, ν 71 0, ν 72 0) _ _ dX1_readSingle_78 (by first | rfl | exact bI_n _) ⟨rb0 (by rw [hXb]; exact fun z => absurd (show false = true from z) (by decide)), by rw [hXb]; exact CO_bad hP.2.2.1 (isN.mk hP.2.1 (by omega) (by omega))⟩
          · refine V.iload_n (pc := 72) 3 hC dX1_readSingle_72 rfl ?_
            refine V.iconst (pc := 73) 5 hC dX1_readSingle_73 (by decide) ?_
            refine V.icmp_lt (pc := 74) 79 hC dX1_readSingle_74 (by decide) (fun c_74 => ?_) (fun c_74 => ?_)
            · have nc_74 : 4 < 5 := (nlt (nl 4) (nl 5) (by omega) (by omega)).mp c_74
              have hc3 : (lkS ρ p) = 33 ∨ (lkS ρ p) = 40 := Or.inr c_69
              have hlt : p < nN (ρ 5) := tok_lt lk_tok (fun q => by rw [q] at hc3; exact absurd hc3 (by decide))
              refine V.aload_n (pc := 79) 2 hC dX1_readSingle_79 rfl ?_
              refine V.dup (pc := 80) hC dX1_readSingle_80 rfl ?_
              refine V.get (pc := 81) (v := .int (ν 72 0)) hC cf_X1 3 3 fl_X1_29 (by decide) gx_3 rfl dX1_readSingle_81 ?_
              refine V.iconst (pc := 84) 1 hC dX1_readSingle_84 (by decide) ?_
              refine V.iadd (pc := 85) hC dX1_readSingle_85 ?_
              refine V.put (pc := 86) (v := .int ((ν 72 0) + 1)) hC cf_X1 3 3 (wX k g a σ (va_up ν 72 (fun _ => (ν 72 0) + 1))) fl_X1_29 (by decide) gx_3 rfl rfl rfl (Nat.le_of_ble_eq_true rfl) rfl dX1_readSingle_86 ?_
              refine V.iload_n (pc := 89) 1 hC dX1_readSingle_89 rfl ?_
              refine V.bipush (pc := 90) 33 hC dX1_readSingle_90 (by decide) ?_
              refine V.icmp_ne (pc := 92) 105 hC dX1_readSingle_92 (by decide) (fun c_92 => ?_) (fun c_92 => ?_)
              · have hXo : ((sgS (lkS ρ) (nI u) 1) p) = (if ((lvS (lkS ρ) (sgS (lkS ρ) (nI u) 0) 5) (p + 1)).1 = true ∧ lkS ρ ((lvS (lkS ρ) (sgS (lkS ρ) (nI u) 0) 5) (p + 1)).2.1 = 41 then (true, ((lvS (lkS ρ) (sgS (lkS ρ) (nI u) 0) 5) (p + 1)).2.1 + 1, ((lvS (lkS ρ) (sgS (lkS ρ) (nI u) 0) 5) (p + 1)).2.2) else (false, ((lvS (lkS ρ) (sgS (lkS ρ) (nI u) 0) 5) (p + 1)).2.1, ((lvS (lkS ρ) (sgS (lkS ρ) (nI u) 0) 5) (p + 1)).2.2)) := (if_neg c38).trans ((if_pos hc3).trans ((if_neg (by decide)).trans (if_neg c_92)))
                refine V.aload_n (pc := 105) 2 hC dX1_readSingle_105 rfl ?_
                refine V.iload_n (pc := 106) 3 hC dX1_readSingle_106 rfl ?_
                refine V.iconst (pc := 107) 1 hC dX1_readSingle_107 (by decide) ?_
                refine V.iadd (pc := 108) hC dX1_readSingle_108 ?_
                refine V.eqi (y := 5) (by decide) ?_
                refine V.callV0 (pc := 109) (as := [.int 5]) hC (c_X1_br_5 σ (va_up ν 72 (fun _ => (ν 72 0) + 1)) ρ u L (p + 1) hT hI hu2 ⟨hP.1, hP.2.1, nadd hP.2.2.1 (nl 1), by omega, hlt⟩) mu_X1_readBracket ml_X1_84 (by decide) ⟨3, 1, TX1, 5, _, rfl, gx_3⟩ rfl (Nat.le_of_ble_eq_true rfl) dX1_readSingle_109 ?_
                rintro _ ⟨f109_0, i109_1, i109_2⟩ ⟨rfl, hu109_0⟩
                have hu109_0 : COut ((ν 70)) L (if ((lvS (lkS ρ) (sgS (lkS ρ) (nI u) 0) 5) (p + 1)).1 = true ∧ lkS ρ ((lvS (lkS ρ) (sgS (lkS ρ) (nI u) 0) 5) (p + 1)).2.1 = 41 then (true, ((lvS (lkS ρ) (sgS (lkS ρ) (nI u) 0) 5) (p + 1)).2.1 + 1, ((lvS (lkS ρ) (sgS (lkS ρ) (nI u) 0) 5) (p + 1)).2.2) else (false, ((lvS (lkS ρ) (sgS (lkS ρ) (nI u) 0) 5) (p + 1)).2.1, ((lvS (lkS ρ) (sgS (lkS ρ) (nI u) 0) 5) (p + 1)).2.2) : Res) f109_0 i109_1 i109_2 := hu109_0
                show V X (wX k g a σ (va_up (va_up (va_up ν 72 (fun _ => i109_2)) 70 f109_0) 71 (fun _ => i109_1))) [(3, .int (-1)), (2, .int (lkS ρ p)), (0, .ref (a 3)), (1, .int 4)] [.int (bI ((if ((lvS (lkS ρ) (sgS (lkS ρ) (nI u) 0) 5) (p + 1)).1 = true ∧ lkS ρ ((lvS (lkS ρ) (sgS (lkS ρ) (nI u) 0) 5) (p + 1)).2.1 = 41 then (true, ((lvS (lkS ρ) (sgS (lkS ρ) (nI u) 0) 5) (p + 1)).2.1 + 1, ((lvS (lkS ρ) (sgS (lkS ρ) (nI u) 0) 5) (p + 1)).2.2) else (false, ((lvS (lkS ρ) (sgS (lkS ρ) (nI u) 0) 5) (p + 1)).2.1, ((lvS (lkS ρ) (sgS (lkS ρ) (nI u) 0) 5) (p + 1)).2.2) : Res).1 = true))] 112
                exact hR (bI ((if ((lvS (lkS ρ) (sgS (lkS ρ) (nI u) 0) 5) (p + 1)).1 = true ∧ lkS ρ ((lvS (lkS ρ) (sgS (lkS ρ) (nI u) 0) 5) (p + 1)).2.1 = 41 then (true, ((lvS (lkS ρ) (sgS (lkS ρ) (nI u) 0) 5) (p + 1)).2.1 + 1, ((lvS (lkS ρ) (sgS (lkS ρ) (nI u) 0) 5) (p + 1)).2.2) else (false, ((lvS (lkS ρ) (sgS (lkS ρ) (nI u) 0) 5) (p + 1)).2.1, ((lvS (lkS ρ) (sgS (lkS ρ) (nI u) 0) 5) (p + 1)).2.2) : Res).1 = true)) (f109_0, i109_1, i109_2) _ _ dX1_readSingle_112 (by first | rfl | exact bI_n _) ⟨by rw [hXo], by rw [hXo]; exact hu109_0⟩
              · exact absurd c_92 c_63
            · have nc_74 : ¬ (4 < 5) := fun z => c_74 ((nlt (nl 4) (nl 5) (by omega) (by omega)).mpr z)
              exact absurd c_74 (by decide)
      · exact absurd c_38 (by decide)
  · have hdn := dig_nam (u := nI u) c_9
    have hXn : ((sgS (lkS ρ) (nI u) 1) p) = numS (lkS ρ) p := (if_neg hdn.1).trans (if_neg hdn.2)
    refine V.aload_n (pc := 12) 1 hC dX1_readSingle_12 rfl ?_
    refine V.callV0 (pc := 13) (as := []) hC (c_X1_readNumber σ ν ρ u L p hT hI hu2 hP c_9) mu_X1_readNumber ml_X1_71 (by decide) ⟨3, 1, TX1, 5, _, rfl, gx_3⟩ rfl (Nat.le_of_ble_eq_true rfl) dX1_readSingle_13 ?_
    rintro _ ⟨f13_0, i13_1, i13_2⟩ ⟨rfl, hu13_0⟩
    have hu13_0 : COut (ν 70) L (numS (lkS ρ) p) f13_0 i13_1 i13_2 := hu13_0
    show V X (wX k g a σ (va_up (va_up (va_up ν 70 f13_0) 71 (fun _ => i13_1)) 72 (fun _ => i13_2))) [(2, .int (lkS ρ p)), (0, .ref (a 3)), (1, .int 4)] [] 16
    refine V.iconst (pc := 16) 1 hC dX1_readSingle_16 (by decide) ?_
    exact hR 1 (f13_0, i13_1, i13_2) _ _ dX1_readSingle_17 (by first | rfl | exact bI_n _) ⟨rb1 (by rw [hXn, numS, if_pos c_9]), by rw [hXn]; exact hu13_0⟩
set_option maxHeartbeats 4000000 in
set_option maxRecDepth 100000 in
theorem c_X1_side_5_4 {l : Launch} {D : va_G} {k : Nat → ClassId} {g a : Nat → Nat} (σ ν : St) (ρ : Rw) (u L p : Nat) (hT : RT σ ρ) (hI : Inv ρ) (hu2 : u < 2) (hP : CIn (nN (ρ 5)) (ν 71 0) (ν 72 0) (ν 73 0) u L p) : Ct l D k g yX1_readSide cX1_readSide 3 (some .boolean) 17 398 [.ref (a 3), .int 5, .int 4] (S := Rw × Int32 × Int32) (wX k g a σ ν) (fun uu => wX k g a σ (va_up (va_up (va_up ν 70 uu.1) 71 (fun _ => uu.2.1)) 72 (fun _ => uu.2.2))) (fun vv uu => vv = some (.int (bI (((sgS (lkS ρ) (nI u) 1) p).1 = true))) ∧ COut (ν 70) L ((sgS (lkS ρ) (nI u) 1) p) uu.1 uu.2.1 uu.2.2) := by
  refine Ct.ofI RX1 rfl (by decide +kernel) (Nat.le_of_ble_eq_true rfl) (fun X hC hR => ?_)
  have hb60 := hI.bb; have hle := hP.2.2.2
  show V X (wX k g a σ ν) [(0, .ref (a 3)), (1, .int 5), (2, .int 4)] [] 0
  refine V.iload_n (pc := 0) 1 hC dX1_readSide_0 rfl ?_
  refine V.iconst (pc := 1) 5 hC dX1_readSide_1 (by decide) ?_
  refine V.icmp_ge (pc := 2) 14 hC dX1_readSide_2 (by decide) (fun c_2 => ?_) (fun c_2 => ?_)
  · have nc_2 : 5 ≤ 5 := (nle (nl 5) (nl 5) (by omega) (by omega)).mp c_2
    refine V.aload_n (pc := 14) 0 hC dX1_readSide_14 rfl ?_
    refine V.iload_n (pc := 15) 2 hC dX1_readSide_15 rfl ?_
    refine V.callV0 (pc := 16) (as := [.int 4]) hC (c_X1_single_4 σ ν ρ u L p hT hI hu2 hP) mu_X1_readSingle ml_X1_64 (by decide) ⟨3, 1, TX1, 5, _, rfl, gx_3⟩ rfl (Nat.le_of_ble_eq_true rfl) dX1_readSide_16 ?_
    rintro _ ⟨f16_0, i16_1, i16_2⟩ ⟨rfl, hu16_0⟩
    have hu16_0 : COut (ν 70) L ((sgS (lkS ρ) (nI u) 1) p) f16_0 i16_1 i16_2 := hu16_0
    show V X (wX k g a σ (va_up (va_up (va_up ν 70 f16_0) 71 (fun _ => i16_1)) 72 (fun _ => i16_2))) [(0, .ref (a 3)), (1, .int 5), (2, .int 4)] [.int (bI (((sgS (lkS ρ) (nI u) 1) p).1 = true))] 19
    exact hR (bI (((sgS (lkS ρ) (nI u) 1) p).1 = true)) (f16_0, i16_1, i16_2) _ _ dX1_readSide_19 (by first | rfl | exact bI_n _) ⟨rfl, hu16_0⟩
  · have nc_2 : ¬ (5 ≤ 5) := fun z => c_2 ((nle (nl 5) (nl 5) (by omega) (by omega)).mpr z)
    exact absurd c_2 (by decide)
set_option maxHeartbeats 4000000 in
set_option maxRecDepth 100000 in
theorem c_X1_part_4_4 {l : Launch} {D : va_G} {k : Nat → ClassId} {g a : Nat → Nat} (σ ν : St) (ρ : Rw) (u L p : Nat) (hT : RT σ ρ) (hI : Inv ρ) (hu2 : u < 2) (hP : CIn (nN (ρ 5)) (ν 71 0) (ν 72 0) (ν 73 0) u L p) : Ct l D k g yX1_readPart cX1_readPart 7 (some .boolean) 18 420 [.ref (a 3), .int 4, .int 4] (S := Rw × Int32 × Int32) (wX k g a σ ν) (fun uu => wX k g a σ (va_up (va_up (va_up ν 70 uu.1) 71 (fun _ => uu.2.1)) 72 (fun _ => uu.2.2))) (fun vv uu => vv = some (.int (bI (((lvS (lkS ρ) (sgS (lkS ρ) (nI u) 1) 1) p).1 = true))) ∧ COut (ν 70) L ((lvS (lkS ρ) (sgS (lkS ρ) (nI u) 1) 1) p) uu.1 uu.2.1 uu.2.2) := by
  refine Ct.ofI RX1 rfl (by decide +kernel) (Nat.le_of_ble_eq_true rfl) (fun X hC hR => ?_)
  have hb60 := hI.bb; have hle := hP.2.2.2
  show V X (wX k g a σ ν) [(0, .ref (a 3)), (1, .int 4), (2, .int 4)] [] 0
  refine V.aload_n (pc := 0) 0 hC dX1_readPart_0 rfl ?_
  refine V.iload_n (pc := 1) 1 hC dX1_readPart_1 rfl ?_
  refine V.iconst (pc := 2) 1 hC dX1_readPart_2 (by decide) ?_
  refine V.iadd (pc := 3) hC dX1_readPart_3 ?_
  refine V.eqi (y := 5) (by decide) ?_
  refine V.iload_n (pc := 4) 2 hC dX1_readPart_4 rfl ?_
  refine V.callV0 (pc := 5) (as := [.int 5, .int 4]) hC (c_X1_side_5_4 σ ν ρ u L p hT hI hu2 hP) mu_X1_readSide ml_X1_49 (by decide) ⟨3, 1, TX1, 5, _, rfl, gx_3⟩ rfl (Nat.le_of_ble_eq_true rfl) dX1_readPart_5 ?_
  rintro _ ⟨f5_0, i5_1, i5_2⟩ ⟨rfl, hu5_0⟩
  have hu5_0 : COut (ν 70) L ((sgS (lkS ρ) (nI u) 1) p) f5_0 i5_1 i5_2 := hu5_0
  show V X (wX k g a σ (va_up (va_up (va_up ν 70 f5_0) 71 (fun _ => i5_1)) 72 (fun _ => i5_2))) [(0, .ref (a 3)), (1, .int 4), (2, .int 4)] [.int (bI (((sgS (lkS ρ) (nI u) 1) p).1 = true))] 8
  refine V.istore_n (pc := 8) [(3, .int (bI (((sgS (lkS ρ) (nI u) 1) p).1 = true))), (0, .ref (a 3)), (1, .int 4), (2, .int 4)] hC dX1_readPart_8 (by decide) rfl ?_
  refine V.iload_n (pc := 9) 2 hC dX1_readPart_9 rfl ?_
  refine V.iconst (pc := 10) 2 hC dX1_readPart_10 (by decide) ?_
  refine V.icmp_ne (pc := 11) 18 hC dX1_readPart_11 (by decide) (fun c_11 => ?_) (fun c_11 => ?_)
  · have nc_11 : ¬ (4 = 2) := fun z => c_11 ((neq (nl 4) (nl 2) (by omega) (by omega)).mpr z)
    refine V.bipush (pc := 18) 60 hC dX1_readPart_18 (by decide) ?_
    refine V.istore (pc := 20) [(4, .int 60), (3, .int (bI (((sgS (lkS ρ) (nI u) 1) p).1 = true))), (0, .ref (a 3)), (1, .int 4), (2, .int 4)] hC dX1_readPart_20 (by decide) rfl ?_
    refine V.iconst (pc := 22) 0 hC dX1_readPart_22 (by decide) ?_
    refine V.istore (pc := 23) [(5, .int 0), (4, .int 60), (3, .int (bI (((sgS (lkS ρ) (nI u) 1) p).1 = true))), (0, .ref (a 3)), (1, .int 4), (2, .int 4)] hC dX1_readPart_23 (by decide) rfl ?_
    have loop_25 : ∀ (n : Nat) (x : Res) (i : Nat) (f70 : Rw) (i71 i72 : Int32), i + n = 60 → GR (nN (ρ 5)) p x → COut (ν 70) L x f70 i71 i72 → (lvS (lkS ρ) (sgS (lkS ρ) (nI u) 1) 1) p = lpS (lkS ρ) (sgS (lkS ρ) (nI u) 1) 4 n x → V X (wX k g a σ (va_up (va_up (va_up ν 70 f70) 71 (fun _ => i71)) 72 (fun _ => i72))) [(0, .ref (a 3)), (1, .int 4), (2, .int 4), (3, .int (bI (x.1 = true))), (4, .int 60), (5, .int (nI i))] [] 25 := by
      intro n
      induction n with
      | zero =>
        intro x i f70 i71 i72 hi hg hx hv
        have hxb := hg.2.1
        refine V.iload (pc := 25) 5 hC dX1_readPart_25 rfl ?_
        refine V.iload (pc := 27) 4 hC dX1_readPart_27 rfl ?_
        refine V.icmp_ge (pc := 29) 85 hC dX1_readPart_29 (by decide) (fun c_29 => ?_) (fun c_29 => ?_)
        · have nc_29 : 60 ≤ i := (nle (nl 60) rfl (by omega) (by omega)).mp c_29
          refine V.iload_n (pc := 85) 3 hC dX1_readPart_85 rfl ?_
          exact hR (bI (x.1 = true)) (f70, i71, i72) _ _ dX1_readPart_86 (by first | rfl | exact bI_n _) ⟨by rw [show (lvS (lkS ρ) (sgS (lkS ρ) (nI u) 1) 1) p = x from hv], by rw [show (lvS (lkS ρ) (sgS (lkS ρ) (nI u) 1) 1) p = x from hv]; exact hx⟩
        · have nc_29 : ¬ (60 ≤ i) := fun z => c_29 ((nle (nl 60) rfl (by omega) (by omega)).mpr z)
          exfalso; omega
      | succ n ih =>
        intro x i f70 i71 i72 hi hg hx hv
        have hxb := hg.2.1
        refine V.iload (pc := 25) 5 hC dX1_readPart_25 rfl ?_
        refine V.iload (pc := 27) 4 hC dX1_readPart_27 rfl ?_
        refine V.icmp_ge (pc := 29) 85 hC dX1_readPart_29 (by decide) (fun c_29 => ?_) (fun c_29 => ?_)
        · have nc_29 : 60 ≤ i := (nle (nl 60) rfl (by omega) (by omega)).mp c_29
          exfalso; omega
        · have nc_29 : ¬ (60 ≤ i) := fun z => c_29 ((nle (nl 60) rfl (by omega) (by omega)).mpr z)
          refine V.iload_n (pc := 32) 3 hC dX1_readPart_32 rfl ?_
          refine V.if_eq_b (P := x.1 = true) (pc := 33) 85 hC dX1_readPart_33 (by decide) (fun c_33 => ?_) (fun c_33 => ?_)
          · refine V.iload_n (pc := 85) 3 hC dX1_readPart_85 rfl ?_
            exact hR (bI (x.1 = true)) (f70, i71, i72) _ _ dX1_readPart_86 (by first | rfl | exact bI_n _) ⟨by rw [show (lvS (lkS ρ) (sgS (lkS ρ) (nI u) 1) 1) p = x from hv.trans (lp_no (fun q => c_33 q.1))], by rw [show (lvS (lkS ρ) (sgS (lkS ρ) (nI u) 1) 1) p = x from hv.trans (lp_no (fun q => c_33 q.1))]; exact hx⟩
          · refine V.aload_n (pc := 36) 0 hC dX1_readPart_36 rfl ?_
            refine V.callV0 (pc := 37) (as := []) hC (c_X1_next σ (va_up (va_up (va_up ν 70 f70) 71 (fun _ => i71)) 72 (fun _ => i72)) ρ x.2.1 hT hI hx.1 (by omega)) mu_X1_next ml_X1_52 (by decide) ⟨3, 1, TX1, 5, _, rfl, gx_3⟩ rfl (Nat.le_of_ble_eq_true rfl) dX1_readPart_37 ?_
            rintro _ _ rfl
            show V X (wX k g a σ (va_up (va_up (va_up ν 70 f70) 71 (fun _ => i71)) 72 (fun _ => i72))) [(0, .ref (a 3)), (1, .int 4), (2, .int 4), (3, .int (bI (x.1 = true))), (4, .int 60), (5, .int (nI i))] [.int (lkS ρ x.2.1)] 40
            refine V.callS0 (pc := 40) (as := [.int (lkS ρ x.2.1)]) hC (c_X1_rankOf (lkS ρ x.2.1) ) ms_X1_rankOf ml_X1_56 (by decide) rfl (Nat.le_of_ble_eq_true rfl) dX1_readPart_40 ?_
            rintro _ _ rfl
            show V X (wX k g a σ (va_up (va_up (va_up ν 70 f70) 71 (fun _ => i71)) 72 (fun _ => i72))) [(0, .ref (a 3)), (1, .int 4), (2, .int 4), (3, .int (bI (x.1 = true))), (4, .int 60), (5, .int (nI i))] [.int (nI (rkS (lkS ρ x.2.1)))] 43
            refine V.iload_n (pc := 43) 1 hC dX1_readPart_43 rfl ?_
            refine V.icmp_ne (pc := 44) 85 hC dX1_readPart_44 (by decide) (fun c_44 => ?_) (fun c_44 => ?_)
            · refine V.iload_n (pc := 85) 3 hC dX1_readPart_85 rfl ?_
              exact hR (bI (x.1 = true)) (f70, i71, i72) _ _ dX1_readPart_86 (by first | rfl | exact bI_n _) ⟨by rw [show (lvS (lkS ρ) (sgS (lkS ρ) (nI u) 1) 1) p = x from hv.trans (lp_no (fun q => c_44 ((rk_e (r := 4) (by omega)).mpr q.2)))], by rw [show (lvS (lkS ρ) (sgS (lkS ρ) (nI u) 1) 1) p = x from hv.trans (lp_no (fun q => c_44 ((rk_e (r := 4) (by omega)).mpr q.2)))]; exact hx⟩
            · have hok := c_33
              have hgx := hg.2.2 hok
              have hrk : rkS (lkS ρ x.2.1) = 4 := (rk_e (r := 4) (by omega)).mp c_44
              have hlt : x.2.1 < nN (ρ 5) := tok_lt lk_tok (rk_op hrk (by omega)).2
              have hgy := (sg_g (u := nI u) (lk_tok (ρ := ρ)) 1) (x.2.1 + 1) hlt
              refine V.aload_n (pc := 47) 0 hC dX1_readPart_47 rfl ?_
              refine V.callV0 (pc := 48) (as := []) hC (c_X1_next σ (va_up (va_up (va_up ν 70 f70) 71 (fun _ => i71)) 72 (fun _ => i72)) ρ x.2.1 hT hI hx.1 (by omega)) mu_X1_next ml_X1_52 (by decide) ⟨3, 1, TX1, 5, _, rfl, gx_3⟩ rfl (Nat.le_of_ble_eq_true rfl) dX1_readPart_48 ?_
              rintro _ _ rfl
              show V X (wX k g a σ (va_up (va_up (va_up ν 70 f70) 71 (fun _ => i71)) 72 (fun _ => i72))) [(0, .ref (a 3)), (1, .int 4), (2, .int 4), (3, .int (bI (x.1 = true))), (4, .int 60), (5, .int (nI i))] [.int (lkS ρ x.2.1)] 51
              refine V.istore (pc := 51) [(6, .int (lkS ρ x.2.1)), (0, .ref (a 3)), (1, .int 4), (2, .int 4), (3, .int (bI (x.1 = true))), (4, .int 60), (5, .int (nI i))] hC dX1_readPart_51 (by decide) rfl ?_
              refine V.aload_n (pc := 53) 1 hC dX1_readPart_53 rfl ?_
              refine V.dup (pc := 54) hC dX1_readPart_54 rfl ?_
              refine V.get (pc := 55) (v := .int i72) hC cf_X1 3 3 fl_X1_29 (by decide) gx_3 rfl dX1_readPart_55 ?_
              refine V.iconst (pc := 58) 1 hC dX1_readPart_58 (by decide) ?_
              refine V.iadd (pc := 59) hC dX1_readPart_59 ?_
              refine V.put (pc := 60) (v := .int (i72 + 1)) hC cf_X1 3 3 (wX k g a σ (va_up (va_up (va_up ν 70 f70) 71 (fun _ => i71)) 72 (fun _ => i72 + 1))) fl_X1_29 (by decide) gx_3 rfl rfl rfl (Nat.le_of_ble_eq_true rfl) rfl dX1_readPart_60 ?_
              refine V.aload_n (pc := 63) 1 hC dX1_readPart_63 rfl ?_
              refine V.iload_n (pc := 64) 2 hC dX1_readPart_64 rfl ?_
              refine V.iconst (pc := 65) 1 hC dX1_readPart_65 (by decide) ?_
              refine V.iadd (pc := 66) hC dX1_readPart_66 ?_
              refine V.eqi (y := 5) (by decide) ?_
              refine V.iload_n (pc := 67) 3 hC dX1_readPart_67 rfl ?_
              refine V.callV0 (pc := 68) (as := [.int 5, .int 4]) hC (c_X1_side_5_4 σ (va_up (va_up (va_up ν 70 f70) 71 (fun _ => i71)) 72 (fun _ => i72 + 1)) ρ u (L + x.2.2.length) (x.2.1 + 1) hT hI hu2 ⟨hP.1, (hx.2.2 hok).1, nadd hx.1 (nl 1), by omega, hlt⟩) mu_X1_readSide ml_X1_49 (by decide) ⟨3, 1, TX1, 5, _, rfl, gx_3⟩ rfl (Nat.le_of_ble_eq_true rfl) dX1_readPart_68 ?_
              rintro _ ⟨f68_0, i68_1, i68_2⟩ ⟨rfl, hu68_0⟩
              have hu68_0 : COut (f70) (L + x.2.2.length) ((sgS (lkS ρ) (nI u) 1) (x.2.1 + 1)) f68_0 i68_1 i68_2 := hu68_0
              show V X (wX k g a σ (va_up (va_up (va_up ν 70 f68_0) 71 (fun _ => i68_1)) 72 (fun _ => i68_2))) [(6, .int (lkS ρ x.2.1)), (0, .ref (a 3)), (1, .int 4), (2, .int 4), (3, .int (bI (x.1 = true))), (4, .int 60), (5, .int (nI i))] [.int (bI (((sgS (lkS ρ) (nI u) 1) (x.2.1 + 1)).1 = true))] 71
              refine V.istore_n (pc := 71) [(3, .int (bI (((sgS (lkS ρ) (nI u) 1) (x.2.1 + 1)).1 = true))), (6, .int (lkS ρ x.2.1)), (0, .ref (a 3)), (1, .int 4), (2, .int 4), (4, .int 60), (5, .int (nI i))] hC dX1_readPart_71 (by decide) rfl ?_
              refine V.aload_n (pc := 72) 2 hC dX1_readPart_72 rfl ?_
              refine V.iload (pc := 73) 1 hC dX1_readPart_73 rfl ?_
              refine V.ineg (pc := 75) hC dX1_readPart_75 ?_
              refine V.callV0 (pc := 76) (as := [.int (-(lkS ρ x.2.1))]) hC (c_X1_write σ (va_up (va_up (va_up ν 70 f68_0) 71 (fun _ => i68_1)) 72 (fun _ => i68_2)) (-(lkS ρ x.2.1)) hu68_0.2.1) mu_X1_write ml_X1_60 (by decide) ⟨3, 1, TX1, 5, _, rfl, gx_3⟩ rfl (Nat.le_of_ble_eq_true rfl) dX1_readPart_76 ?_
              rintro _ ⟨f76_0, i76_1⟩ ⟨rfl, hu76_0⟩
              have hu76_0 : WtF (f68_0) (i68_1) (-(lkS ρ x.2.1)) f76_0 i76_1 := hu76_0
              show V X (wX k g a σ (va_up (va_up (va_up ν 70 f76_0) 71 (fun _ => i76_1)) 72 (fun _ => i68_2))) [(3, .int (bI (((sgS (lkS ρ) (nI u) 1) (x.2.1 + 1)).1 = true))), (6, .int (lkS ρ x.2.1)), (0, .ref (a 3)), (1, .int 4), (2, .int 4), (4, .int 60), (5, .int (nI i))] [] 79
              refine V.iinc (pc := 79) 6 (nI (i + 1)) [(5, .int (nI (i + 1))), (3, .int (bI (((sgS (lkS ρ) (nI u) 1) (x.2.1 + 1)).1 = true))), (6, .int (lkS ρ x.2.1)), (0, .ref (a 3)), (1, .int 4), (2, .int 4), (4, .int 60)] hC dX1_readPart_79 rfl (ncast (nadd rfl (nl 1)) (by omega)) (by decide) rfl ?_
              refine V.goto (pc := 82) 25 hC dX1_readPart_82 (by decide) ?_
              exact V.sub [3, 4, 5, 1, 6, 0] rfl (ih (appS x ((sgS (lkS ρ) (nI u) 1) (x.2.1 + 1)) (lkS ρ x.2.1)) (i + 1) f76_0 i76_1 i68_2 (by omega) (hg.app hok hgy (rk_op hrk (by omega)).1) (CO_app hx hok hu68_0 (cd_op1 (rk_op hrk (by omega)).1).symm hu76_0 (fun q => by have := hgy.2.2 q; have := hgy.2.1; omega)) (hv.trans (lp_yes ⟨hok, hrk⟩)))
    exact V.sub [3, 4, 5, 2, 1, 0] rfl (loop_25 60 ((sgS (lkS ρ) (nI u) 1) p) 0 f5_0 i5_1 i5_2 (by omega) ((sg_g (u := nI u) (lk_tok (ρ := ρ)) 1) p (by omega)) hu5_0 rfl)
  · have nc_11 : 4 = 2 := (neq (nl 4) (nl 2) (by omega) (by omega)).mp c_11
    exact absurd c_11 (by decide)
set_option maxHeartbeats 4000000 in
set_option maxRecDepth 100000 in
theorem c_X1_side_4_4 {l : Launch} {D : va_G} {k : Nat → ClassId} {g a : Nat → Nat} (σ ν : St) (ρ : Rw) (u L p : Nat) (hT : RT σ ρ) (hI : Inv ρ) (hu2 : u < 2) (hP : CIn (nN (ρ 5)) (ν 71 0) (ν 72 0) (ν 73 0) u L p) : Ct l D k g yX1_readSide cX1_readSide 3 (some .boolean) 19 446 [.ref (a 3), .int 4, .int 4] (S := Rw × Int32 × Int32) (wX k g a σ ν) (fun uu => wX k g a σ (va_up (va_up (va_up ν 70 uu.1) 71 (fun _ => uu.2.1)) 72 (fun _ => uu.2.2))) (fun vv uu => vv = some (.int (bI (((lvS (lkS ρ) (sgS (lkS ρ) (nI u) 1) 1) p).1 = true))) ∧ COut (ν 70) L ((lvS (lkS ρ) (sgS (lkS ρ) (nI u) 1) 1) p) uu.1 uu.2.1 uu.2.2) := by
  refine Ct.ofI RX1 rfl (by decide +kernel) (Nat.le_of_ble_eq_true rfl) (fun X hC hR => ?_)
  have hb60 := hI.bb; have hle := hP.2.2.2
  show V X (wX k g a σ ν) [(0, .ref (a 3)), (1, .int 4), (2, .int 4)] [] 0
  refine V.iload_n (pc := 0) 1 hC dX1_readSide_0 rfl ?_
  refine V.iconst (pc := 1) 5 hC dX1_readSide_1 (by decide) ?_
  refine V.icmp_ge (pc := 2) 14 hC dX1_readSide_2 (by decide) (fun c_2 => ?_) (fun c_2 => ?_)
  · have nc_2 : 5 ≤ 4 := (nle (nl 5) (nl 4) (by omega) (by omega)).mp c_2
    exact absurd c_2 (by decide)
  · have nc_2 : ¬ (5 ≤ 4) := fun z => c_2 ((nle (nl 5) (nl 4) (by omega) (by omega)).mpr z)
    refine V.aload_n (pc := 5) 0 hC dX1_readSide_5 rfl ?_
    refine V.iload_n (pc := 6) 1 hC dX1_readSide_6 rfl ?_
    refine V.iload_n (pc := 7) 2 hC dX1_readSide_7 rfl ?_
    refine V.callV0 (pc := 8) (as := [.int 4, .int 4]) hC (c_X1_part_4_4 σ ν ρ u L p hT hI hu2 hP) mu_X1_readPart ml_X1_36 (by decide) ⟨3, 1, TX1, 5, _, rfl, gx_3⟩ rfl (Nat.le_of_ble_eq_true rfl) dX1_readSide_8 ?_
    rintro _ ⟨f8_0, i8_1, i8_2⟩ ⟨rfl, hu8_0⟩
    have hu8_0 : COut (ν 70) L ((lvS (lkS ρ) (sgS (lkS ρ) (nI u) 1) 1) p) f8_0 i8_1 i8_2 := hu8_0
    show V X (wX k g a σ (va_up (va_up (va_up ν 70 f8_0) 71 (fun _ => i8_1)) 72 (fun _ => i8_2))) [(0, .ref (a 3)), (1, .int 4), (2, .int 4)] [.int (bI (((lvS (lkS ρ) (sgS (lkS ρ) (nI u) 1) 1) p).1 = true))] 11
    refine V.goto (pc := 11) 19 hC dX1_readSide_11 (by decide) ?_
    exact hR (bI (((lvS (lkS ρ) (sgS (lkS ρ) (nI u) 1) 1) p).1 = true)) (f8_0, i8_1, i8_2) _ _ dX1_readSide_19 (by first | rfl | exact bI_n _) ⟨rfl, hu8_0⟩
set_option maxHeartbeats 4000000 in
set_option maxRecDepth 100000 in
theorem c_X1_part_3_4 {l : Launch} {D : va_G} {k : Nat → ClassId} {g a : Nat → Nat} (σ ν : St) (ρ : Rw) (u L p : Nat) (hT : RT σ ρ) (hI : Inv ρ) (hu2 : u < 2) (hP : CIn (nN (ρ 5)) (ν 71 0) (ν 72 0) (ν 73 0) u L p) : Ct l D k g yX1_readPart cX1_readPart 7 (some .boolean) 20 468 [.ref (a 3), .int 3, .int 4] (S := Rw × Int32 × Int32) (wX k g a σ ν) (fun uu => wX k g a σ (va_up (va_up (va_up ν 70 uu.1) 71 (fun _ => uu.2.1)) 72 (fun _ => uu.2.2))) (fun vv uu => vv = some (.int (bI (((lvS (lkS ρ) (sgS (lkS ρ) (nI u) 1) 2) p).1 = true))) ∧ COut (ν 70) L ((lvS (lkS ρ) (sgS (lkS ρ) (nI u) 1) 2) p) uu.1 uu.2.1 uu.2.2) := by
  refine Ct.ofI RX1 rfl (by decide +kernel) (Nat.le_of_ble_eq_true rfl) (fun X hC hR => ?_)
  have hb60 := hI.bb; have hle := hP.2.2.2
  show V X (wX k g a σ ν) [(0, .ref (a 3)), (1, .int 3), (2, .int 4)] [] 0
  refine V.aload_n (pc := 0) 0 hC dX1_readPart_0 rfl ?_
  refine V.iload_n (pc := 1) 1 hC dX1_readPart_1 rfl ?_
  refine V.iconst (pc := 2) 1 hC dX1_readPart_2 (by decide) ?_
  refine V.iadd (pc := 3) hC dX1_readPart_3 ?_
  refine V.eqi (y := 4) (by decide) ?_
  refine V.iload_n (pc := 4) 2 hC dX1_readPart_4 rfl ?_
  refine V.callV0 (pc := 5) (as := [.int 4, .int 4]) hC (c_X1_side_4_4 σ ν ρ u L p hT hI hu2 hP) mu_X1_readSide ml_X1_49 (by decide) ⟨3, 1, TX1, 5, _, rfl, gx_3⟩ rfl (Nat.le_of_ble_eq_true rfl) dX1_readPart_5 ?_
  rintro _ ⟨f5_0, i5_1, i5_2⟩ ⟨rfl, hu5_0⟩
  have hu5_0 : COut (ν 70) L ((lvS (lkS ρ) (sgS (lkS ρ) (nI u) 1) 1) p) f5_0 i5_1 i5_2 := hu5_0
  show V X (wX k g a σ (va_up (va_up (va_up ν 70 f5_0) 71 (fun _ => i5_1)) 72 (fun _ => i5_2))) [(0, .ref (a 3)), (1, .int 3), (2, .int 4)] [.int (bI (((lvS (lkS ρ) (sgS (lkS ρ) (nI u) 1) 1) p).1 = true))] 8
  refine V.istore_n (pc := 8) [(3, .int (bI (((lvS (lkS ρ) (sgS (lkS ρ) (nI u) 1) 1) p).1 = true))), (0, .ref (a 3)), (1, .int 3), (2, .int 4)] hC dX1_readPart_8 (by decide) rfl ?_
  refine V.iload_n (pc := 9) 2 hC dX1_readPart_9 rfl ?_
  refine V.iconst (pc := 10) 2 hC dX1_readPart_10 (by decide) ?_
  refine V.icmp_ne (pc := 11) 18 hC dX1_readPart_11 (by decide) (fun c_11 => ?_) (fun c_11 => ?_)
  · have nc_11 : ¬ (3 = 2) := fun z => c_11 ((neq (nl 3) (nl 2) (by omega) (by omega)).mpr z)
    refine V.bipush (pc := 18) 60 hC dX1_readPart_18 (by decide) ?_
    refine V.istore (pc := 20) [(4, .int 60), (3, .int (bI (((lvS (lkS ρ) (sgS (lkS ρ) (nI u) 1) 1) p).1 = true))), (0, .ref (a 3)), (1, .int 3), (2, .int 4)] hC dX1_readPart_20 (by decide) rfl ?_
    refine V.iconst (pc := 22) 0 hC dX1_readPart_22 (by decide) ?_
    refine V.istore (pc := 23) [(5, .int 0), (4, .int 60), (3, .int (bI (((lvS (lkS ρ) (sgS (lkS ρ) (nI u) 1) 1) p).1 = true))), (0, .ref (a 3)), (1, .int 3), (2, .int 4)] hC dX1_readPart_23 (by decide) rfl ?_
    have loop_25 : ∀ (n : Nat) (x : Res) (i : Nat) (f70 : Rw) (i71 i72 : Int32), i + n = 60 → GR (nN (ρ 5)) p x → COut (ν 70) L x f70 i71 i72 → (lvS (lkS ρ) (sgS (lkS ρ) (nI u) 1) 2) p = lpS (lkS ρ) (lvS (lkS ρ) (sgS (lkS ρ) (nI u) 1) 1) 3 n x → V X (wX k g a σ (va_up (va_up (va_up ν 70 f70) 71 (fun _ => i71)) 72 (fun _ => i72))) [(0, .ref (a 3)), (1, .int 3), (2, .int 4), (3, .int (bI (x.1 = true))), (4, .int 60), (5, .int (nI i))] [] 25 := by
      intro n
      induction n with
      | zero =>
        intro x i f70 i71 i72 hi hg hx hv
        have hxb := hg.2.1
        refine V.iload (pc := 25) 5 hC dX1_readPart_25 rfl ?_
        refine V.iload (pc := 27) 4 hC dX1_readPart_27 rfl ?_
        refine V.icmp_ge (pc := 29) 85 hC dX1_readPart_29 (by decide) (fun c_29 => ?_) (fun c_29 => ?_)
        · have nc_29 : 60 ≤ i := (nle (nl 60) rfl (by omega) (by omega)).mp c_29
          refine V.iload_n (pc := 85) 3 hC dX1_readPart_85 rfl ?_
          exact hR (bI (x.1 = true)) (f70, i71, i72) _ _ dX1_readPart_86 (by first | rfl | exact bI_n _) ⟨by rw [show (lvS (lkS ρ) (sgS (lkS ρ) (nI u) 1) 2) p = x from hv], by rw [show (lvS (lkS ρ) (sgS (lkS ρ) (nI u) 1) 2) p = x from hv]; exact hx⟩
        · have nc_29 : ¬ (60 ≤ i) := fun z => c_29 ((nle (nl 60) rfl (by omega) (by omega)).mpr z)
          exfalso; omega
      | succ n ih =>
        intro x i f70 i71 i72 hi hg hx hv
        have hxb := hg.2.1
        refine V.iload (pc := 25) 5 hC dX1_readPart_25 rfl ?_
        refine V.iload (pc := 27) 4 hC dX1_readPart_27 rfl ?_
        refine V.icmp_ge (pc := 29) 85 hC dX1_readPart_29 (by decide) (fun c_29 => ?_) (fun c_29 => ?_)
        · have nc_29 : 60 ≤ i := (nle (nl 60) rfl (by omega) (by omega)).mp c_29
          exfalso; omega
        · have nc_29 : ¬ (60 ≤ i) := fun z => c_29 ((nle (nl 60) rfl (by omega) (by omega)).mpr z)
          refine V.iload_n (pc := 32) 3 hC dX1_readPart_32 rfl ?_
          refine V.if_eq_b (P := x.1 = true) (pc := 33) 85 hC dX1_readPart_33 (by decide) (fun c_33 => ?_) (fun c_33 => ?_)
          · refine V.iload_n (pc := 85) 3 hC dX1_readPart_85 rfl ?_
            exact hR (bI (x.1 = true)) (f70, i71, i72) _ _ dX1_readPart_86 (by first | rfl | exact bI_n _) ⟨by rw [show (lvS (lkS ρ) (sgS (lkS ρ) (nI u) 1) 2) p = x from hv.trans (lp_no (fun q => c_33 q.1))], by rw [show (lvS (lkS ρ) (sgS (lkS ρ) (nI u) 1) 2) p = x from hv.trans (lp_no (fun q => c_33 q.1))]; exact hx⟩
          · refine V.aload_n (pc := 36) 0 hC dX1_readPart_36 rfl ?_
            refine V.callV0 (pc := 37) (as := []) hC (c_X1_next σ (va_up (va_up (va_up ν 70 f70) 71 (fun _ => i71)) 72 (fun _ => i72)) ρ x.2.1 hT hI hx.1 (by omega)) mu_X1_next ml_X1_52 (by decide) ⟨3, 1, TX1, 5, _, rfl, gx_3⟩ rfl (Nat.le_of_ble_eq_true rfl) dX1_readPart_37 ?_
            rintro _ _ rfl
            show V X (wX k g a σ (va_up (va_up (va_up ν 70 f70) 71 (fun _ => i71)) 72 (fun _ => i72))) [(0, .ref (a 3)), (1, .int 3), (2, .int 4), (3, .int (bI (x.1 = true))), (4, .int 60), (5, .int (nI i))] [.int (lkS ρ x.2.1)] 40
            refine V.callS0 (pc := 40) (as := [.int (lkS ρ x.2.1)]) hC (c_X1_rankOf (lkS ρ x.2.1) ) ms_X1_rankOf ml_X1_56 (by decide) rfl (Nat.le_of_ble_eq_true rfl) dX1_readPart_40 ?_
            rintro _ _ rfl
            show V X (wX k g a σ (va_up (va_up (va_up ν 70 f70) 71 (fun _ => i71)) 72 (fun _ => i72))) [(0, .ref (a 3)), (1, .int 3), (2, .int 4), (3, .int (bI (x.1 = true))), (4, .int 60), (5, .int (nI i))] [.int (nI (rkS (lkS ρ x.2.1)))] 43
            refine V.iload_n (pc := 43) 1 hC dX1_readPart_43 rfl ?_
            refine V.icmp_ne (pc := 44) 85 hC dX1_readPart_44 (by decide) (fun c_44 => ?_) (fun c_44 => ?_)
            · refine V.iload_n (pc := 85) 3 hC dX1_readPart_85 rfl ?_
              exact hR (bI (x.1 = true)) (f70, i71, i72) _ _ dX1_readPart_86 (by first | rfl | exact bI_n _) ⟨by rw [show (lvS (lkS ρ) (sgS (lkS ρ) (nI u) 1) 2) p = x from hv.trans (lp_no (fun q => c_44 ((rk_e (r := 3) (by omega)).mpr q.2)))], by rw [show (lvS (lkS ρ) (sgS (lkS ρ) (nI u) 1) 2) p = x from hv.trans (lp_no (fun q => c_44 ((rk_e (r := 3) (by omega)).mpr q.2)))]; exact hx⟩
            · have hok := c_33
              have hgx := hg.2.2 hok
              have hrk : rkS (lkS ρ x.2.1) = 3 := (rk_e (r := 3) (by omega)).mp c_44
              have hlt : x.2.1 < nN (ρ 5) := tok_lt lk_tok (rk_op hrk (by omega)).2
              have hgy := (lv_g (lk_tok (ρ := ρ)) (sg_g (u := nI u) (lk_tok (ρ := ρ)) 1) 1) (x.2.1 + 1) hlt
              refine V.aload_n (pc := 47) 0 hC dX1_readPart_47 rfl ?_
              refine V.callV0 (pc := 48) (as := []) hC (c_X1_next σ (va_up (va_up (va_up ν 70 f70) 71 (fun _ => i71)) 72 (fun _ => i72)) ρ x.2.1 hT hI hx.1 (by omega)) mu_X1_next ml_X1_52 (by decide) ⟨3, 1, TX1, 5, _, rfl, gx_3⟩ rfl (Nat.le_of_ble_eq_true rfl) dX1_readPart_48 ?_
              rintro _ _ rfl
              show V X (wX k g a σ (va_up (va_up (va_up ν 70 f70) 71 (fun _ => i71)) 72 (fun _ => i72))) [(0, .ref (a 3)), (1, .int 3), (2, .int 4), (3, .int (bI (x.1 = true))), (4, .int 60), (5, .int (nI i))] [.int (lkS ρ x.2.1)] 51
              refine V.istore (pc := 51) [(6, .int (lkS ρ x.2.1)), (0, .ref (a 3)), (1, .int 3), (2, .int 4), (3, .int (bI (x.1 = true))), (4, .int 60), (5, .int (nI i))] hC dX1_readPart_51 (by decide) rfl ?_
              refine V.aload_n (pc := 53) 1 hC dX1_readPart_53 rfl ?_
              refine V.dup (pc := 54) hC dX1_readPart_54 rfl ?_
              refine V.get (pc := 55) (v := .int i72) hC cf_X1 3 3 fl_X1_29 (by decide) gx_3 rfl dX1_readPart_55 ?_
              refine V.iconst (pc := 58) 1 hC dX1_readPart_58 (by decide) ?_
              refine V.iadd (pc := 59) hC dX1_readPart_59 ?_
              refine V.put (pc := 60) (v := .int (i72 + 1)) hC cf_X1 3 3 (wX k g a σ (va_up (va_up (va_up ν 70 f70) 71 (fun _ => i71)) 72 (fun _ => i72 + 1))) fl_X1_29 (by decide) gx_3 rfl rfl rfl (Nat.le_of_ble_eq_true rfl) rfl dX1_readPart_60 ?_
              refine V.aload_n (pc := 63) 1 hC dX1_readPart_63 rfl ?_
              refine V.iload_n (pc := 64) 2 hC dX1_readPart_64 rfl ?_
              refine V.iconst (pc := 65) 1 hC dX1_readPart_65 (by decide) ?_
              refine V.iadd (pc := 66) hC dX1_readPart_66 ?_
              refine V.eqi (y := 4) (by decide) ?_
              refine V.iload_n (pc := 67) 3 hC dX1_readPart_67 rfl ?_
              refine V.callV0 (pc := 68) (as := [.int 4, .int 4]) hC (c_X1_side_4_4 σ (va_up (va_up (va_up ν 70 f70) 71 (fun _ => i71)) 72 (fun _ => i72 + 1)) ρ u (L + x.2.2.length) (x.2.1 + 1) hT hI hu2 ⟨hP.1, (hx.2.2 hok).1, nadd hx.1 (nl 1), by omega, hlt⟩) mu_X1_readSide ml_X1_49 (by decide) ⟨3, 1, TX1, 5, _, rfl, gx_3⟩ rfl (Nat.le_of_ble_eq_true rfl) dX1_readPart_68 ?_
              rintro _ ⟨f68_0, i68_1, i68_2⟩ ⟨rfl, hu68_0⟩
              have hu68_0 : COut (f70) (L + x.2.2.length) ((lvS (lkS ρ) (sgS (lkS ρ) (nI u) 1) 1) (x.2.1 + 1)) f68_0 i68_1 i68_2 := hu68_0
              show V X (wX k g a σ (va_up (va_up (va_up ν 70 f68_0) 71 (fun _ => i68_1)) 72 (fun _ => i68_2))) [(6, .int (lkS ρ x.2.1)), (0, .ref (a 3)), (1, .int 3), (2, .int 4), (3, .int (bI (x.1 = true))), (4, .int 60), (5, .int (nI i))] [.int (bI (((lvS (lkS ρ) (sgS (lkS ρ) (nI u) 1) 1) (x.2.1 + 1)).1 = true))] 71
              refine V.istore_n (pc := 71) [(3, .int (bI (((lvS (lkS ρ) (sgS (lkS ρ) (nI u) 1) 1) (x.2.1 + 1)).1 = true))), (6, .int (lkS ρ x.2.1)), (0, .ref (a 3)), (1, .int 3), (2, .int 4), (4, .int 60), (5, .int (nI i))] hC dX1_readPart_71 (by decide) rfl ?_
              refine V.aload_n (pc := 72) 2 hC dX1_readPart_72 rfl ?_
              refine V.iload (pc := 73) 1 hC dX1_readPart_73 rfl ?_
              refine V.ineg (pc := 75) hC dX1_readPart_75 ?_
              refine V.callV0 (pc := 76) (as := [.int (-(lkS ρ x.2.1))]) hC (c_X1_write σ (va_up (va_up (va_up ν 70 f68_0) 71 (fun _ => i68_1)) 72 (fun _ => i68_2)) (-(lkS ρ x.2.1)) hu68_0.2.1) mu_X1_write ml_X1_60 (by decide) ⟨3, 1, TX1, 5, _, rfl, gx_3⟩ rfl (Nat.le_of_ble_eq_true rfl) dX1_readPart_76 ?_
              rintro _ ⟨f76_0, i76_1⟩ ⟨rfl, hu76_0⟩
              have hu76_0 : WtF (f68_0) (i68_1) (-(lkS ρ x.2.1)) f76_0 i76_1 := hu76_0
              show V X (wX k g a σ (va_up (va_up (va_up ν 70 f76_0) 71 (fun _ => i76_1)) 72 (fun _ => i68_2))) [(3, .int (bI (((lvS (lkS ρ) (sgS (lkS ρ) (nI u) 1) 1) (x.2.1 + 1)).1 = true))), (6, .int (lkS ρ x.2.1)), (0, .ref (a 3)), (1, .int 3), (2, .int 4), (4, .int 60), (5, .int (nI i))] [] 79
              refine V.iinc (pc := 79) 6 (nI (i + 1)) [(5, .int (nI (i + 1))), (3, .int (bI (((lvS (lkS ρ) (sgS (lkS ρ) (nI u) 1) 1) (x.2.1 + 1)).1 = true))), (6, .int (lkS ρ x.2.1)), (0, .ref (a 3)), (1, .int 3), (2, .int 4), (4, .int 60)] hC dX1_readPart_79 rfl (ncast (nadd rfl (nl 1)) (by omega)) (by decide) rfl ?_
              refine V.goto (pc := 82) 25 hC dX1_readPart_82 (by decide) ?_
              exact V.sub [3, 4, 5, 1, 6, 0] rfl (ih (appS x ((lvS (lkS ρ) (sgS (lkS ρ) (nI u) 1) 1) (x.2.1 + 1)) (lkS ρ x.2.1)) (i + 1) f76_0 i76_1 i68_2 (by omega) (hg.app hok hgy (rk_op hrk (by omega)).1) (CO_app hx hok hu68_0 (cd_op1 (rk_op hrk (by omega)).1).symm hu76_0 (fun q => by have := hgy.2.2 q; have := hgy.2.1; omega)) (hv.trans (lp_yes ⟨hok, hrk⟩)))
    exact V.sub [3, 4, 5, 2, 1, 0] rfl (loop_25 60 ((lvS (lkS ρ) (sgS (lkS ρ) (nI u) 1) 1) p) 0 f5_0 i5_1 i5_2 (by omega) ((lv_g (lk_tok (ρ := ρ)) (sg_g (u := nI u) (lk_tok (ρ := ρ)) 1) 1) p (by omega)) hu5_0 rfl)
  · have nc_11 : 3 = 2 := (neq (nl 3) (nl 2) (by omega) (by omega)).mp c_11
    exact absurd c_11 (by decide)
set_option maxHeartbeats 4000000 in
set_option maxRecDepth 100000 in
theorem c_X1_side_3_4 {l : Launch} {D : va_G} {k : Nat → ClassId} {g a : Nat → Nat} (σ ν : St) (ρ : Rw) (u L p : Nat) (hT : RT σ ρ) (hI : Inv ρ) (hu2 : u < 2) (hP : CIn (nN (ρ 5)) (ν 71 0) (ν 72 0) (ν 73 0) u L p) : Ct l D k g yX1_readSide cX1_readSide 3 (some .boolean) 21 494 [.ref (a 3), .int 3, .int 4] (S := Rw × Int32 × Int32) (wX k g a σ ν) (fun uu => wX k g a σ (va_up (va_up (va_up ν 70 uu.1) 71 (fun _ => uu.2.1)) 72 (fun _ => uu.2.2))) (fun vv uu => vv = some (.int (bI (((lvS (lkS ρ) (sgS (lkS ρ) (nI u) 1) 2) p).1 = true))) ∧ COut (ν 70) L ((lvS (lkS ρ) (sgS (lkS ρ) (nI u) 1) 2) p) uu.1 uu.2.1 uu.2.2) := by
  refine Ct.ofI RX1 rfl (by decide +kernel) (Nat.le_of_ble_eq_true rfl) (fun X hC hR => ?_)
  have hb60 := hI.bb; have hle := hP.2.2.2
  show V X (wX k g a σ ν) [(0, .ref (a 3)), (1, .int 3), (2, .int 4)] [] 0
  refine V.iload_n (pc := 0) 1 hC dX1_readSide_0 rfl ?_
  refine V.iconst (pc := 1) 5 hC dX1_readSide_1 (by decide) ?_
  refine V.icmp_ge (pc := 2) 14 hC dX1_readSide_2 (by decide) (fun c_2 => ?_) (fun c_2 => ?_)
  · have nc_2 : 5 ≤ 3 := (nle (nl 5) (nl 3) (by omega) (by omega)).mp c_2
    exact absurd c_2 (by decide)
  · have nc_2 : ¬ (5 ≤ 3) := fun z => c_2 ((nle (nl 5) (nl 3) (by omega) (by omega)).mpr z)
    refine V.aload_n (pc := 5) 0 hC dX1_readSide_5 rfl ?_
    refine V.iload_n (pc := 6) 1 hC dX1_readSide_6 rfl ?_
    refine V.iload_n (pc := 7) 2 hC dX1_readSide_7 rfl ?_
    refine V.callV0 (pc := 8) (as := [.int 3, .int 4]) hC (c_X1_part_3_4 σ ν ρ u L p hT hI hu2 hP) mu_X1_readPart ml_X1_36 (by decide) ⟨3, 1, TX1, 5, _, rfl, gx_3⟩ rfl (Nat.le_of_ble_eq_true rfl) dX1_readSide_8 ?_
    rintro _ ⟨f8_0, i8_1, i8_2⟩ ⟨rfl, hu8_0⟩
    have hu8_0 : COut (ν 70) L ((lvS (lkS ρ) (sgS (lkS ρ) (nI u) 1) 2) p) f8_0 i8_1 i8_2 := hu8_0
    show V X (wX k g a σ (va_up (va_up (va_up ν 70 f8_0) 71 (fun _ => i8_1)) 72 (fun _ => i8_2))) [(0, .ref (a 3)), (1, .int 3), (2, .int 4)] [.int (bI (((lvS (lkS ρ) (sgS (lkS ρ) (nI u) 1) 2) p).1 = true))] 11
    refine V.goto (pc := 11) 19 hC dX1_readSide_11 (by decide) ?_
    exact hR (bI (((lvS (lkS ρ) (sgS (lkS ρ) (nI u) 1) 2) p).1 = true)) (f8_0, i8_1, i8_2) _ _ dX1_readSide_19 (by first | rfl | exact bI_n _) ⟨rfl, hu8_0⟩
set_option maxHeartbeats 4000000 in
set_option maxRecDepth 100000 in
theorem c_X1_part_2_4 {l : Launch} {D : va_G} {k : Nat → ClassId} {g a : Nat → Nat} (σ ν : St) (ρ : Rw) (u L p : Nat) (hT : RT σ ρ) (hI : Inv ρ) (hu2 : u < 2) (hP : CIn (nN (ρ 5)) (ν 71 0) (ν 72 0) (ν 73 0) u L p) : Ct l D k g yX1_readPart cX1_readPart 7 (some .boolean) 22 516 [.ref (a 3), .int 2, .int 4] (S := Rw × Int32 × Int32) (wX k g a σ ν) (fun uu => wX k g a σ (va_up (va_up (va_up ν 70 uu.1) 71 (fun _ => uu.2.1)) 72 (fun _ => uu.2.2))) (fun vv uu => vv = some (.int (bI (((lvS (lkS ρ) (sgS (lkS ρ) (nI u) 1) 3) p).1 = true))) ∧ COut (ν 70) L ((lvS (lkS ρ) (sgS (lkS ρ) (nI u) 1) 3) p) uu.1 uu.2.1 uu.2.2) := by
  refine Ct.ofI RX1 rfl (by decide +kernel) (Nat.le_of_ble_eq_true rfl) (fun X hC hR => ?_)
  have hb60 := hI.bb; have hle := hP.2.2.2
  show V X (wX k g a σ ν) [(0, .ref (a 3)), (1, .int 2), (2, .int 4)] [] 0
  refine V.aload_n (pc := 0) 0 hC dX1_readPart_0 rfl ?_
  refine V.iload_n (pc := 1) 1 hC dX1_readPart_1 rfl ?_
  refine V.iconst (pc := 2) 1 hC dX1_readPart_2 (by decide) ?_
  refine V.iadd (pc := 3) hC dX1_readPart_3 ?_
  refine V.eqi (y := 3) (by decide) ?_
  refine V.iload_n (pc := 4) 2 hC dX1_readPart_4 rfl ?_
  refine V.callV0 (pc := 5) (as := [.int 3, .int 4]) hC (c_X1_side_3_4 σ ν ρ u L p hT hI hu2 hP) mu_X1_readSide ml_X1_49 (by decide) ⟨3, 1, TX1, 5, _, rfl, gx_3⟩ rfl (Nat.le_of_ble_eq_true rfl) dX1_readPart_5 ?_
  rintro _ ⟨f5_0, i5_1, i5_2⟩ ⟨rfl, hu5_0⟩
  have hu5_0 : COut (ν 70) L ((lvS (lkS ρ) (sgS (lkS ρ) (nI u) 1) 2) p) f5_0 i5_1 i5_2 := hu5_0
  show V X (wX k g a σ (va_up (va_up (va_up ν 70 f5_0) 71 (fun _ => i5_1)) 72 (fun _ => i5_2))) [(0, .ref (a 3)), (1, .int 2), (2, .int 4)] [.int (bI (((lvS (lkS ρ) (sgS (lkS ρ) (nI u) 1) 2) p).1 = true))] 8
  refine V.istore_n (pc := 8) [(3, .int (bI (((lvS (lkS ρ) (sgS (lkS ρ) (nI u) 1) 2) p).1 = true))), (0, .ref (a 3)), (1, .int 2), (2, .int 4)] hC dX1_readPart_8 (by decide) rfl ?_
  refine V.iload_n (pc := 9) 2 hC dX1_readPart_9 rfl ?_
  refine V.iconst (pc := 10) 2 hC dX1_readPart_10 (by decide) ?_
  refine V.icmp_ne (pc := 11) 18 hC dX1_readPart_11 (by decide) (fun c_11 => ?_) (fun c_11 => ?_)
  · have nc_11 : ¬ (2 = 2) := fun z => c_11 ((neq (nl 2) (nl 2) (by omega) (by omega)).mpr z)
    exact absurd c_11 (by decide)
  · have nc_11 : 2 = 2 := (neq (nl 2) (nl 2) (by omega) (by omega)).mp c_11
    refine V.iconst (pc := 14) 1 hC dX1_readPart_14 (by decide) ?_
    refine V.goto (pc := 15) 20 hC dX1_readPart_15 (by decide) ?_
    refine V.istore (pc := 20) [(4, .int 1), (3, .int (bI (((lvS (lkS ρ) (sgS (lkS ρ) (nI u) 1) 2) p).1 = true))), (0, .ref (a 3)), (1, .int 2), (2, .int 4)] hC dX1_readPart_20 (by decide) rfl ?_
    refine V.iconst (pc := 22) 0 hC dX1_readPart_22 (by decide) ?_
    refine V.istore (pc := 23) [(5, .int 0), (4, .int 1), (3, .int (bI (((lvS (lkS ρ) (sgS (lkS ρ) (nI u) 1) 2) p).1 = true))), (0, .ref (a 3)), (1, .int 2), (2, .int 4)] hC dX1_readPart_23 (by decide) rfl ?_
    have loop_25 : ∀ (n : Nat) (x : Res) (i : Nat) (f70 : Rw) (i71 i72 : Int32), i + n = 1 → GR (nN (ρ 5)) p x → COut (ν 70) L x f70 i71 i72 → (lvS (lkS ρ) (sgS (lkS ρ) (nI u) 1) 3) p = lpS (lkS ρ) (lvS (lkS ρ) (sgS (lkS ρ) (nI u) 1) 2) 2 n x → V X (wX k g a σ (va_up (va_up (va_up ν 70 f70) 71 (fun _ => i71)) 72 (fun _ => i72))) [(0, .ref (a 3)), (1, .int 2), (2, .int 4), (3, .int (bI (x.1 = true))), (4, .int 1), (5, .int (nI i))] [] 25 := by
      intro n
      induction n with
      | zero =>
        intro x i f70 i71 i72 hi hg hx hv
        have hxb := hg.2.1
        refine V.iload (pc := 25) 5 hC dX1_readPart_25 rfl ?_
        refine V.iload (pc := 27) 4 hC dX1_readPart_27 rfl ?_
        refine V.icmp_ge (pc := 29) 85 hC dX1_readPart_29 (by decide) (fun c_29 => ?_) (fun c_29 => ?_)
        · have nc_29 : 1 ≤ i := (nle (nl 1) rfl (by omega) (by omega)).mp c_29
          refine V.iload_n (pc := 85) 3 hC dX1_readPart_85 rfl ?_
          exact hR (bI (x.1 = true)) (f70, i71, i72) _ _ dX1_readPart_86 (by first | rfl | exact bI_n _) ⟨by rw [show (lvS (lkS ρ) (sgS (lkS ρ) (nI u) 1) 3) p = x from hv], by rw [show (lvS (lkS ρ) (sgS (lkS ρ) (nI u) 1) 3) p = x from hv]; exact hx⟩
        · have nc_29 : ¬ (1 ≤ i) := fun z => c_29 ((nle (nl 1) rfl (by omega) (by omega)).mpr z)
          exfalso; omega
      | succ n ih =>
        intro x i f70 i71 i72 hi hg hx hv
        have hxb := hg.2.1
        refine V.iload (pc := 25) 5 hC dX1_readPart_25 rfl ?_
        refine V.iload (pc := 27) 4 hC dX1_readPart_27 rfl ?_
        refine V.icmp_ge (pc := 29) 85 hC dX1_readPart_29 (by decide) (fun c_29 => ?_) (fun c_29 => ?_)
        · have nc_29 : 1 ≤ i := (nle (nl 1) rfl (by omega) (by omega)).mp c_29
          exfalso; omega
        · have nc_29 : ¬ (1 ≤ i) := fun z => c_29 ((nle (nl 1) rfl (by omega) (by omega)).mpr z)
          refine V.iload_n (pc := 32) 3 hC dX1_readPart_32 rfl ?_
          refine V.if_eq_b (P := x.1 = true) (pc := 33) 85 hC dX1_readPart_33 (by decide) (fun c_33 => ?_) (fun c_33 => ?_)
          · refine V.iload_n (pc := 85) 3 hC dX1_readPart_85 rfl ?_
            exact hR (bI (x.1 = true)) (f70, i71, i72) _ _ dX1_readPart_86 (by first | rfl | exact bI_n _) ⟨by rw [show (lvS (lkS ρ) (sgS (lkS ρ) (nI u) 1) 3) p = x from hv.trans (lp_no (fun q => c_33 q.1))], by rw [show (lvS (lkS ρ) (sgS (lkS ρ) (nI u) 1) 3) p = x from hv.trans (lp_no (fun q => c_33 q.1))]; exact hx⟩
          · refine V.aload_n (pc := 36) 0 hC dX1_readPart_36 rfl ?_
            refine V.callV0 (pc := 37) (as := []) hC (c_X1_next σ (va_up (va_up (va_up ν 70 f70) 71 (fun _ => i71)) 72 (fun _ => i72)) ρ x.2.1 hT hI hx.1 (by omega)) mu_X1_next ml_X1_52 (by decide) ⟨3, 1, TX1, 5, _, rfl, gx_3⟩ rfl (Nat.le_of_ble_eq_true rfl) dX1_readPart_37 ?_
            rintro _ _ rfl
            show V X (wX k g a σ (va_up (va_up (va_up ν 70 f70) 71 (fun _ => i71)) 72 (fun _ => i72))) [(0, .ref (a 3)), (1, .int 2), (2, .int 4), (3, .int (bI (x.1 = true))), (4, .int 1), (5, .int (nI i))] [.int (lkS ρ x.2.1)] 40
            refine V.callS0 (pc := 40) (as := [.int (lkS ρ x.2.1)]) hC (c_X1_rankOf (lkS ρ x.2.1) ) ms_X1_rankOf ml_X1_56 (by decide) rfl (Nat.le_of_ble_eq_true rfl) dX1_readPart_40 ?_
            rintro _ _ rfl
            show V X (wX k g a σ (va_up (va_up (va_up ν 70 f70) 71 (fun _ => i71)) 72 (fun _ => i72))) [(0, .ref (a 3)), (1, .int 2), (2, .int 4), (3, .int (bI (x.1 = true))), (4, .int 1), (5, .int (nI i))] [.int (nI (rkS (lkS ρ x.2.1)))] 43
            refine V.iload_n (pc := 43) 1 hC dX1_readPart_43 rfl ?_
            refine V.icmp_ne (pc := 44) 85 hC dX1_readPart_44 (by decide) (fun c_44 => ?_) (fun c_44 => ?_)
            · refine V.iload_n (pc := 85) 3 hC dX1_readPart_85 rfl ?_
              exact hR (bI (x.1 = true)) (f70, i71, i72) _ _ dX1_readPart_86 (by first | rfl | exact bI_n _) ⟨by rw [show (lvS (lkS ρ) (sgS (lkS ρ) (nI u) 1) 3) p = x from hv.trans (lp_no (fun q => c_44 ((rk_e (r := 2) (by omega)).mpr q.2)))], by rw [show (lvS (lkS ρ) (sgS (lkS ρ) (nI u) 1) 3) p = x from hv.trans (lp_no (fun q => c_44 ((rk_e (r := 2) (by omega)).mpr q.2)))]; exact hx⟩
            · have hok := c_33
              have hgx := hg.2.2 hok
              have hrk : rkS (lkS ρ x.2.1) = 2 := (rk_e (r := 2) (by omega)).mp c_44
              have hlt : x.2.1 < nN (ρ 5) := tok_lt lk_tok (rk_op hrk (by omega)).2
              have hgy := (lv_g (lk_tok (ρ := ρ)) (sg_g (u := nI u) (lk_tok (ρ := ρ)) 1) 2) (x.2.1 + 1) hlt
              refine V.aload_n (pc := 47) 0 hC dX1_readPart_47 rfl ?_
              refine V.callV0 (pc := 48) (as := []) hC (c_X1_next σ (va_up (va_up (va_up ν 70 f70) 71 (fun _ => i71)) 72 (fun _ => i72)) ρ x.2.1 hT hI hx.1 (by omega)) mu_X1_next ml_X1_52 (by decide) ⟨3, 1, TX1, 5, _, rfl, gx_3⟩ rfl (Nat.le_of_ble_eq_true rfl) dX1_readPart_48 ?_
              rintro _ _ rfl
              show V X (wX k g a σ (va_up (va_up (va_up ν 70 f70) 71 (fun _ => i71)) 72 (fun _ => i72))) [(0, .ref (a 3)), (1, .int 2), (2, .int 4), (3, .int (bI (x.1 = true))), (4, .int 1), (5, .int (nI i))] [.int (lkS ρ x.2.1)] 51
              refine V.istore (pc := 51) [(6, .int (lkS ρ x.2.1)), (0, .ref (a 3)), (1, .int 2), (2, .int 4), (3, .int (bI (x.1 = true))), (4, .int 1), (5, .int (nI i))] hC dX1_readPart_51 (by decide) rfl ?_
              refine V.aload_n (pc := 53) 1 hC dX1_readPart_53 rfl ?_
              refine V.dup (pc := 54) hC dX1_readPart_54 rfl ?_
              refine V.get (pc := 55) (v := .int i72) hC cf_X1 3 3 fl_X1_29 (by decide) gx_3 rfl dX1_readPart_55 ?_
              refine V.iconst (pc := 58) 1 hC dX1_readPart_58 (by decide) ?_
              refine V.iadd (pc := 59) hC dX1_readPart_59 ?_
              refine V.put (pc := 60) (v := .int (i72 + 1)) hC cf_X1 3 3 (wX k g a σ (va_up (va_up (va_up ν 70 f70) 71 (fun _ => i71)) 72 (fun _ => i72 + 1))) fl_X1_29 (by decide) gx_3 rfl rfl rfl (Nat.le_of_ble_eq_true rfl) rfl dX1_readPart_60 ?_
              refine V.aload_n (pc := 63) 1 hC dX1_readPart_63 rfl ?_
              refine V.iload_n (pc := 64) 2 hC dX1_readPart_64 rfl ?_
              refine V.iconst (pc := 65) 1 hC dX1_readPart_65 (by decide) ?_
              refine V.iadd (pc := 66) hC dX1_readPart_66 ?_
              refine V.eqi (y := 3) (by decide) ?_
              refine V.iload_n (pc := 67) 3 hC dX1_readPart_67 rfl ?_
              refine V.callV0 (pc := 68) (as := [.int 3, .int 4]) hC (c_X1_side_3_4 σ (va_up (va_up (va_up ν 70 f70) 71 (fun _ => i71)) 72 (fun _ => i72 + 1)) ρ u (L + x.2.2.length) (x.2.1 + 1) hT hI hu2 ⟨hP.1, (hx.2.2 hok).1, nadd hx.1 (nl 1), by omega, hlt⟩) mu_X1_readSide ml_X1_49 (by decide) ⟨3, 1, TX1, 5, _, rfl, gx_3⟩ rfl (Nat.le_of_ble_eq_true rfl) dX1_readPart_68 ?_
              rintro _ ⟨f68_0, i68_1, i68_2⟩ ⟨rfl, hu68_0⟩
              have hu68_0 : COut (f70) (L + x.2.2.length) ((lvS (lkS ρ) (sgS (lkS ρ) (nI u) 1) 2) (x.2.1 + 1)) f68_0 i68_1 i68_2 := hu68_0
              show V X (wX k g a σ (va_up (va_up (va_up ν 70 f68_0) 71 (fun _ => i68_1)) 72 (fun _ => i68_2))) [(6, .int (lkS ρ x.2.1)), (0, .ref (a 3)), (1, .int 2), (2, .int 4), (3, .int (bI (x.1 = true))), (4, .int 1), (5, .int (nI i))] [.int (bI (((lvS (lkS ρ) (sgS (lkS ρ) (nI u) 1) 2) (x.2.1 + 1)).1 = true))] 71
              refine V.istore_n (pc := 71) [(3, .int (bI (((lvS (lkS ρ) (sgS (lkS ρ) (nI u) 1) 2) (x.2.1 + 1)).1 = true))), (6, .int (lkS ρ x.2.1)), (0, .ref (a 3)), (1, .int 2), (2, .int 4), (4, .int 1), (5, .int (nI i))] hC dX1_readPart_71 (by decide) rfl ?_
              refine V.aload_n (pc := 72) 2 hC dX1_readPart_72 rfl ?_
              refine V.iload (pc := 73) 1 hC dX1_readPart_73 rfl ?_
              refine V.ineg (pc := 75) hC dX1_readPart_75 ?_
              refine V.callV0 (pc := 76) (as := [.int (-(lkS ρ x.2.1))]) hC (c_X1_write σ (va_up (va_up (va_up ν 70 f68_0) 71 (fun _ => i68_1)) 72 (fun _ => i68_2)) (-(lkS ρ x.2.1)) hu68_0.2.1) mu_X1_write ml_X1_60 (by decide) ⟨3, 1, TX1, 5, _, rfl, gx_3⟩ rfl (Nat.le_of_ble_eq_true rfl) dX1_readPart_76 ?_
              rintro _ ⟨f76_0, i76_1⟩ ⟨rfl, hu76_0⟩
              have hu76_0 : WtF (f68_0) (i68_1) (-(lkS ρ x.2.1)) f76_0 i76_1 := hu76_0
              show V X (wX k g a σ (va_up (va_up (va_up ν 70 f76_0) 71 (fun _ => i76_1)) 72 (fun _ => i68_2))) [(3, .int (bI (((lvS (lkS ρ) (sgS (lkS ρ) (nI u) 1) 2) (x.2.1 + 1)).1 = true))), (6, .int (lkS ρ x.2.1)), (0, .ref (a 3)), (1, .int 2), (2, .int 4), (4, .int 1), (5, .int (nI i))] [] 79
              refine V.iinc (pc := 79) 6 (nI (i + 1)) [(5, .int (nI (i + 1))), (3, .int (bI (((lvS (lkS ρ) (sgS (lkS ρ) (nI u) 1) 2) (x.2.1 + 1)).1 = true))), (6, .int (lkS ρ x.2.1)), (0, .ref (a 3)), (1, .int 2), (2, .int 4), (4, .int 1)] hC dX1_readPart_79 rfl (ncast (nadd rfl (nl 1)) (by omega)) (by decide) rfl ?_
              refine V.goto (pc := 82) 25 hC dX1_readPart_82 (by decide) ?_
              exact V.sub [3, 4, 5, 1, 6, 0] rfl (ih (appS x ((lvS (lkS ρ) (sgS (lkS ρ) (nI u) 1) 2) (x.2.1 + 1)) (lkS ρ x.2.1)) (i + 1) f76_0 i76_1 i68_2 (by omega) (hg.app hok hgy (rk_op hrk (by omega)).1) (CO_app hx hok hu68_0 (cd_op1 (rk_op hrk (by omega)).1).symm hu76_0 (fun q => by have := hgy.2.2 q; have := hgy.2.1; omega)) (hv.trans (lp_yes ⟨hok, hrk⟩)))
    exact V.sub [3, 4, 5, 2, 1, 0] rfl (loop_25 1 ((lvS (lkS ρ) (sgS (lkS ρ) (nI u) 1) 2) p) 0 f5_0 i5_1 i5_2 (by omega) ((lv_g (lk_tok (ρ := ρ)) (sg_g (u := nI u) (lk_tok (ρ := ρ)) 1) 2) p (by omega)) hu5_0 rfl)
set_option maxHeartbeats 4000000 in
set_option maxRecDepth 100000 in
theorem c_X1_side_2_4 {l : Launch} {D : va_G} {k : Nat → ClassId} {g a : Nat → Nat} (σ ν : St) (ρ : Rw) (u L p : Nat) (hT : RT σ ρ) (hI : Inv ρ) (hu2 : u < 2) (hP : CIn (nN (ρ 5)) (ν 71 0) (ν 72 0) (ν 73 0) u L p) : Ct l D k g yX1_readSide cX1_readSide 3 (some .boolean) 23 542 [.ref (a 3), .int 2, .int 4] (S := Rw × Int32 × Int32) (wX k g a σ ν) (fun uu => wX k g a σ (va_up (va_up (va_up ν 70 uu.1) 71 (fun _ => uu.2.1)) 72 (fun _ => uu.2.2))) (fun vv uu => vv = some (.int (bI (((lvS (lkS ρ) (sgS (lkS ρ) (nI u) 1) 3) p).1 = true))) ∧ COut (ν 70) L ((lvS (lkS ρ) (sgS (lkS ρ) (nI u) 1) 3) p) uu.1 uu.2.1 uu.2.2) := by
  refine Ct.ofI RX1 rfl (by decide +kernel) (Nat.le_of_ble_eq_true rfl) (fun X hC hR => ?_)
  have hb60 := hI.bb; have hle := hP.2.2.2
  show V X (wX k g a σ ν) [(0, .ref (a 3)), (1, .int 2), (2, .int 4)] [] 0
  refine V.iload_n (pc := 0) 1 hC dX1_readSide_0 rfl ?_
  refine V.iconst (pc := 1) 5 hC dX1_readSide_1 (by decide) ?_
  refine V.icmp_ge (pc := 2) 14 hC dX1_readSide_2 (by decide) (fun c_2 => ?_) (fun c_2 => ?_)
  · have nc_2 : 5 ≤ 2 := (nle (nl 5) (nl 2) (by omega) (by omega)).mp c_2
    exact absurd c_2 (by decide)
  · have nc_2 : ¬ (5 ≤ 2) := fun z => c_2 ((nle (nl 5) (nl 2) (by omega) (by omega)).mpr z)
    refine V.aload_n (pc := 5) 0 hC dX1_readSide_5 rfl ?_
    refine V.iload_n (pc := 6) 1 hC dX1_readSide_6 rfl ?_
    refine V.iload_n (pc := 7) 2 hC dX1_readSide_7 rfl ?_
    refine V.callV0 (pc := 8) (as := [.int 2, .int 4]) hC (c_X1_part_2_4 σ ν ρ u L p hT hI hu2 hP) mu_X1_readPart ml_X1_36 (by decide) ⟨3, 1, TX1, 5, _, rfl, gx_3⟩ rfl (Nat.le_of_ble_eq_true rfl) dX1_readSide_8 ?_
    rintro _ ⟨f8_0, i8_1, i8_2⟩ ⟨rfl, hu8_0⟩
    have hu8_0 : COut (ν 70) L ((lvS (lkS ρ) (sgS (lkS ρ) (nI u) 1) 3) p) f8_0 i8_1 i8_2 := hu8_0
    show V X (wX k g a σ (va_up (va_up (va_up ν 70 f8_0) 71 (fun _ => i8_1)) 72 (fun _ => i8_2))) [(0, .ref (a 3)), (1, .int 2), (2, .int 4)] [.int (bI (((lvS (lkS ρ) (sgS (lkS ρ) (nI u) 1) 3) p).1 = true))] 11
    refine V.goto (pc := 11) 19 hC dX1_readSide_11 (by decide) ?_
    exact hR (bI (((lvS (lkS ρ) (sgS (lkS ρ) (nI u) 1) 3) p).1 = true)) (f8_0, i8_1, i8_2) _ _ dX1_readSide_19 (by first | rfl | exact bI_n _) ⟨rfl, hu8_0⟩
set_option maxHeartbeats 4000000 in
set_option maxRecDepth 100000 in
theorem c_X1_part_1_4 {l : Launch} {D : va_G} {k : Nat → ClassId} {g a : Nat → Nat} (σ ν : St) (ρ : Rw) (u L p : Nat) (hT : RT σ ρ) (hI : Inv ρ) (hu2 : u < 2) (hP : CIn (nN (ρ 5)) (ν 71 0) (ν 72 0) (ν 73 0) u L p) : Ct l D k g yX1_readPart cX1_readPart 7 (some .boolean) 24 564 [.ref (a 3), .int 1, .int 4] (S := Rw × Int32 × Int32) (wX k g a σ ν) (fun uu => wX k g a σ (va_up (va_up (va_up ν 70 uu.1) 71 (fun _ => uu.2.1)) 72 (fun _ => uu.2.2))) (fun vv uu => vv = some (.int (bI (((lvS (lkS ρ) (sgS (lkS ρ) (nI u) 1) 4) p).1 = true))) ∧ COut (ν 70) L ((lvS (lkS ρ) (sgS (lkS ρ) (nI u) 1) 4) p) uu.1 uu.2.1 uu.2.2) := by
  refine Ct.ofI RX1 rfl (by decide +kernel) (Nat.le_of_ble_eq_true rfl) (fun X hC hR => ?_)
  have hb60 := hI.bb; have hle := hP.2.2.2
  show V X (wX k g a σ ν) [(0, .ref (a 3)), (1, .int 1), (2, .int 4)] [] 0
  refine V.aload_n (pc := 0) 0 hC dX1_readPart_0 rfl ?_
  refine V.iload_n (pc := 1) 1 hC dX1_readPart_1 rfl ?_
  refine V.iconst (pc := 2) 1 hC dX1_readPart_2 (by decide) ?_
  refine V.iadd (pc := 3) hC dX1_readPart_3 ?_
  refine V.eqi (y := 2) (by decide) ?_
  refine V.iload_n (pc := 4) 2 hC dX1_readPart_4 rfl ?_
  refine V.callV0 (pc := 5) (as := [.int 2, .int 4]) hC (c_X1_side_2_4 σ ν ρ u L p hT hI hu2 hP) mu_X1_readSide ml_X1_49 (by decide) ⟨3, 1, TX1, 5, _, rfl, gx_3⟩ rfl (Nat.le_of_ble_eq_true rfl) dX1_readPart_5 ?_
  rintro _ ⟨f5_0, i5_1, i5_2⟩ ⟨rfl, hu5_0⟩
  have hu5_0 : COut (ν 70) L ((lvS (lkS ρ) (sgS (lkS ρ) (nI u) 1) 3) p) f5_0 i5_1 i5_2 := hu5_0
  show V X (wX k g a σ (va_up (va_up (va_up ν 70 f5_0) 71 (fun _ => i5_1)) 72 (fun _ => i5_2))) [(0, .ref (a 3)), (1, .int 1), (2, .int 4)] [.int (bI (((lvS (lkS ρ) (sgS (lkS ρ) (nI u) 1) 3) p).1 = true))] 8
  refine V.istore_n (pc := 8) [(3, .int (bI (((lvS (lkS ρ) (sgS (lkS ρ) (nI u) 1) 3) p).1 = true))), (0, .ref (a 3)), (1, .int 1), (2, .int 4)] hC dX1_readPart_8 (by decide) rfl ?_
  refine V.iload_n (pc := 9) 2 hC dX1_readPart_9 rfl ?_
  refine V.iconst (pc := 10) 2 hC dX1_readPart_10 (by decide) ?_
  refine V.icmp_ne (pc := 11) 18 hC dX1_readPart_11 (by decide) (fun c_11 => ?_) (fun c_11 => ?_)
  · have nc_11 : ¬ (1 = 2) := fun z => c_11 ((neq (nl 1) (nl 2) (by omega) (by omega)).mpr z)
    refine V.bipush (pc := 18) 60 hC dX1_readPart_18 (by decide) ?_
    refine V.istore (pc := 20) [(4, .int 60), (3, .int (bI (((lvS (lkS ρ) (sgS (lkS ρ) (nI u) 1) 3) p).1 = true))), (0, .ref (a 3)), (1, .int 1), (2, .int 4)] hC dX1_readPart_20 (by decide) rfl ?_
    refine V.iconst (pc := 22) 0 hC dX1_readPart_22 (by decide) ?_
    refine V.istore (pc := 23) [(5, .int 0), (4, .int 60), (3, .int (bI (((lvS (lkS ρ) (sgS (lkS ρ) (nI u) 1) 3) p).1 = true))), (0, .ref (a 3)), (1, .int 1), (2, .int 4)] hC dX1_readPart_23 (by decide) rfl ?_
    have loop_25 : ∀ (n : Nat) (x : Res) (i : Nat) (f70 : Rw) (i71 i72 : Int32), i + n = 60 → GR (nN (ρ 5)) p x → COut (ν 70) L x f70 i71 i72 → (lvS (lkS ρ) (sgS (lkS ρ) (nI u) 1) 4) p = lpS (lkS ρ) (lvS (lkS ρ) (sgS (lkS ρ) (nI u) 1) 3) 1 n x → V X (wX k g a σ (va_up (va_up (va_up ν 70 f70) 71 (fun _ => i71)) 72 (fun _ => i72))) [(0, .ref (a 3)), (1, .int 1), (2, .int 4), (3, .int (bI (x.1 = true))), (4, .int 60), (5, .int (nI i))] [] 25 := by
      intro n
      induction n with
      | zero =>
        intro x i f70 i71 i72 hi hg hx hv
        have hxb := hg.2.1
        refine V.iload (pc := 25) 5 hC dX1_readPart_25 rfl ?_
        refine V.iload (pc := 27) 4 hC dX1_readPart_27 rfl ?_
        refine V.icmp_ge (pc := 29) 85 hC dX1_readPart_29 (by decide) (fun c_29 => ?_) (fun c_29 => ?_)
        · have nc_29 : 60 ≤ i := (nle (nl 60) rfl (by omega) (by omega)).mp c_29
          refine V.iload_n (pc := 85) 3 hC dX1_readPart_85 rfl ?_
          exact hR (bI (x.1 = true)) (f70, i71, i72) _ _ dX1_readPart_86 (by first | rfl | exact bI_n _) ⟨by rw [show (lvS (lkS ρ) (sgS (lkS ρ) (nI u) 1) 4) p = x from hv], by rw [show (lvS (lkS ρ) (sgS (lkS ρ) (nI u) 1) 4) p = x from hv]; exact hx⟩
        · have nc_29 : ¬ (60 ≤ i) := fun z => c_29 ((nle (nl 60) rfl (by omega) (by omega)).mpr z)
          exfalso; omega
      | succ n ih =>
        intro x i f70 i71 i72 hi hg hx hv
        have hxb := hg.2.1
        refine V.iload (pc := 25) 5 hC dX1_readPart_25 rfl ?_
        refine V.iload (pc := 27) 4 hC dX1_readPart_27 rfl ?_
        refine V.icmp_ge (pc := 29) 85 hC dX1_readPart_29 (by decide) (fun c_29 => ?_) (fun c_29 => ?_)
        · have nc_29 : 60 ≤ i := (nle (nl 60) rfl (by omega) (by omega)).mp c_29
          exfalso; omega
        · have nc_29 : ¬ (60 ≤ i) := fun z => c_29 ((nle (nl 60) rfl (by omega) (by omega)).mpr z)
          refine V.iload_n (pc := 32) 3 hC dX1_readPart_32 rfl ?_
          refine V.if_eq_b (P := x.1 = true) (pc := 33) 85 hC dX1_readPart_33 (by decide) (fun c_33 => ?_) (fun c_33 => ?_)
          · refine V.iload_n (pc := 85) 3 hC dX1_readPart_85 rfl ?_
            exact hR (bI (x.1 = true)) (f70, i71, i72) _ _ dX1_readPart_86 (by first | rfl | exact bI_n _) ⟨by rw [show (lvS (lkS ρ) (sgS (lkS ρ) (nI u) 1) 4) p = x from hv.trans (lp_no (fun q => c_33 q.1))], by rw [show (lvS (lkS ρ) (sgS (lkS ρ) (nI u) 1) 4) p = x from hv.trans (lp_no (fun q => c_33 q.1))]; exact hx⟩
          · refine V.aload_n (pc := 36) 0 hC dX1_readPart_36 rfl ?_
            refine V.callV0 (pc := 37) (as := []) hC (c_X1_next σ (va_up (va_up (va_up ν 70 f70) 71 (fun _ => i71)) 72 (fun _ => i72)) ρ x.2.1 hT hI hx.1 (by omega)) mu_X1_next ml_X1_52 (by decide) ⟨3, 1, TX1, 5, _, rfl, gx_3⟩ rfl (Nat.le_of_ble_eq_true rfl) dX1_readPart_37 ?_
            rintro _ _ rfl
            show V X (wX k g a σ (va_up (va_up (va_up ν 70 f70) 71 (fun _ => i71)) 72 (fun _ => i72))) [(0, .ref (a 3)), (1, .int 1), (2, .int 4), (3, .int (bI (x.1 = true))), (4, .int 60), (5, .int (nI i))] [.int (lkS ρ x.2.1)] 40
            refine V.callS0 (pc := 40) (as := [.int (lkS ρ x.2.1)]) hC (c_X1_rankOf (lkS ρ x.2.1) ) ms_X1_rankOf ml_X1_56 (by decide) rfl (Nat.le_of_ble_eq_true rfl) dX1_readPart_40 ?_
            rintro _ _ rfl
            show V X (wX k g a σ (va_up (va_up (va_up ν 70 f70) 71 (fun _ => i71)) 72 (fun _ => i72))) [(0, .ref (a 3)), (1, .int 1), (2, .int 4), (3, .int (bI (x.1 = true))), (4, .int 60), (5, .int (nI i))] [.int (nI (rkS (lkS ρ x.2.1)))] 43
            refine V.iload_n (pc := 43) 1 hC dX1_readPart_43 rfl ?_
            refine V.icmp_ne (pc := 44) 85 hC dX1_readPart_44 (by decide) (fun c_44 => ?_) (fun c_44 => ?_)
            · refine V.iload_n (pc := 85) 3 hC dX1_readPart_85 rfl ?_
              exact hR (bI (x.1 = true)) (f70, i71, i72) _ _ dX1_readPart_86 (by first | rfl | exact bI_n _) ⟨by rw [show (lvS (lkS ρ) (sgS (lkS ρ) (nI u) 1) 4) p = x from hv.trans (lp_no (fun q => c_44 ((rk_e (r := 1) (by omega)).mpr q.2)))], by rw [show (lvS (lkS ρ) (sgS (lkS ρ) (nI u) 1) 4) p = x from hv.trans (lp_no (fun q => c_44 ((rk_e (r := 1) (by omega)).mpr q.2)))]; exact hx⟩
            · have hok := c_33
              have hgx := hg.2.2 hok
              have hrk : rkS (lkS ρ x.2.1) = 1 := (rk_e (r := 1) (by omega)).mp c_44
              have hlt : x.2.1 < nN (ρ 5) := tok_lt lk_tok (rk_op hrk (by omega)).2
              have hgy := (lv_g (lk_tok (ρ := ρ)) (sg_g (u := nI u) (lk_tok (ρ := ρ)) 1) 3) (x.2.1 + 1) hlt
              refine V.aload_n (pc := 47) 0 hC dX1_readPart_47 rfl ?_
              refine V.callV0 (pc := 48) (as := []) hC (c_X1_next σ (va_up (va_up (va_up ν 70 f70) 71 (fun _ => i71)) 72 (fun _ => i72)) ρ x.2.1 hT hI hx.1 (by omega)) mu_X1_next ml_X1_52 (by decide) ⟨3, 1, TX1, 5, _, rfl, gx_3⟩ rfl (Nat.le_of_ble_eq_true rfl) dX1_readPart_48 ?_
              rintro _ _ rfl
              show V X (wX k g a σ (va_up (va_up (va_up ν 70 f70) 71 (fun _ => i71)) 72 (fun _ => i72))) [(0, .ref (a 3)), (1, .int 1), (2, .int 4), (3, .int (bI (x.1 = true))), (4, .int 60), (5, .int (nI i))] [.int (lkS ρ x.2.1)] 51
              refine V.istore (pc := 51) [(6, .int (lkS ρ x.2.1)), (0, .ref (a 3)), (1, .int 1), (2, .int 4), (3, .int (bI (x.1 = true))), (4, .int 60), (5, .int (nI i))] hC dX1_readPart_51 (by decide) rfl ?_
              refine V.aload_n (pc := 53) 1 hC dX1_readPart_53 rfl ?_
              refine V.dup (pc := 54) hC dX1_readPart_54 rfl ?_
              refine V.get (pc := 55) (v := .int i72) hC cf_X1 3 3 fl_X1_29 (by decide) gx_3 rfl dX1_readPart_55 ?_
              refine V.iconst (pc := 58) 1 hC dX1_readPart_58 (by decide) ?_
              refine V.iadd (pc := 59) hC dX1_readPart_59 ?_
              refine V.put (pc := 60) (v := .int (i72 + 1)) hC cf_X1 3 3 (wX k g a σ (va_up (va_up (va_up ν 70 f70) 71 (fun _ => i71)) 72 (fun _ => i72 + 1))) fl_X1_29 (by decide) gx_3 rfl rfl rfl (Nat.le_of_ble_eq_true rfl) rfl dX1_readPart_60 ?_
              refine V.aload_n (pc := 63) 1 hC dX1_readPart_63 rfl ?_
              refine V.iload_n (pc := 64) 2 hC dX1_readPart_64 rfl ?_
              refine V.iconst (pc := 65) 1 hC dX1_readPart_65 (by decide) ?_
              refine V.iadd (pc := 66) hC dX1_readPart_66 ?_
              refine V.eqi (y := 2) (by decide) ?_
              refine V.iload_n (pc := 67) 3 hC dX1_readPart_67 rfl ?_
              refine V.callV0 (pc := 68) (as := [.int 2, .int 4]) hC (c_X1_side_2_4 σ (va_up (va_up (va_up ν 70 f70) 71 (fun _ => i71)) 72 (fun _ => i72 + 1)) ρ u (L + x.2.2.length) (x.2.1 + 1) hT hI hu2 ⟨hP.1, (hx.2.2 hok).1, nadd hx.1 (nl 1), by omega, hlt⟩) mu_X1_readSide ml_X1_49 (by decide) ⟨3, 1, TX1, 5, _, rfl, gx_3⟩ rfl (Nat.le_of_ble_eq_true rfl) dX1_readPart_68 ?_
              rintro _ ⟨f68_0, i68_1, i68_2⟩ ⟨rfl, hu68_0⟩
              have hu68_0 : COut (f70) (L + x.2.2.length) ((lvS (lkS ρ) (sgS (lkS ρ) (nI u) 1) 3) (x.2.1 + 1)) f68_0 i68_1 i68_2 := hu68_0
              show V X (wX k g a σ (va_up (va_up (va_up ν 70 f68_0) 71 (fun _ => i68_1)) 72 (fun _ => i68_2))) [(6, .int (lkS ρ x.2.1)), (0, .ref (a 3)), (1, .int 1), (2, .int 4), (3, .int (bI (x.1 = true))), (4, .int 60), (5, .int (nI i))] [.int (bI (((lvS (lkS ρ) (sgS (lkS ρ) (nI u) 1) 3) (x.2.1 + 1)).1 = true))] 71
              refine V.istore_n (pc := 71) [(3, .int (bI (((lvS (lkS ρ) (sgS (lkS ρ) (nI u) 1) 3) (x.2.1 + 1)).1 = true))), (6, .int (lkS ρ x.2.1)), (0, .ref (a 3)), (1, .int 1), (2, .int 4), (4, .int 60), (5, .int (nI i))] hC dX1_readPart_71 (by decide) rfl ?_
              refine V.aload_n (pc := 72) 2 hC dX1_readPart_72 rfl ?_
              refine V.iload (pc := 73) 1 hC dX1_readPart_73 rfl ?_
              refine V.ineg (pc := 75) hC dX1_readPart_75 ?_
              refine V.callV0 (pc := 76) (as := [.int (-(lkS ρ x.2.1))]) hC (c_X1_write σ (va_up (va_up (va_up ν 70 f68_0) 71 (fun _ => i68_1)) 72 (fun _ => i68_2)) (-(lkS ρ x.2.1)) hu68_0.2.1) mu_X1_write ml_X1_60 (by decide) ⟨3, 1, TX1, 5, _, rfl, gx_3⟩ rfl (Nat.le_of_ble_eq_true rfl) dX1_readPart_76 ?_
              rintro _ ⟨f76_0, i76_1⟩ ⟨rfl, hu76_0⟩
              have hu76_0 : WtF (f68_0) (i68_1) (-(lkS ρ x.2.1)) f76_0 i76_1 := hu76_0
              show V X (wX k g a σ (va_up (va_up (va_up ν 70 f76_0) 71 (fun _ => i76_1)) 72 (fun _ => i68_2))) [(3, .int (bI (((lvS (lkS ρ) (sgS (lkS ρ) (nI u) 1) 3) (x.2.1 + 1)).1 = true))), (6, .int (lkS ρ x.2.1)), (0, .ref (a 3)), (1, .int 1), (2, .int 4), (4, .int 60), (5, .int (nI i))] [] 79
              refine V.iinc (pc := 79) 6 (nI (i + 1)) [(5, .int (nI (i + 1))), (3, .int (bI (((lvS (lkS ρ) (sgS (lkS ρ) (nI u) 1) 3) (x.2.1 + 1)).1 = true))), (6, .int (lkS ρ x.2.1)), (0, .ref (a 3)), (1, .int 1), (2, .int 4), (4, .int 60)] hC dX1_readPart_79 rfl (ncast (nadd rfl (nl 1)) (by omega)) (by decide) rfl ?_
              refine V.goto (pc := 82) 25 hC dX1_readPart_82 (by decide) ?_
              exact V.sub [3, 4, 5, 1, 6, 0] rfl (ih (appS x ((lvS (lkS ρ) (sgS (lkS ρ) (nI u) 1) 3) (x.2.1 + 1)) (lkS ρ x.2.1)) (i + 1) f76_0 i76_1 i68_2 (by omega) (hg.app hok hgy (rk_op hrk (by omega)).1) (CO_app hx hok hu68_0 (cd_op1 (rk_op hrk (by omega)).1).symm hu76_0 (fun q => by have := hgy.2.2 q; have := hgy.2.1; omega)) (hv.trans (lp_yes ⟨hok, hrk⟩)))
    exact V.sub [3, 4, 5, 2, 1, 0] rfl (loop_25 60 ((lvS (lkS ρ) (sgS (lkS ρ) (nI u) 1) 3) p) 0 f5_0 i5_1 i5_2 (by omega) ((lv_g (lk_tok (ρ := ρ)) (sg_g (u := nI u) (lk_tok (ρ := ρ)) 1) 3) p (by omega)) hu5_0 rfl)
  · have nc_11 : 1 = 2 := (neq (nl 1) (nl 2) (by omega) (by omega)).mp c_11
    exact absurd c_11 (by decide)
set_option maxHeartbeats 4000000 in
set_option maxRecDepth 100000 in
theorem c_X1_side_1_4 {l : Launch} {D : va_G} {k : Nat → ClassId} {g a : Nat → Nat} (σ ν : St) (ρ : Rw) (u L p : Nat) (hT : RT σ ρ) (hI : Inv ρ) (hu2 : u < 2) (hP : CIn (nN (ρ 5)) (ν 71 0) (ν 72 0) (ν 73 0) u L p) : Ct l D k g yX1_readSide cX1_readSide 3 (some .boolean) 25 590 [.ref (a 3), .int 1, .int 4] (S := Rw × Int32 × Int32) (wX k g a σ ν) (fun uu => wX k g a σ (va_up (va_up (va_up ν 70 uu.1) 71 (fun _ => uu.2.1)) 72 (fun _ => uu.2.2))) (fun vv uu => vv = some (.int (bI (((lvS (lkS ρ) (sgS (lkS ρ) (nI u) 1) 4) p).1 = true))) ∧ COut (ν 70) L ((lvS (lkS ρ) (sgS (lkS ρ) (nI u) 1) 4) p) uu.1 uu.2.1 uu.2.2) := by
  refine Ct.ofI RX1 rfl (by decide +kernel) (Nat.le_of_ble_eq_true rfl) (fun X hC hR => ?_)
  have hb60 := hI.bb; have hle := hP.2.2.2
  show V X (wX k g a σ ν) [(0, .ref (a 3)), (1, .int 1), (2, .int 4)] [] 0
  refine V.iload_n (pc := 0) 1 hC dX1_readSide_0 rfl ?_
  refine V.iconst (pc := 1) 5 hC dX1_readSide_1 (by decide) ?_
  refine V.icmp_ge (pc := 2) 14 hC dX1_readSide_2 (by decide) (fun c_2 => ?_) (fun c_2 => ?_)
  · have nc_2 : 5 ≤ 1 := (nle (nl 5) (nl 1) (by omega) (by omega)).mp c_2
    exact absurd c_2 (by decide)
  · have nc_2 : ¬ (5 ≤ 1) := fun z => c_2 ((nle (nl 5) (nl 1) (by omega) (by omega)).mpr z)
    refine V.aload_n (pc := 5) 0 hC dX1_readSide_5 rfl ?_
    refine V.iload_n (pc := 6) 1 hC dX1_readSide_6 rfl ?_
    refine V.iload_n (pc := 7) 2 hC dX1_readSide_7 rfl ?_
    refine V.callV0 (pc := 8) (as := [.int 1, .int 4]) hC (c_X1_part_1_4 σ ν ρ u L p hT hI hu2 hP) mu_X1_readPart ml_X1_36 (by decide) ⟨3, 1, TX1, 5, _, rfl, gx_3⟩ rfl (Nat.le_of_ble_eq_true rfl) dX1_readSide_8 ?_
    rintro _ ⟨f8_0, i8_1, i8_2⟩ ⟨rfl, hu8_0⟩
    have hu8_0 : COut (ν 70) L ((lvS (lkS ρ) (sgS (lkS ρ) (nI u) 1) 4) p) f8_0 i8_1 i8_2 := hu8_0
    show V X (wX k g a σ (va_up (va_up (va_up ν 70 f8_0) 71 (fun _ => i8_1)) 72 (fun _ => i8_2))) [(0, .ref (a 3)), (1, .int 1), (2, .int 4)] [.int (bI (((lvS (lkS ρ) (sgS (lkS ρ) (nI u) 1) 4) p).1 = true))] 11
    refine V.goto (pc := 11) 19 hC dX1_readSide_11 (by decide) ?_
    exact hR (bI (((lvS (lkS ρ) (sgS (lkS ρ) (nI u) 1) 4) p).1 = true)) (f8_0, i8_1, i8_2) _ _ dX1_readSide_19 (by first | rfl | exact bI_n _) ⟨rfl, hu8_0⟩
set_option maxHeartbeats 4000000 in
set_option maxRecDepth 100000 in
theorem c_X1_part_0_4 {l : Launch} {D : va_G} {k : Nat → ClassId} {g a : Nat → Nat} (σ ν : St) (ρ : Rw) (u L p : Nat) (hT : RT σ ρ) (hI : Inv ρ) (hu2 : u < 2) (hP : CIn (nN (ρ 5)) (ν 71 0) (ν 72 0) (ν 73 0) u L p) : Ct l D k g yX1_readPart cX1_readPart 7 (some .boolean) 26 612 [.ref (a 3), .int 0, .int 4] (S := Rw × Int32 × Int32) (wX k g a σ ν) (fun uu => wX k g a σ (va_up (va_up (va_up ν 70 uu.1) 71 (fun _ => uu.2.1)) 72 (fun _ => uu.2.2))) (fun vv uu => vv = some (.int (bI (((lvS (lkS ρ) (sgS (lkS ρ) (nI u) 1) 5) p).1 = true))) ∧ COut (ν 70) L ((lvS (lkS ρ) (sgS (lkS ρ) (nI u) 1) 5) p) uu.1 uu.2.1 uu.2.2) := by
  refine Ct.ofI RX1 rfl (by decide +kernel) (Nat.le_of_ble_eq_true rfl) (fun X hC hR => ?_)
  have hb60 := hI.bb; have hle := hP.2.2.2
  show V X (wX k g a σ ν) [(0, .ref (a 3)), (1, .int 0), (2, .int 4)] [] 0
  refine V.aload_n (pc := 0) 0 hC dX1_readPart_0 rfl ?_
  refine V.iload_n (pc := 1) 1 hC dX1_readPart_1 rfl ?_
  refine V.iconst (pc := 2) 1 hC dX1_readPart_2 (by decide) ?_
  refine V.iadd (pc := 3) hC dX1_readPart_3 ?_
  refine V.eqi (y := 1) (by decide) ?_
  refine V.iload_n (pc := 4) 2 hC dX1_readPart_4 rfl ?_
  refine V.callV0 (pc := 5) (as := [.int 1, .int 4]) hC (c_X1_side_1_4 σ ν ρ u L p hT hI hu2 hP) mu_X1_readSide ml_X1_49 (by decide) ⟨3, 1, TX1, 5, _, rfl, gx_3⟩ rfl (Nat.le_of_ble_eq_true rfl) dX1_readPart_5 ?_
  rintro _ ⟨f5_0, i5_1, i5_2⟩ ⟨rfl, hu5_0⟩
  have hu5_0 : COut (ν 70) L ((lvS (lkS ρ) (sgS (lkS ρ) (nI u) 1) 4) p) f5_0 i5_1 i5_2 := hu5_0
  show V X (wX k g a σ (va_up (va_up (va_up ν 70 f5_0) 71 (fun _ => i5_1)) 72 (fun _ => i5_2))) [(0, .ref (a 3)), (1, .int 0), (2, .int 4)] [.int (bI (((lvS (lkS ρ) (sgS (lkS ρ) (nI u) 1) 4) p).1 = true))] 8
  refine V.istore_n (pc := 8) [(3, .int (bI (((lvS (lkS ρ) (sgS (lkS ρ) (nI u) 1) 4) p).1 = true))), (0, .ref (a 3)), (1, .int 0), (2, .int 4)] hC dX1_readPart_8 (by decide) rfl ?_
  refine V.iload_n (pc := 9) 2 hC dX1_readPart_9 rfl ?_
  refine V.iconst (pc := 10) 2 hC dX1_readPart_10 (by decide) ?_
  refine V.icmp_ne (pc := 11) 18 hC dX1_readPart_11 (by decide) (fun c_11 => ?_) (fun c_11 => ?_)
  · have nc_11 : ¬ (0 = 2) := fun z => c_11 ((neq (nl 0) (nl 2) (by omega) (by omega)).mpr z)
    refine V.bipush (pc := 18) 60 hC dX1_readPart_18 (by decide) ?_
    refine V.istore (pc := 20) [(4, .int 60), (3, .int (bI (((lvS (lkS ρ) (sgS (lkS ρ) (nI u) 1) 4) p).1 = true))), (0, .ref (a 3)), (1, .int 0), (2, .int 4)] hC dX1_readPart_20 (by decide) rfl ?_
    refine V.iconst (pc := 22) 0 hC dX1_readPart_22 (by decide) ?_
    refine V.istore (pc := 23) [(5, .int 0), (4, .int 60), (3, .int (bI (((lvS (lkS ρ) (sgS (lkS ρ) (nI u) 1) 4) p).1 = true))), (0, .ref (a 3)), (1, .int 0), (2, .int 4)] hC dX1_readPart_23 (by decide) rfl ?_
    have loop_25 : ∀ (n : Nat) (x : Res) (i : Nat) (f70 : Rw) (i71 i72 : Int32), i + n = 60 → GR (nN (ρ 5)) p x → COut (ν 70) L x f70 i71 i72 → (lvS (lkS ρ) (sgS (lkS ρ) (nI u) 1) 5) p = lpS (lkS ρ) (lvS (lkS ρ) (sgS (lkS ρ) (nI u) 1) 4) 0 n x → V X (wX k g a σ (va_up (va_up (va_up ν 70 f70) 71 (fun _ => i71)) 72 (fun _ => i72))) [(0, .ref (a 3)), (1, .int 0), (2, .int 4), (3, .int (bI (x.1 = true))), (4, .int 60), (5, .int (nI i))] [] 25 := by
      intro n
      induction n with
      | zero =>
        intro x i f70 i71 i72 hi hg hx hv
        have hxb := hg.2.1
        refine V.iload (pc := 25) 5 hC dX1_readPart_25 rfl ?_
        refine V.iload (pc := 27) 4 hC dX1_readPart_27 rfl ?_
        refine V.icmp_ge (pc := 29) 85 hC dX1_readPart_29 (by decide) (fun c_29 => ?_) (fun c_29 => ?_)
        · have nc_29 : 60 ≤ i := (nle (nl 60) rfl (by omega) (by omega)).mp c_29
          refine V.iload_n (pc := 85) 3 hC dX1_readPart_85 rfl ?_
          exact hR (bI (x.1 = true)) (f70, i71, i72) _ _ dX1_readPart_86 (by first | rfl | exact bI_n _) ⟨by rw [show (lvS (lkS ρ) (sgS (lkS ρ) (nI u) 1) 5) p = x from hv], by rw [show (lvS (lkS ρ) (sgS (lkS ρ) (nI u) 1) 5) p = x from hv]; exact hx⟩
        · have nc_29 : ¬ (60 ≤ i) := fun z => c_29 ((nle (nl 60) rfl (by omega) (by omega)).mpr z)
          exfalso; omega
      | succ n ih =>
        intro x i f70 i71 i72 hi hg hx hv
        have hxb := hg.2.1
        refine V.iload (pc := 25) 5 hC dX1_readPart_25 rfl ?_
        refine V.iload (pc := 27) 4 hC dX1_readPart_27 rfl ?_
        refine V.icmp_ge (pc := 29) 85 hC dX1_readPart_29 (by decide) (fun c_29 => ?_) (fun c_29 => ?_)
        · have nc_29 : 60 ≤ i := (nle (nl 60) rfl (by omega) (by omega)).mp c_29
          exfalso; omega
        · have nc_29 : ¬ (60 ≤ i) := fun z => c_29 ((nle (nl 60) rfl (by omega) (by omega)).mpr z)
          refine V.iload_n (pc := 32) 3 hC dX1_readPart_32 rfl ?_
          refine V.if_eq_b (P := x.1 = true) (pc := 33) 85 hC dX1_readPart_33 (by decide) (fun c_33 => ?_) (fun c_33 => ?_)
          · refine V.iload_n (pc := 85) 3 hC dX1_readPart_85 rfl ?_
            exact hR (bI (x.1 = true)) (f70, i71, i72) _ _ dX1_readPart_86 (by first | rfl | exact bI_n _) ⟨by rw [show (lvS (lkS ρ) (sgS (lkS ρ) (nI u) 1) 5) p = x from hv.trans (lp_no (fun q => c_33 q.1))], by rw [show (lvS (lkS ρ) (sgS (lkS ρ) (nI u) 1) 5) p = x from hv.trans (lp_no (fun q => c_33 q.1))]; exact hx⟩
          · refine V.aload_n (pc := 36) 0 hC dX1_readPart_36 rfl ?_
            refine V.callV0 (pc := 37) (as := []) hC (c_X1_next σ (va_up (va_up (va_up ν 70 f70) 71 (fun _ => i71)) 72 (fun _ => i72)) ρ x.2.1 hT hI hx.1 (by omega)) mu_X1_next ml_X1_52 (by decide) ⟨3, 1, TX1, 5, _, rfl, gx_3⟩ rfl (Nat.le_of_ble_eq_true rfl) dX1_readPart_37 ?_
            rintro _ _ rfl
            show V X (wX k g a σ (va_up (va_up (va_up ν 70 f70) 71 (fun _ => i71)) 72 (fun _ => i72))) [(0, .ref (a 3)), (1, .int 0), (2, .int 4), (3, .int (bI (x.1 = true))), (4, .int 60), (5, .int (nI i))] [.int (lkS ρ x.2.1)] 40
            refine V.callS0 (pc := 40) (as := [.int (lkS ρ x.2.1)]) hC (c_X1_rankOf (lkS ρ x.2.1) ) ms_X1_rankOf ml_X1_56 (by decide) rfl (Nat.le_of_ble_eq_true rfl) dX1_readPart_40 ?_
            rintro _ _ rfl
            show V X (wX k g a σ (va_up (va_up (va_up ν 70 f70) 71 (fun _ => i71)) 72 (fun _ => i72))) [(0, .ref (a 3)), (1, .int 0), (2, .int 4), (3, .int (bI (x.1 = true))), (4, .int 60), (5, .int (nI i))] [.int (nI (rkS (lkS ρ x.2.1)))] 43
            refine V.iload_n (pc := 43) 1 hC dX1_readPart_43 rfl ?_
            refine V.icmp_ne (pc := 44) 85 hC dX1_readPart_44 (by decide) (fun c_44 => ?_) (fun c_44 => ?_)
            · refine V.iload_n (pc := 85) 3 hC dX1_readPart_85 rfl ?_
              exact hR (bI (x.1 = true)) (f70, i71, i72) _ _ dX1_readPart_86 (by first | rfl | exact bI_n _) ⟨by rw [show (lvS (lkS ρ) (sgS (lkS ρ) (nI u) 1) 5) p = x from hv.trans (lp_no (fun q => c_44 ((rk_e (r := 0) (by omega)).mpr q.2)))], by rw [show (lvS (lkS ρ) (sgS (lkS ρ) (nI u) 1) 5) p = x from hv.trans (lp_no (fun q => c_44 ((rk_e (r := 0) (by omega)).mpr q.2)))]; exact hx⟩
            · have hok := c_33
              have hgx := hg.2.2 hok
              have hrk : rkS (lkS ρ x.2.1) = 0 := (rk_e (r := 0) (by omega)).mp c_44
              have hlt : x.2.1 < nN (ρ 5) := tok_lt lk_tok (rk_op hrk (by omega)).2
              have hgy := (lv_g (lk_tok (ρ := ρ)) (sg_g (u := nI u) (lk_tok (ρ := ρ)) 1) 4) (x.2.1 + 1) hlt
              refine V.aload_n (pc := 47) 0 hC dX1_readPart_47 rfl ?_
              refine V.callV0 (pc := 48) (as := []) hC (c_X1_next σ (va_up (va_up (va_up ν 70 f70) 71 (fun _ => i71)) 72 (fun _ => i72)) ρ x.2.1 hT hI hx.1 (by omega)) mu_X1_next ml_X1_52 (by decide) ⟨3, 1, TX1, 5, _, rfl, gx_3⟩ rfl (Nat.le_of_ble_eq_true rfl) dX1_readPart_48 ?_
              rintro _ _ rfl
              show V X (wX k g a σ (va_up (va_up (va_up ν 70 f70) 71 (fun _ => i71)) 72 (fun _ => i72))) [(0, .ref (a 3)), (1, .int 0), (2, .int 4), (3, .int (bI (x.1 = true))), (4, .int 60), (5, .int (nI i))] [.int (lkS ρ x.2.1)] 51
              refine V.istore (pc := 51) [(6, .int (lkS ρ x.2.1)), (0, .ref (a 3)), (1, .int 0), (2, .int 4), (3, .int (bI (x.1 = true))), (4, .int 60), (5, .int (nI i))] hC dX1_readPart_51 (by decide) rfl ?_
              refine V.aload_n (pc := 53) 1 hC dX1_readPart_53 rfl ?_
              refine V.dup (pc := 54) hC dX1_readPart_54 rfl ?_
              refine V.get (pc := 55) (v := .int i72) hC cf_X1 3 3 fl_X1_29 (by decide) gx_3 rfl dX1_readPart_55 ?_
              refine V.iconst (pc := 58) 1 hC dX1_readPart_58 (by decide) ?_
              refine V.iadd (pc := 59) hC dX1_readPart_59 ?_
              refine V.put (pc := 60) (v := .int (i72 + 1)) hC cf_X1 3 3 (wX k g a σ (va_up (va_up (va_up ν 70 f70) 71 (fun _ => i71)) 72 (fun _ => i72 + 1))) fl_X1_29 (by decide) gx_3 rfl rfl rfl (Nat.le_of_ble_eq_true rfl) rfl dX1_readPart_60 ?_
              refine V.aload_n (pc := 63) 1 hC dX1_readPart_63 rfl ?_
              refine V.iload_n (pc := 64) 2 hC dX1_readPart_64 rfl ?_
              refine V.iconst (pc := 65) 1 hC dX1_readPart_65 (by decide) ?_
              refine V.iadd (pc := 66) hC dX1_readPart_66 ?_
              refine V.eqi (y := 1) (by decide) ?_
              refine V.iload_n (pc := 67) 3 hC dX1_readPart_67 rfl ?_
              refine V.callV0 (pc := 68) (as := [.int 1, .int 4]) hC (c_X1_side_1_4 σ (va_up (va_up (va_up ν 70 f70) 71 (fun _ => i71)) 72 (fun _ => i72 + 1)) ρ u (L + x.2.2.length) (x.2.1 + 1) hT hI hu2 ⟨hP.1, (hx.2.2 hok).1, nadd hx.1 (nl 1), by omega, hlt⟩) mu_X1_readSide ml_X1_49 (by decide) ⟨3, 1, TX1, 5, _, rfl, gx_3⟩ rfl (Nat.le_of_ble_eq_true rfl) dX1_readPart_68 ?_
              rintro _ ⟨f68_0, i68_1, i68_2⟩ ⟨rfl, hu68_0⟩
              have hu68_0 : COut (f70) (L + x.2.2.length) ((lvS (lkS ρ) (sgS (lkS ρ) (nI u) 1) 4) (x.2.1 + 1)) f68_0 i68_1 i68_2 := hu68_0
              show V X (wX k g a σ (va_up (va_up (va_up ν 70 f68_0) 71 (fun _ => i68_1)) 72 (fun _ => i68_2))) [(6, .int (lkS ρ x.2.1)), (0, .ref (a 3)), (1, .int 0), (2, .int 4), (3, .int (bI (x.1 = true))), (4, .int 60), (5, .int (nI i))] [.int (bI (((lvS (lkS ρ) (sgS (lkS ρ) (nI u) 1) 4) (x.2.1 + 1)).1 = true))] 71
              refine V.istore_n (pc := 71) [(3, .int (bI (((lvS (lkS ρ) (sgS (lkS ρ) (nI u) 1) 4) (x.2.1 + 1)).1 = true))), (6, .int (lkS ρ x.2.1)), (0, .ref (a 3)), (1, .int 0), (2, .int 4), (4, .int 60), (5, .int (nI i))] hC dX1_readPart_71 (by decide) rfl ?_
              refine V.aload_n (pc := 72) 2 hC dX1_readPart_72 rfl ?_
              refine V.iload (pc := 73) 1 hC dX1_readPart_73 rfl ?_
              refine V.ineg (pc := 75) hC dX1_readPart_75 ?_
              refine V.callV0 (pc := 76) (as := [.int (-(lkS ρ x.2.1))]) hC (c_X1_write σ (va_up (va_up (va_up ν 70 f68_0) 71 (fun _ => i68_1)) 72 (fun _ => i68_2)) (-(lkS ρ x.2.1)) hu68_0.2.1) mu_X1_write ml_X1_60 (by decide) ⟨3, 1, TX1, 5, _, rfl, gx_3⟩ rfl (Nat.le_of_ble_eq_true rfl) dX1_readPart_76 ?_
              rintro _ ⟨f76_0, i76_1⟩ ⟨rfl, hu76_0⟩
              have hu76_0 : WtF (f68_0) (i68_1) (-(lkS ρ x.2.1)) f76_0 i76_1 := hu76_0
              show V X (wX k g a σ (va_up (va_up (va_up ν 70 f76_0) 71 (fun _ => i76_1)) 72 (fun _ => i68_2))) [(3, .int (bI (((lvS (lkS ρ) (sgS (lkS ρ) (nI u) 1) 4) (x.2.1 + 1)).1 = true))), (6, .int (lkS ρ x.2.1)), (0, .ref (a 3)), (1, .int 0), (2, .int 4), (4, .int 60), (5, .int (nI i))] [] 79
              refine V.iinc (pc := 79) 6 (nI (i + 1)) [(5, .int (nI (i + 1))), (3, .int (bI (((lvS (lkS ρ) (sgS (lkS ρ) (nI u) 1) 4) (x.2.1 + 1)).1 = true))), (6, .int (lkS ρ x.2.1)), (0, .ref (a 3)), (1, .int 0), (2, .int 4), (4, .int 60)] hC dX1_readPart_79 rfl (ncast (nadd rfl (nl 1)) (by omega)) (by decide) rfl ?_
              refine V.goto (pc := 82) 25 hC dX1_readPart_82 (by decide) ?_
              exact V.sub [3, 4, 5, 1, 6, 0] rfl (ih (appS x ((lvS (lkS ρ) (sgS (lkS ρ) (nI u) 1) 4) (x.2.1 + 1)) (lkS ρ x.2.1)) (i + 1) f76_0 i76_1 i68_2 (by omega) (hg.app hok hgy (rk_op hrk (by omega)).1) (CO_app hx hok hu68_0 (cd_op1 (rk_op hrk (by omega)).1).symm hu76_0 (fun q => by have := hgy.2.2 q; have := hgy.2.1; omega)) (hv.trans (lp_yes ⟨hok, hrk⟩)))
    exact V.sub [3, 4, 5, 2, 1, 0] rfl (loop_25 60 ((lvS (lkS ρ) (sgS (lkS ρ) (nI u) 1) 4) p) 0 f5_0 i5_1 i5_2 (by omega) ((lv_g (lk_tok (ρ := ρ)) (sg_g (u := nI u) (lk_tok (ρ := ρ)) 1) 4) p (by omega)) hu5_0 rfl)
  · have nc_11 : 0 = 2 := (neq (nl 0) (nl 2) (by omega) (by omega)).mp c_11
    exact absurd c_11 (by decide)
set_option maxHeartbeats 4000000 in
set_option maxRecDepth 100000 in
theorem c_X1_not_4 {l : Launch} {D : va_G} {k : Nat → ClassId} {g a : Nat → Nat} (σ ν : St) (ρ : Rw) (u L p : Nat) (hT : RT σ ρ) (hI : Inv ρ) (hu2 : u < 2) (hP : CIn (nN (ρ 5)) (ν 71 0) (ν 72 0) (ν 73 0) u L p) (hLp : L < p) : Ct l D k g yX1_readNot cX1_readNot 3 (some .boolean) 17 398 [.ref (a 3), .int 4] (S := Rw × Int32 × Int32) (wX k g a σ ν) (fun uu => wX k g a σ (va_up (va_up (va_up ν 70 uu.1) 71 (fun _ => uu.2.1)) 72 (fun _ => uu.2.2))) (fun vv uu => vv = some (.int (bI (((sgS (lkS ρ) (nI u) 1) p).1 = true))) ∧ COut (ν 70) L (((sgS (lkS ρ) (nI u) 1) p).1, ((sgS (lkS ρ) (nI u) 1) p).2.1, ((sgS (lkS ρ) (nI u) 1) p).2.2 ++ [(3, 0)]) uu.1 uu.2.1 uu.2.2) := by
  refine Ct.ofI RX1 rfl (by decide +kernel) (Nat.le_of_ble_eq_true rfl) (fun X hC hR => ?_)
  have hb60 := hI.bb; have hle := hP.2.2.2
  show V X (wX k g a σ ν) [(0, .ref (a 3)), (1, .int 4)] [] 0
  refine V.aload_n (pc := 0) 0 hC dX1_readNot_0 rfl ?_
  refine V.iload_n (pc := 1) 1 hC dX1_readNot_1 rfl ?_
  refine V.callV0 (pc := 2) (as := [.int 4]) hC (c_X1_single_4 σ ν ρ u L p hT hI hu2 hP) mu_X1_readSingle ml_X1_64 (by decide) ⟨3, 1, TX1, 5, _, rfl, gx_3⟩ rfl (Nat.le_of_ble_eq_true rfl) dX1_readNot_2 ?_
  rintro _ ⟨f2_0, i2_1, i2_2⟩ ⟨rfl, hu2_0⟩
  have hu2_0 : COut (ν 70) L ((sgS (lkS ρ) (nI u) 1) p) f2_0 i2_1 i2_2 := hu2_0
  show V X (wX k g a σ (va_up (va_up (va_up ν 70 f2_0) 71 (fun _ => i2_1)) 72 (fun _ => i2_2))) [(0, .ref (a 3)), (1, .int 4)] [.int (bI (((sgS (lkS ρ) (nI u) 1) p).1 = true))] 5
  refine V.istore_n (pc := 5) [(2, .int (bI (((sgS (lkS ρ) (nI u) 1) p).1 = true))), (0, .ref (a 3)), (1, .int 4)] hC dX1_readNot_5 (by decide) rfl ?_
  refine V.aload_n (pc := 6) 1 hC dX1_readNot_6 rfl ?_
  refine V.bipush (pc := 7) (-33) hC dX1_readNot_7 (by decide) ?_
  refine V.callV0 (pc := 9) (as := [.int (-33)]) hC (c_X1_write σ (va_up (va_up (va_up ν 70 f2_0) 71 (fun _ => i2_1)) 72 (fun _ => i2_2)) (-33) hu2_0.2.1) mu_X1_write ml_X1_60 (by decide) ⟨3, 1, TX1, 5, _, rfl, gx_3⟩ rfl (Nat.le_of_ble_eq_true rfl) dX1_readNot_9 ?_
  rintro _ ⟨f9_0, i9_1⟩ ⟨rfl, hu9_0⟩
  have hu9_0 : WtF (f2_0) (i2_1) (-33) f9_0 i9_1 := hu9_0
  show V X (wX k g a σ (va_up (va_up (va_up ν 70 f9_0) 71 (fun _ => i9_1)) 72 (fun _ => i2_2))) [(2, .int (bI (((sgS (lkS ρ) (nI u) 1) p).1 = true))), (0, .ref (a 3)), (1, .int 4)] [] 12
  refine V.iload_n (pc := 12) 0 hC dX1_readNot_12 rfl ?_
  exact hR (bI (((sgS (lkS ρ) (nI u) 1) p).1 = true)) (f9_0, i9_1, i2_2) _ _ dX1_readNot_13 (by first | rfl | exact bI_n _) ⟨rfl, CO_add hu2_0 (w := (3, 0)) rfl hu9_0 (fun q => by have := ((sg_g (u := nI u) (lk_tok (ρ := ρ)) 1) p (by omega)).2.2 q; have := ((sg_g (u := nI u) (lk_tok (ρ := ρ)) 1) p (by omega)).2.1; have := hLp; omega)⟩
set_option maxHeartbeats 4000000 in
set_option maxRecDepth 100000 in
theorem c_X1_br_4 {l : Launch} {D : va_G} {k : Nat → ClassId} {g a : Nat → Nat} (σ ν : St) (ρ : Rw) (u L p : Nat) (hT : RT σ ρ) (hI : Inv ρ) (hu2 : u < 2) (hP : CIn (nN (ρ 5)) (ν 71 0) (ν 72 0) (ν 73 0) u L p) : Ct l D k g yX1_readBracket cX1_readBracket 2 (some .boolean) 27 638 [.ref (a 3), .int 4] (S := Rw × Int32 × Int32) (wX k g a σ ν) (fun uu => wX k g a σ (va_up (va_up (va_up ν 70 uu.1) 71 (fun _ => uu.2.1)) 72 (fun _ => uu.2.2))) (fun vv uu => vv = some (.int (bI ((if ((lvS (lkS ρ) (sgS (lkS ρ) (nI u) 1) 5) p).1 = true ∧ lkS ρ ((lvS (lkS ρ) (sgS (lkS ρ) (nI u) 1) 5) p).2.1 = 41 then (true, ((lvS (lkS ρ) (sgS (lkS ρ) (nI u) 1) 5) p).2.1 + 1, ((lvS (lkS ρ) (sgS (lkS ρ) (nI u) 1) 5) p).2.2) else (false, ((lvS (lkS ρ) (sgS (lkS ρ) (nI u) 1) 5) p).2.1, ((lvS (lkS ρ) (sgS (lkS ρ) (nI u) 1) 5) p).2.2) : Res).1 = true))) ∧ COut (ν 70) L (if ((lvS (lkS ρ) (sgS (lkS ρ) (nI u) 1) 5) p).1 = true ∧ lkS ρ ((lvS (lkS ρ) (sgS (lkS ρ) (nI u) 1) 5) p).2.1 = 41 then (true, ((lvS (lkS ρ) (sgS (lkS ρ) (nI u) 1) 5) p).2.1 + 1, ((lvS (lkS ρ) (sgS (lkS ρ) (nI u) 1) 5) p).2.2) else (false, ((lvS (lkS ρ) (sgS (lkS ρ) (nI u) 1) 5) p).2.1, ((lvS (lkS ρ) (sgS (lkS ρ) (nI u) 1) 5) p).2.2) : Res) uu.1 uu.2.1 uu.2.2) := by
  refine Ct.ofI RX1 rfl (by decide +kernel) (Nat.le_of_ble_eq_true rfl) (fun X hC hR => ?_)
  have hb60 := hI.bb; have hle := hP.2.2.2
  show V X (wX k g a σ ν) [(0, .ref (a 3)), (1, .int 4)] [] 0
  refine V.aload_n (pc := 0) 0 hC dX1_readBracket_0 rfl ?_
  refine V.iconst (pc := 1) 0 hC dX1_readBracket_1 (by decide) ?_
  refine V.iload_n (pc := 2) 1 hC dX1_readBracket_2 rfl ?_
  refine V.callV0 (pc := 3) (as := [.int 0, .int 4]) hC (c_X1_part_0_4 σ ν ρ u L p hT hI hu2 hP) mu_X1_readPart ml_X1_36 (by decide) ⟨3, 1, TX1, 5, _, rfl, gx_3⟩ rfl (Nat.le_of_ble_eq_true rfl) dX1_readBracket_3 ?_
  rintro _ ⟨f3_0, i3_1, i3_2⟩ ⟨rfl, hu3_0⟩
  have hu3_0 : COut (ν 70) L ((lvS (lkS ρ) (sgS (lkS ρ) (nI u) 1) 5) p) f3_0 i3_1 i3_2 := hu3_0
  show V X (wX k g a σ (va_up (va_up (va_up ν 70 f3_0) 71 (fun _ => i3_1)) 72 (fun _ => i3_2))) [(0, .ref (a 3)), (1, .int 4)] [.int (bI (((lvS (lkS ρ) (sgS (lkS ρ) (nI u) 1) 5) p).1 = true))] 6
  refine V.if_eq_b (P := ((lvS (lkS ρ) (sgS (lkS ρ) (nI u) 1) 5) p).1 = true) (pc := 6) 18 hC dX1_readBracket_6 (by decide) (fun c_6 => ?_) (fun c_6 => ?_)
  · refine V.iconst (pc := 18) 0 hC dX1_readBracket_18 (by decide) ?_
    exact hR 0 (f3_0, i3_1, i3_2) _ _ dX1_readBracket_19 (by first | rfl | exact bI_n _) ⟨rb0 (by rw [if_neg (fun z => c_6 z.1)]; exact fun z => absurd (show false = true from z) (by decide)), by rw [if_neg (fun z => c_6 z.1)]; exact CO_bad hu3_0.1 hu3_0.2.1⟩
  · refine V.aload_n (pc := 9) 0 hC dX1_readBracket_9 rfl ?_
    refine V.callV0 (pc := 10) (as := []) hC (c_X1_next σ (va_up (va_up (va_up ν 70 f3_0) 71 (fun _ => i3_1)) 72 (fun _ => i3_2)) ρ (((lvS (lkS ρ) (sgS (lkS ρ) (nI u) 1) 5) p).2.1) hT hI hu3_0.1 (by have := ((lv_g (lk_tok (ρ := ρ)) (sg_g (u := nI u) (lk_tok (ρ := ρ)) 1) 5) p (by omega)).2.1; omega)) mu_X1_next ml_X1_52 (by decide) ⟨3, 1, TX1, 5, _, rfl, gx_3⟩ rfl (Nat.le_of_ble_eq_true rfl) dX1_readBracket_10 ?_
    rintro _ _ rfl
    show V X (wX k g a σ (va_up (va_up (va_up ν 70 f3_0) 71 (fun _ => i3_1)) 72 (fun _ => i3_2))) [(0, .ref (a 3)), (1, .int 4)] [.int (lkS ρ (((lvS (lkS ρ) (sgS (lkS ρ) (nI u) 1) 5) p).2.1))] 13
    refine V.bipush (pc := 13) 41 hC dX1_readBracket_13 (by decide) ?_
    refine V.icmp_eq (pc := 15) 20 hC dX1_readBracket_15 (by decide) (fun c_15 => ?_) (fun c_15 => ?_)
    · refine V.aload_n (pc := 20) 0 hC dX1_readBracket_20 rfl ?_
      refine V.dup (pc := 21) hC dX1_readBracket_21 rfl ?_
      refine V.get (pc := 22) (v := .int i3_2) hC cf_X1 3 3 fl_X1_29 (by decide) gx_3 rfl dX1_readBracket_22 ?_
      refine V.iconst (pc := 25) 1 hC dX1_readBracket_25 (by decide) ?_
      refine V.iadd (pc := 26) hC dX1_readBracket_26 ?_
      refine V.put (pc := 27) (v := .int (i3_2 + 1)) hC cf_X1 3 3 (wX k g a σ (va_up (va_up (va_up ν 70 f3_0) 71 (fun _ => i3_1)) 72 (fun _ => i3_2 + 1))) fl_X1_29 (by decide) gx_3 rfl rfl rfl (Nat.le_of_ble_eq_true rfl) rfl dX1_readBracket_27 ?_
      refine V.iconst (pc := 30) 1 hC dX1_readBracket_30 (by decide) ?_
      exact hR 1 (f3_0, i3_1, i3_2 + 1) _ _ dX1_readBracket_31 (by first | rfl | exact bI_n _) ⟨rb1 (by rw [if_pos ⟨c_6, c_15⟩]), by rw [if_pos ⟨c_6, c_15⟩]; exact ⟨nadd hu3_0.1 (nl 1), hu3_0.2.1, fun _ => hu3_0.2.2 c_6⟩⟩
    · refine V.iconst (pc := 18) 0 hC dX1_readBracket_18 (by decide) ?_
      exact hR 0 (f3_0, i3_1, i3_2) _ _ dX1_readBracket_19 (by first | rfl | exact bI_n _) ⟨rb0 (by rw [if_neg (fun z => c_15 z.2)]; exact fun z => absurd (show false = true from z) (by decide)), by rw [if_neg (fun z => c_15 z.2)]; exact CO_bad hu3_0.1 hu3_0.2.1⟩
set_option maxHeartbeats 4000000 in
set_option maxRecDepth 100000 in
theorem c_X1_single_3 {l : Launch} {D : va_G} {k : Nat → ClassId} {g a : Nat → Nat} (σ ν : St) (ρ : Rw) (u L p : Nat) (hT : RT σ ρ) (hI : Inv ρ) (hu2 : u < 2) (hP : CIn (nN (ρ 5)) (ν 71 0) (ν 72 0) (ν 73 0) u L p) : Ct l D k g yX1_readSingle cX1_readSingle 4 (some .boolean) 28 659 [.ref (a 3), .int 3] (S := Rw × Int32 × Int32) (wX k g a σ ν) (fun uu => wX k g a σ (va_up (va_up (va_up ν 70 uu.1) 71 (fun _ => uu.2.1)) 72 (fun _ => uu.2.2))) (fun vv uu => vv = some (.int (bI (((sgS (lkS ρ) (nI u) 2) p).1 = true))) ∧ COut (ν 70) L ((sgS (lkS ρ) (nI u) 2) p) uu.1 uu.2.1 uu.2.2) := by
  refine Ct.ofI RX1 rfl (by decide +kernel) (Nat.le_of_ble_eq_true rfl) (fun X hC hR => ?_)
  have hb60 := hI.bb; have hle := hP.2.2.2
  have hm1 : ¬ 0 ≤ namS (nI u) (-1) := fun z => (nam_b z).2 rfl
  show V X (wX k g a σ ν) [(0, .ref (a 3)), (1, .int 3)] [] 0
  refine V.aload_n (pc := 0) 0 hC dX1_readSingle_0 rfl ?_
  refine V.callV0 (pc := 1) (as := []) hC (c_X1_next σ ν ρ p hT hI hP.2.2.1 (by omega)) mu_X1_next ml_X1_52 (by decide) ⟨3, 1, TX1, 5, _, rfl, gx_3⟩ rfl (Nat.le_of_ble_eq_true rfl) dX1_readSingle_1 ?_
  rintro _ _ rfl
  show V X (wX k g a σ ν) [(0, .ref (a 3)), (1, .int 3)] [.int (lkS ρ p)] 4
  refine V.istore_n (pc := 4) [(2, .int (lkS ρ p)), (0, .ref (a 3)), (1, .int 3)] hC dX1_readSingle_4 (by decide) rfl ?_
  refine V.iload_n (pc := 5) 0 hC dX1_readSingle_5 rfl ?_
  refine V.callS0 (pc := 6) (as := [.int (lkS ρ p)]) hC (c_X1_isDigit (lkS ρ p) ) ms_X1_isDigit ml_X1_68 (by decide) rfl (Nat.le_of_ble_eq_true rfl) dX1_readSingle_6 ?_
  rintro _ _ rfl
  show V X (wX k g a σ ν) [(2, .int (lkS ρ p)), (0, .ref (a 3)), (1, .int 3)] [.int (bI (inS (lkS ρ p) 48 57))] 9
  refine V.if_eq_b (P := inS (lkS ρ p) 48 57) (pc := 9) 18 hC dX1_readSingle_9 (by decide) (fun c_9 => ?_) (fun c_9 => ?_)
  · refine V.iload_n (pc := 18) 0 hC dX1_readSingle_18 rfl ?_
    refine V.iconst (pc := 19) (-1) hC dX1_readSingle_19 (by decide) ?_
    refine V.icmp_ne (pc := 20) 27 hC dX1_readSingle_20 (by decide) (fun c_20 => ?_) (fun c_20 => ?_)
    · have hbn := lk_n hI c_20
      refine V.aload_n (pc := 27) 1 hC dX1_readSingle_27 rfl ?_
      refine V.get (pc := 28) (v := .ref (g (nmA (ν 73 0)))) hC cf_X1 3 4 fl_X1_17 (by decide) gx_3 rfl dX1_readSingle_28 ?_
      refine V.iload_n (pc := 31) 0 hC dX1_readSingle_31 rfl ?_
      refine V.i2c (pc := 32) hC dX1_readSingle_32 ?_
      refine V.eqi (y := lkS ρ p) (i2c_n hbn) ?_
      refine V.sts (st' := [.int (lkS ρ p), .ref (g (2 + (u + 1)))]) (by rw [nmA_u hP.1 hu2]) ?_
      refine V.callStr (pc := 33) (as := [.int (lkS ρ p)]) (i := (u + 1)) hC (c_ixu u (lkS ρ p) hu2 hbn) mu_J0_indexOf_0f7a4 ml_X1_74 (by decide) (by omega) rfl (Nat.le_of_ble_eq_true rfl) dX1_readSingle_33 ?_
      rintro _ _ rfl
      show V X (wX k g a σ ν) [(2, .int (lkS ρ p)), (0, .ref (a 3)), (1, .int 3)] [.int (namS (nI u) (lkS ρ p))] 36
      refine V.istore_n (pc := 36) [(3, .int (namS (nI u) (lkS ρ p))), (2, .int (lkS ρ p)), (0, .ref (a 3)), (1, .int 3)] hC dX1_readSingle_36 (by decide) rfl ?_
      refine V.iload_n (pc := 37) 0 hC dX1_readSingle_37 rfl ?_
      refine V.if_lt (pc := 38) 60 hC dX1_readSingle_38 (by decide) (fun c_38 => ?_) (fun c_38 => ?_)
      · have c38 : ¬ 0 ≤ (namS (nI u) (lkS ρ p)) := i_gt c_38
        refine V.iload_n (pc := 60) 1 hC dX1_readSingle_60 rfl ?_
        refine V.bipush (pc := 61) 33 hC dX1_readSingle_61 (by decide) ?_
        refine V.icmp_eq (pc := 63) 72 hC dX1_readSingle_63 (by decide) (fun c_63 => ?_) (fun c_63 => ?_)
        · refine V.iload_n (pc := 72) 3 hC dX1_readSingle_72 rfl ?_
          refine V.iconst (pc := 73) 5 hC dX1_readSingle_73 (by decide) ?_
          refine V.icmp_lt (pc := 74) 79 hC dX1_readSingle_74 (by decide) (fun c_74 => ?_) (fun c_74 => ?_)
          · have nc_74 : 3 < 5 := (nlt (nl 3) (nl 5) (by omega) (by omega)).mp c_74
            have hc3 : (lkS ρ p) = 33 ∨ (lkS ρ p) = 40 := Or.inl c_63
            have hlt : p < nN (ρ 5) := tok_lt lk_tok (fun q => by rw [q] at hc3; exact absurd hc3 (by decide))
            refine V.aload_n (pc := 79) 2 hC dX1_readSingle_79 rfl ?_
            refine V.dup (pc := 80) hC dX1_readSingle_80 rfl ?_
            refine V.get (pc := 81) (v := .int (ν 72 0)) hC cf_X1 3 3 fl_X1_29 (by decide) gx_3 rfl dX1_readSingle_81 ?_
            refine V.iconst (pc := 84) 1 hC dX1_readSingle_84 (by decide) ?_
            refine V.iadd (pc := 85) hC dX1_readSingle_85 ?_
            refine V.put (pc := 86) (v := .int ((ν 72 0) + 1)) hC cf_X1 3 3 (wX k g a σ (va_up ν 72 (fun _ => (ν 72 0) + 1))) fl_X1_29 (by decide) gx_3 rfl rfl rfl (Nat.le_of_ble_eq_true rfl) rfl dX1_readSingle_86 ?_
            refine V.iload_n (pc := 89) 1 hC dX1_readSingle_89 rfl ?_
            refine V.bipush (pc := 90) 33 hC dX1_readSingle_90 (by decide) ?_
            refine V.icmp_ne (pc := 92) 105 hC dX1_readSingle_92 (by decide) (fun c_92 => ?_) (fun c_92 => ?_)
            · exact absurd c_63 c_92
            · have hXo : ((sgS (lkS ρ) (nI u) 2) p) = (((sgS (lkS ρ) (nI u) 1) (p + 1)).1, ((sgS (lkS ρ) (nI u) 1) (p + 1)).2.1, ((sgS (lkS ρ) (nI u) 1) (p + 1)).2.2 ++ [(3, 0)]) := (if_neg c38).trans ((if_pos hc3).trans ((if_neg (by decide)).trans (if_pos c_92)))
              refine V.aload_n (pc := 95) 2 hC dX1_readSingle_95 rfl ?_
              refine V.iload_n (pc := 96) 3 hC dX1_readSingle_96 rfl ?_
              refine V.iconst (pc := 97) 1 hC dX1_readSingle_97 (by decide) ?_
              refine V.iadd (pc := 98) hC dX1_readSingle_98 ?_
              refine V.eqi (y := 4) (by decide) ?_
              refine V.callV0 (pc := 99) (as := [.int 4]) hC (c_X1_not_4 σ (va_up ν 72 (fun _ => (ν 72 0) + 1)) ρ u L (p + 1) hT hI hu2 ⟨hP.1, hP.2.1, nadd hP.2.2.1 (nl 1), by omega, hlt⟩ (by omega)) mu_X1_readNot ml_X1_81 (by decide) ⟨3, 1, TX1, 5, _, rfl, gx_3⟩ rfl (Nat.le_of_ble_eq_true rfl) dX1_readSingle_99 ?_
              rintro _ ⟨f99_0, i99_1, i99_2⟩ ⟨rfl, hu99_0⟩
              have hu99_0 : COut ((ν 70)) L (((sgS (lkS ρ) (nI u) 1) (p + 1)).1, ((sgS (lkS ρ) (nI u) 1) (p + 1)).2.1, ((sgS (lkS ρ) (nI u) 1) (p + 1)).2.2 ++ [(3, 0)]) f99_0 i99_1 i99_2 := hu99_0
              show V X (wX k g a σ (va_up (va_up (va_up ν 72 (fun _ => i99_2)) 70 f99_0) 71 (fun _ => i99_1))) [(3, .int (namS (nI u) (lkS ρ p))), (2, .int (lkS ρ p)), (0, .ref (a 3)), (1, .int 3)] [.int (bI (((sgS (lkS ρ) (nI u) 1) (p + 1)).1 = true))] 102
              refine V.goto (pc := 102) 112 hC dX1_readSingle_102 (by decide) ?_
              exact hR (bI (((sgS (lkS ρ) (nI u) 1) (p + 1)).1 = true)) (f99_0, i99_1, i99_2) _ _ dX1_readSingle_112 (by first | rfl | exact bI_n _) ⟨by rw [hXo], by rw [hXo]; exact hu99_0⟩
          · have nc_74 : ¬ (3 < 5) := fun z => c_74 ((nlt (nl 3) (nl 5) (by omega) (by omega)).mpr z)
            exact absurd c_74 (by decide)
        · refine V.iload_n (pc := 66) 1 hC dX1_readSingle_66 rfl ?_
          refine V.bipush (pc := 67) 40 hC dX1_readSingle_67 (by decide) ?_
          refine V.icmp_ne (pc := 69) 77 hC dX1_readSingle_69 (by decide) (fun c_69 => ?_) (fun c_69 => ?_)
          · have hXb : ((sgS (lkS ρ) (nI u) 2) p) = (false, p, []) := (if_neg c38).trans ((if_neg (fun z => z.elim c_63 c_69)).trans (num_no c_9))
            refine V.iconst (pc := 77) 0 hC dX1_readSingle_77 (by decide) ?_
            exact hR 0 (ν 70, ν 71 0, ν 72 0) _ _ dX1_readSingle_78 (by first | rfl | exact bI_n _) ⟨rb0 (by rw [hXb]; exact fun z => absurd (show false = true from z) (by decide)), by rw [hXb]; exact CO_bad hP.2.2.1 (isN.mk hP.2.1 (by omega) (by omega))⟩
          · refine V.iload_n (pc := 72) 3 hC dX1_readSingle_72 rfl ?_
            refine V.iconst (pc := 73) 5 hC dX1_readSingle_73 (by decide) ?_
            refine V.icmp_lt (pc := 74) 79 hC dX1_readSingle_74 (by decide) (fun c_74 => ?_) (fun c_74 => ?_)
            · have nc_74 : 3 < 5 := (nlt (nl 3) (nl 5) (by omega) (by omega)).mp c_74
              have hc3 : (lkS ρ p) = 33 ∨ (lkS ρ p) = 40 := Or.inr c_69
              have hlt : p < nN (ρ 5) := tok_lt lk_tok (fun q => by rw [q] at hc3; exact absurd hc3 (by decide))
              refine V.aload_n (pc := 79) 2 hC dX1_readSingle_79 rfl ?_
              refine V.dup (pc := 80) hC dX1_readSingle_80 rfl ?_
              refine V.get (pc := 81) (v := .int (ν 72 0)) hC cf_X1 3 3 fl_X1_29 (by decide) gx_3 rfl dX1_readSingle_81 ?_
              refine V.iconst (pc := 84) 1 hC dX1_readSingle_84 (by decide) ?_
              refine V.iadd (pc := 85) hC dX1_readSingle_85 ?_
              refine V.put (pc := 86) (v := .int ((ν 72 0) + 1)) hC cf_X1 3 3 (wX k g a σ (va_up ν 72 (fun _ => (ν 72 0) + 1))) fl_X1_29 (by decide) gx_3 rfl rfl rfl (Nat.le_of_ble_eq_true rfl) rfl dX1_readSingle_86 ?_
              refine V.iload_n (pc := 89) 1 hC dX1_readSingle_89 rfl ?_
              refine V.bipush (pc := 90) 33 hC dX1_readSingle_90 (by decide) ?_
              refine V.icmp_ne (pc := 92) 105 hC dX1_readSingle_92 (by decide) (fun c_92 => ?_) (fun c_92 => ?_)
              · have hXo : ((sgS (lkS ρ) (nI u) 2) p) = (if ((lvS (lkS ρ) (sgS (lkS ρ) (nI u) 1) 5) (p + 1)).1 = true ∧ lkS ρ ((lvS (lkS ρ) (sgS (lkS ρ) (nI u) 1) 5) (p + 1)).2.1 = 41 then (true, ((lvS (lkS ρ) (sgS (lkS ρ) (nI u) 1) 5) (p + 1)).2.1 + 1, ((lvS (lkS ρ) (sgS (lkS ρ) (nI u) 1) 5) (p + 1)).2.2) else (false, ((lvS (lkS ρ) (sgS (lkS ρ) (nI u) 1) 5) (p + 1)).2.1, ((lvS (lkS ρ) (sgS (lkS ρ) (nI u) 1) 5) (p + 1)).2.2)) := (if_neg c38).trans ((if_pos hc3).trans ((if_neg (by decide)).trans (if_neg c_92)))
                refine V.aload_n (pc := 105) 2 hC dX1_readSingle_105 rfl ?_
                refine V.iload_n (pc := 106) 3 hC dX1_readSingle_106 rfl ?_
                refine V.iconst (pc := 107) 1 hC dX1_readSingle_107 (by decide) ?_
                refine V.iadd (pc := 108) hC dX1_readSingle_108 ?_
                refine V.eqi (y := 4) (by decide) ?_
                refine V.callV0 (pc := 109) (as := [.int 4]) hC (c_X1_br_4 σ (va_up ν 72 (fun _ => (ν 72 0) + 1)) ρ u L (p + 1) hT hI hu2 ⟨hP.1, hP.2.1, nadd hP.2.2.1 (nl 1), by omega, hlt⟩) mu_X1_readBracket ml_X1_84 (by decide) ⟨3, 1, TX1, 5, _, rfl, gx_3⟩ rfl (Nat.le_of_ble_eq_true rfl) dX1_readSingle_109 ?_
                rintro _ ⟨f109_0, i109_1, i109_2⟩ ⟨rfl, hu109_0⟩
                have hu109_0 : COut ((ν 70)) L (if ((lvS (lkS ρ) (sgS (lkS ρ) (nI u) 1) 5) (p + 1)).1 = true ∧ lkS ρ ((lvS (lkS ρ) (sgS (lkS ρ) (nI u) 1) 5) (p + 1)).2.1 = 41 then (true, ((lvS (lkS ρ) (sgS (lkS ρ) (nI u) 1) 5) (p + 1)).2.1 + 1, ((lvS (lkS ρ) (sgS (lkS ρ) (nI u) 1) 5) (p + 1)).2.2) else (false, ((lvS (lkS ρ) (sgS (lkS ρ) (nI u) 1) 5) (p + 1)).2.1, ((lvS (lkS ρ) (sgS (lkS ρ) (nI u) 1) 5) (p + 1)).2.2) : Res) f109_0 i109_1 i109_2 := hu109_0
                show V X (wX k g a σ (va_up (va_up (va_up ν 72 (fun _ => i109_2)) 70 f109_0) 71 (fun _ => i109_1))) [(3, .int (namS (nI u) (lkS ρ p))), (2, .int (lkS ρ p)), (0, .ref (a 3)), (1, .int 3)] [.int (bI ((if ((lvS (lkS ρ) (sgS (lkS ρ) (nI u) 1) 5) (p + 1)).1 = true ∧ lkS ρ ((lvS (lkS ρ) (sgS (lkS ρ) (nI u) 1) 5) (p + 1)).2.1 = 41 then (true, ((lvS (lkS ρ) (sgS (lkS ρ) (nI u) 1) 5) (p + 1)).2.1 + 1, ((lvS (lkS ρ) (sgS (lkS ρ) (nI u) 1) 5) (p + 1)).2.2) else (false, ((lvS (lkS ρ) (sgS (lkS ρ) (nI u) 1) 5) (p + 1)).2.1, ((lvS (lkS ρ) (sgS (lkS ρ) (nI u) 1) 5) (p + 1)).2.2) : Res).1 = true))] 112
                exact hR (bI ((if ((lvS (lkS ρ) (sgS (lkS ρ) (nI u) 1) 5) (p + 1)).1 = true ∧ lkS ρ ((lvS (lkS ρ) (sgS (lkS ρ) (nI u) 1) 5) (p + 1)).2.1 = 41 then (true, ((lvS (lkS ρ) (sgS (lkS ρ) (nI u) 1) 5) (p + 1)).2.1 + 1, ((lvS (lkS ρ) (sgS (lkS ρ) (nI u) 1) 5) (p + 1)).2.2) else (false, ((lvS (lkS ρ) (sgS (lkS ρ) (nI u) 1) 5) (p + 1)).2.1, ((lvS (lkS ρ) (sgS (lkS ρ) (nI u) 1) 5) (p + 1)).2.2) : Res).1 = true)) (f109_0, i109_1, i109_2) _ _ dX1_readSingle_112 (by first | rfl | exact bI_n _) ⟨by rw [hXo], by rw [hXo]; exact hu109_0⟩
              · exact absurd c_92 c_63
            · have nc_74 : ¬ (3 < 5) := fun z => c_74 ((nlt (nl 3) (nl 5) (by omega) (by omega)).mpr z)
              exact absurd c_74 (by decide)
      · have hXm : ((sgS (lkS ρ) (nI u) 2) p) = (true, p + 1, [(2, (namS (nI u) (lkS ρ p)))]) := if_pos (i_nlt c_38)
        refine V.aload_n (pc := 41) 2 hC dX1_readSingle_41 rfl ?_
        refine V.dup (pc := 42) hC dX1_readSingle_42 rfl ?_
        refine V.get (pc := 43) (v := .int (ν 72 0)) hC cf_X1 3 3 fl_X1_29 (by decide) gx_3 rfl dX1_readSingle_43 ?_
        refine V.iconst (pc := 46) 1 hC dX1_readSingle_46 (by decide) ?_
        refine V.iadd (pc := 47) hC dX1_readSingle_47 ?_
        refine V.put (pc := 48) (v := .int ((ν 72 0) + 1)) hC cf_X1 3 3 (wX k g a σ (va_up ν 72 (fun _ => (ν 72 0) + 1))) fl_X1_29 (by decide) gx_3 rfl rfl rfl (Nat.le_of_ble_eq_true rfl) rfl dX1_readSingle_48 ?_
        refine V.aload_n (pc := 51) 2 hC dX1_readSingle_51 rfl ?_
        refine V.iconst (pc := 52) (-1) hC dX1_readSingle_52 (by decide) ?_
        refine V.iload_n (pc := 53) 0 hC dX1_readSingle_53 rfl ?_
        refine V.isub (pc := 54) hC dX1_readSingle_54 ?_
        refine V.callV0 (pc := 55) (as := [.int ((-1) - (namS (nI u) (lkS ρ p)))]) hC (c_X1_write σ (va_up ν 72 (fun _ => (ν 72 0) + 1)) ((-1) - (namS (nI u) (lkS ρ p))) (isN.mk hP.2.1 (by omega) (by omega))) mu_X1_write ml_X1_60 (by decide) ⟨3, 1, TX1, 5, _, rfl, gx_3⟩ rfl (Nat.le_of_ble_eq_true rfl) dX1_readSingle_55 ?_
        rintro _ ⟨f55_0, i55_1⟩ ⟨rfl, hu55_0⟩
        have hu55_0 : WtF ((ν 70)) ((ν 71 0)) ((-1) - (namS (nI u) (lkS ρ p))) f55_0 i55_1 := hu55_0
        show V X (wX k g a σ (va_up (va_up (va_up ν 72 (fun _ => (ν 72 0) + 1)) 70 f55_0) 71 (fun _ => i55_1))) [(3, .int (namS (nI u) (lkS ρ p))), (2, .int (lkS ρ p)), (0, .ref (a 3)), (1, .int 3)] [] 58
        refine V.iconst (pc := 58) 1 hC dX1_readSingle_58 (by decide) ?_
        exact hR 1 (f55_0, i55_1, (ν 72 0) + 1) _ _ dX1_readSingle_59 (by first | rfl | exact bI_n _) ⟨rb1 (by rw [hXm]), by rw [hXm]; exact CO_one hP.2.1 (by have := tok_lt lk_tok (nam_b (i_nlt c_38)).2; omega) (by rfl) hu55_0 (nadd hP.2.2.1 (nl 1))⟩
    · refine V.iconst (pc := 23) (-1) hC dX1_readSingle_23 (by decide) ?_
      refine V.goto (pc := 24) 36 hC dX1_readSingle_24 (by decide) ?_
      refine V.istore_n (pc := 36) [(3, .int (-1)), (2, .int (lkS ρ p)), (0, .ref (a 3)), (1, .int 3)] hC dX1_readSingle_36 (by decide) rfl ?_
      refine V.iload_n (pc := 37) 0 hC dX1_readSingle_37 rfl ?_
      refine V.if_lt (pc := 38) 60 hC dX1_readSingle_38 (by decide) (fun c_38 => ?_) (fun c_38 => ?_)
      · have c38 : ¬ 0 ≤ (namS (nI u) (lkS ρ p)) := by rw [c_20]; exact hm1
        refine V.iload_n (pc := 60) 1 hC dX1_readSingle_60 rfl ?_
        refine V.bipush (pc := 61) 33 hC dX1_readSingle_61 (by decide) ?_
        refine V.icmp_eq (pc := 63) 72 hC dX1_readSingle_63 (by decide) (fun c_63 => ?_) (fun c_63 => ?_)
        · refine V.iload_n (pc := 72) 3 hC dX1_readSingle_72 rfl ?_
          refine V.iconst (pc := 73) 5 hC dX1_readSingle_73 (by decide) ?_
          refine V.icmp_lt (pc := 74) 79 hC dX1_readSingle_74 (by decide) (fun c_74 => ?_) (fun c_74 => ?_)
          · have nc_74 : 3 < 5 := (nlt (nl 3) (nl 5) (by omega) (by omega)).mp c_74
            have hc3 : (lkS ρ p) = 33 ∨ (lkS ρ p) = 40 := Or.inl c_63
            have hlt : p < nN (ρ 5) := tok_lt lk_tok (fun q => by rw [q] at hc3; exact absurd hc3 (by decide))
            refine V.aload_n (pc := 79) 2 hC dX1_readSingle_79 rfl ?_
            refine V.dup (pc := 80) hC dX1_readSingle_80 rfl ?_
            refine V.get (pc := 81) (v := .int (ν 72 0)) hC cf_X1 3 3 fl_X1_29 (by decide) gx_3 rfl dX1_readSingle_81 ?_
            refine V.iconst (pc := 84) 1 hC dX1_readSingle_84 (by decide) ?_
            refine V.iadd (pc := 85) hC dX1_readSingle_85 ?_
            refine V.put (pc := 86) (v := .int ((ν 72 0) + 1)) hC cf_X1 3 3 (wX k g a σ (va_up ν 72 (fun _ => (ν 72 0) + 1))) fl_X1_29 (by decide) gx_3 rfl rfl rfl (Nat.le_of_ble_eq_true rfl) rfl dX1_readSingle_86 ?_
            refine V.iload_n (pc := 89) 1 hC dX1_readSingle_89 rfl ?_
            refine V.bipush (pc := 90) 33 hC dX1_readSingle_90 (by decide) ?_
            refine V.icmp_ne (pc := 92) 105 hC dX1_readSingle_92 (by decide) (fun c_92 => ?_) (fun c_92 => ?_)
            · exact absurd c_63 c_92
            · have hXo : ((sgS (lkS ρ) (nI u) 2) p) = (((sgS (lkS ρ) (nI u) 1) (p + 1)).1, ((sgS (lkS ρ) (nI u) 1) (p + 1)).2.1, ((sgS (lkS ρ) (nI u) 1) (p + 1)).2.2 ++ [(3, 0)]) := (if_neg c38).trans ((if_pos hc3).trans ((if_neg (by decide)).trans (if_pos c_92)))
              refine V.aload_n (pc := 95) 2 hC dX1_readSingle_95 rfl ?_
              refine V.iload_n (pc := 96) 3 hC dX1_readSingle_96 rfl ?_
              refine V.iconst (pc := 97) 1 hC dX1_readSingle_97 (by decide) ?_
              refine V.iadd (pc := 98) hC dX1_readSingle_98 ?_
              refine V.eqi (y := 4) (by decide) ?_
              refine V.callV0 (pc := 99) (as := [.int 4]) hC (c_X1_not_4 σ (va_up ν 72 (fun _ => (ν 72 0) + 1)) ρ u L (p + 1) hT hI hu2 ⟨hP.1, hP.2.1, nadd hP.2.2.1 (nl 1), by omega, hlt⟩ (by omega)) mu_X1_readNot ml_X1_81 (by decide) ⟨3, 1, TX1, 5, _, rfl, gx_3⟩ rfl (Nat.le_of_ble_eq_true rfl) dX1_readSingle_99 ?_
              rintro _ ⟨f99_0, i99_1, i99_2⟩ ⟨rfl, hu99_0⟩
              have hu99_0 : COut ((ν 70)) L (((sgS (lkS ρ) (nI u) 1) (p + 1)).1, ((sgS (lkS ρ) (nI u) 1) (p + 1)).2.1, ((sgS (lkS ρ) (nI u) 1) (p + 1)).2.2 ++ [(3, 0)]) f99_0 i99_1 i99_2 := hu99_0
              show V X (wX k g a σ (va_up (va_up (va_up ν 72 (fun _ => i99_2)) 70 f99_0) 71 (fun _ => i99_1))) [(3, .int (-1)), (2, .int (lkS ρ p)), (0, .ref (a 3)), (1, .int 3)] [.int (bI (((sgS (lkS ρ) (nI u) 1) (p + 1)).1 = true))] 102
              refine V.goto (pc := 102) 112 hC dX1_readSingle_102 (by decide) ?_
              exact hR (bI (((sgS (lkS ρ) (nI u) 1) (p + 1)).1 = true)) (f99_0, i99_1, i99_2) _ _ dX1_readSingle_112 (by first | rfl | exact bI_n _) ⟨by rw [hXo], by rw [hXo]; exact hu99_0⟩
          · have nc_74 : ¬ (3 < 5) := fun z => c_74 ((nlt (nl 3) (nl 5) (by omega) (by omega)).mpr z)
            exact absurd c_74 (by decide)
        · refine V.iload_n (pc := 66) 1 hC dX1_readSingle_66 rfl ?_
          refine V.bipush (pc := 67) 40 hC dX1_readSingle_67 (by decide) ?_
          refine V.icmp_ne (pc := 69) 77 hC dX1_readSingle_69 (by decide) (fun c_69 => ?_) (fun c_69 => ?_)
          · have hXb : ((sgS (lkS ρ) (nI u) 2) p) = (false, p, []) := (if_neg c38).trans ((if_neg (fun z => z.elim c_63 c_69)).trans (num_no c_9))
            refine V.iconst (pc := 77) 0 hC dX1_readSingle_77 (by decide) ?_
            exact hR 0 (ν 70, ν 71 0, ν 72 0) _ _ dX1_readSingle_78 (by first | rfl | exact bI_n _) ⟨rb0 (by rw [hXb]; exact fun z => absurd (show false = true from z) (by decide)), by rw [hXb]; exact CO_bad hP.2.2.1 (isN.mk hP.2.1 (by omega) (by omega))⟩
          · refine V.iload_n (pc := 72) 3 hC dX1_readSingle_72 rfl ?_
            refine V.iconst (pc := 73) 5 hC dX1_readSingle_73 (by decide) ?_
            refine V.icmp_lt (pc := 74) 79 hC dX1_readSingle_74 (by decide) (fun c_74 => ?_) (fun c_74 => ?_)
            · have nc_74 : 3 < 5 := (nlt (nl 3) (nl 5) (by omega) (by omega)).mp c_74
              have hc3 : (lkS ρ p) = 33 ∨ (lkS ρ p) = 40 := Or.inr c_69
              have hlt : p < nN (ρ 5) := tok_lt lk_tok (fun q => by rw [q] at hc3; exact absurd hc3 (by decide))
              refine V.aload_n (pc := 79) 2 hC dX1_readSingle_79 rfl ?_
              refine V.dup (pc := 80) hC dX1_readSingle_80 rfl ?_
              refine V.get (pc := 81) (v := .int (ν 72 0)) hC cf_X1 3 3 fl_X1_29 (by decide) gx_3 rfl dX1_readSingle_81 ?_
              refine V.iconst (pc := 84) 1 hC dX1_readSingle_84 (by decide) ?_
              refine V.iadd (pc := 85) hC dX1_readSingle_85 ?_
              refine V.put (pc := 86) (v := .int ((ν 72 0) + 1)) hC cf_X1 3 3 (wX k g a σ (va_up ν 72 (fun _ => (ν 72 0) + 1))) fl_X1_29 (by decide) gx_3 rfl rfl rfl (Nat.le_of_ble_eq_true rfl) rfl dX1_readSingle_86 ?_
              refine V.iload_n (pc := 89) 1 hC dX1_readSingle_89 rfl ?_
              refine V.bipush (pc := 90) 33 hC dX1_readSingle_90 (by decide) ?_
              refine V.icmp_ne (pc := 92) 105 hC dX1_readSingle_92 (by decide) (fun c_92 => ?_) (fun c_92 => ?_)
              · have hXo : ((sgS (lkS ρ) (nI u) 2) p) = (if ((lvS (lkS ρ) (sgS (lkS ρ) (nI u) 1) 5) (p + 1)).1 = true ∧ lkS ρ ((lvS (lkS ρ) (sgS (lkS ρ) (nI u) 1) 5) (p + 1)).2.1 = 41 then (true, ((lvS (lkS ρ) (sgS (lkS ρ) (nI u) 1) 5) (p + 1)).2.1 + 1, ((lvS (lkS ρ) (sgS (lkS ρ) (nI u) 1) 5) (p + 1)).2.2) else (false, ((lvS (lkS ρ) (sgS (lkS ρ) (nI u) 1) 5) (p + 1)).2.1, ((lvS (lkS ρ) (sgS (lkS ρ) (nI u) 1) 5) (p + 1)).2.2)) := (if_neg c38).trans ((if_pos hc3).trans ((if_neg (by decide)).trans (if_neg c_92)))
                refine V.aload_n (pc := 105) 2 hC dX1_readSingle_105 rfl ?_
                refine V.iload_n (pc := 106) 3 hC dX1_readSingle_106 rfl ?_
                refine V.iconst (pc := 107) 1 hC dX1_readSingle_107 (by decide) ?_
                refine V.iadd (pc := 108) hC dX1_readSingle_108 ?_
                refine V.eqi (y := 4) (by decide) ?_
                refine V.callV0 (pc := 109) (as := [.int 4]) hC (c_X1_br_4 σ (va_up ν 72 (fun _ => (ν 72 0) + 1)) ρ u L (p + 1) hT hI hu2 ⟨hP.1, hP.2.1, nadd hP.2.2.1 (nl 1), by omega, hlt⟩) mu_X1_readBracket ml_X1_84 (by decide) ⟨3, 1, TX1, 5, _, rfl, gx_3⟩ rfl (Nat.le_of_ble_eq_true rfl) dX1_readSingle_109 ?_
                rintro _ ⟨f109_0, i109_1, i109_2⟩ ⟨rfl, hu109_0⟩
                have hu109_0 : COut ((ν 70)) L (if ((lvS (lkS ρ) (sgS (lkS ρ) (nI u) 1) 5) (p + 1)).1 = true ∧ lkS ρ ((lvS (lkS ρ) (sgS (lkS ρ) (nI u) 1) 5) (p + 1)).2.1 = 41 then (true, ((lvS (lkS ρ) (sgS (lkS ρ) (nI u) 1) 5) (p + 1)).2.1 + 1, ((lvS (lkS ρ) (sgS (lkS ρ) (nI u) 1) 5) (p + 1)).2.2) else (false, ((lvS (lkS ρ) (sgS (lkS ρ) (nI u) 1) 5) (p + 1)).2.1, ((lvS (lkS ρ) (sgS (lkS ρ) (nI u) 1) 5) (p + 1)).2.2) : Res) f109_0 i109_1 i109_2 := hu109_0
                show V X (wX k g a σ (va_up (va_up (va_up ν 72 (fun _ => i109_2)) 70 f109_0) 71 (fun _ => i109_1))) [(3, .int (-1)), (2, .int (lkS ρ p)), (0, .ref (a 3)), (1, .int 3)] [.int (bI ((if ((lvS (lkS ρ) (sgS (lkS ρ) (nI u) 1) 5) (p + 1)).1 = true ∧ lkS ρ ((lvS (lkS ρ) (sgS (lkS ρ) (nI u) 1) 5) (p + 1)).2.1 = 41 then (true, ((lvS (lkS ρ) (sgS (lkS ρ) (nI u) 1) 5) (p + 1)).2.1 + 1, ((lvS (lkS ρ) (sgS (lkS ρ) (nI u) 1) 5) (p + 1)).2.2) else (false, ((lvS (lkS ρ) (sgS (lkS ρ) (nI u) 1) 5) (p + 1)).2.1, ((lvS (lkS ρ) (sgS (lkS ρ) (nI u) 1) 5) (p + 1)).2.2) : Res).1 = true))] 112
                exact hR (bI ((if ((lvS (lkS ρ) (sgS (lkS ρ) (nI u) 1) 5) (p + 1)).1 = true ∧ lkS ρ ((lvS (lkS ρ) (sgS (lkS ρ) (nI u) 1) 5) (p + 1)).2.1 = 41 then (true, ((lvS (lkS ρ) (sgS (lkS ρ) (nI u) 1) 5) (p + 1)).2.1 + 1, ((lvS (lkS ρ) (sgS (lkS ρ) (nI u) 1) 5) (p + 1)).2.2) else (false, ((lvS (lkS ρ) (sgS (lkS ρ) (nI u) 1) 5) (p + 1)).2.1, ((lvS (lkS ρ) (sgS (lkS ρ) (nI u) 1) 5) (p + 1)).2.2) : Res).1 = true)) (f109_0, i109_1, i109_2) _ _ dX1_readSingle_112 (by first | rfl | exact bI_n _) ⟨by rw [hXo], by rw [hXo]; exact hu109_0⟩
              · exact absurd c_92 c_63
            · have nc_74 : ¬ (3 < 5) := fun z => c_74 ((nlt (nl 3) (nl 5) (by omega) (by omega)).mpr z)
              exact absurd c_74 (by decide)
      · exact absurd c_38 (by decide)
  · have hdn := dig_nam (u := nI u) c_9
    have hXn : ((sgS (lkS ρ) (nI u) 2) p) = numS (lkS ρ) p := (if_neg hdn.1).trans (if_neg hdn.2)
    refine V.aload_n (pc := 12) 1 hC dX1_readSingle_12 rfl ?_
    refine V.callV0 (pc := 13) (as := []) hC (c_X1_readNumber σ ν ρ u L p hT hI hu2 hP c_9) mu_X1_readNumber ml_X1_71 (by decide) ⟨3, 1, TX1, 5, _, rfl, gx_3⟩ rfl (Nat.le_of_ble_eq_true rfl) dX1_readSingle_13 ?_
    rintro _ ⟨f13_0, i13_1, i13_2⟩ ⟨rfl, hu13_0⟩
    have hu13_0 : COut (ν 70) L (numS (lkS ρ) p) f13_0 i13_1 i13_2 := hu13_0
    show V X (wX k g a σ (va_up (va_up (va_up ν 70 f13_0) 71 (fun _ => i13_1)) 72 (fun _ => i13_2))) [(2, .int (lkS ρ p)), (0, .ref (a 3)), (1, .int 3)] [] 16
    refine V.iconst (pc := 16) 1 hC dX1_readSingle_16 (by decide) ?_
    exact hR 1 (f13_0, i13_1, i13_2) _ _ dX1_readSingle_17 (by first | rfl | exact bI_n _) ⟨rb1 (by rw [hXn, numS, if_pos c_9]), by rw [hXn]; exact hu13_0⟩
set_option maxHeartbeats 4000000 in
set_option maxRecDepth 100000 in
theorem c_X1_side_5_3 {l : Launch} {D : va_G} {k : Nat → ClassId} {g a : Nat → Nat} (σ ν : St) (ρ : Rw) (u L p : Nat) (hT : RT σ ρ) (hI : Inv ρ) (hu2 : u < 2) (hP : CIn (nN (ρ 5)) (ν 71 0) (ν 72 0) (ν 73 0) u L p) : Ct l D k g yX1_readSide cX1_readSide 3 (some .boolean) 29 682 [.ref (a 3), .int 5, .int 3] (S := Rw × Int32 × Int32) (wX k g a σ ν) (fun uu => wX k g a σ (va_up (va_up (va_up ν 70 uu.1) 71 (fun _ => uu.2.1)) 72 (fun _ => uu.2.2))) (fun vv uu => vv = some (.int (bI (((sgS (lkS ρ) (nI u) 2) p).1 = true))) ∧ COut (ν 70) L ((sgS (lkS ρ) (nI u) 2) p) uu.1 uu.2.1 uu.2.2) := by
  refine Ct.ofI RX1 rfl (by decide +kernel) (Nat.le_of_ble_eq_true rfl) (fun X hC hR => ?_)
  have hb60 := hI.bb; have hle := hP.2.2.2
  show V X (wX k g a σ ν) [(0, .ref (a 3)), (1, .int 5), (2, .int 3)] [] 0
  refine V.iload_n (pc := 0) 1 hC dX1_readSide_0 rfl ?_
  refine V.iconst (pc := 1) 5 hC dX1_readSide_1 (by decide) ?_
  refine V.icmp_ge (pc := 2) 14 hC dX1_readSide_2 (by decide) (fun c_2 => ?_) (fun c_2 => ?_)
  · have nc_2 : 5 ≤ 5 := (nle (nl 5) (nl 5) (by omega) (by omega)).mp c_2
    refine V.aload_n (pc := 14) 0 hC dX1_readSide_14 rfl ?_
    refine V.iload_n (pc := 15) 2 hC dX1_readSide_15 rfl ?_
    refine V.callV0 (pc := 16) (as := [.int 3]) hC (c_X1_single_3 σ ν ρ u L p hT hI hu2 hP) mu_X1_readSingle ml_X1_64 (by decide) ⟨3, 1, TX1, 5, _, rfl, gx_3⟩ rfl (Nat.le_of_ble_eq_true rfl) dX1_readSide_16 ?_
    rintro _ ⟨f16_0, i16_1, i16_2⟩ ⟨rfl, hu16_0⟩
    have hu16_0 : COut (ν 70) L ((sgS (lkS ρ) (nI u) 2) p) f16_0 i16_1 i16_2 := hu16_0
    show V X (wX k g a σ (va_up (va_up (va_up ν 70 f16_0) 71 (fun _ => i16_1)) 72 (fun _ => i16_2))) [(0, .ref (a 3)), (1, .int 5), (2, .int 3)] [.int (bI (((sgS (lkS ρ) (nI u) 2) p).1 = true))] 19
    exact hR (bI (((sgS (lkS ρ) (nI u) 2) p).1 = true)) (f16_0, i16_1, i16_2) _ _ dX1_readSide_19 (by first | rfl | exact bI_n _) ⟨rfl, hu16_0⟩
  · have nc_2 : ¬ (5 ≤ 5) := fun z => c_2 ((nle (nl 5) (nl 5) (by omega) (by omega)).mpr z)
    exact absurd c_2 (by decide)
set_option maxHeartbeats 4000000 in
set_option maxRecDepth 100000 in
theorem c_X1_part_4_3 {l : Launch} {D : va_G} {k : Nat → ClassId} {g a : Nat → Nat} (σ ν : St) (ρ : Rw) (u L p : Nat) (hT : RT σ ρ) (hI : Inv ρ) (hu2 : u < 2) (hP : CIn (nN (ρ 5)) (ν 71 0) (ν 72 0) (ν 73 0) u L p) : Ct l D k g yX1_readPart cX1_readPart 7 (some .boolean) 30 704 [.ref (a 3), .int 4, .int 3] (S := Rw × Int32 × Int32) (wX k g a σ ν) (fun uu => wX k g a σ (va_up (va_up (va_up ν 70 uu.1) 71 (fun _ => uu.2.1)) 72 (fun _ => uu.2.2))) (fun vv uu => vv = some (.int (bI (((lvS (lkS ρ) (sgS (lkS ρ) (nI u) 2) 1) p).1 = true))) ∧ COut (ν 70) L ((lvS (lkS ρ) (sgS (lkS ρ) (nI u) 2) 1) p) uu.1 uu.2.1 uu.2.2) := by
  refine Ct.ofI RX1 rfl (by decide +kernel) (Nat.le_of_ble_eq_true rfl) (fun X hC hR => ?_)
  have hb60 := hI.bb; have hle := hP.2.2.2
  show V X (wX k g a σ ν) [(0, .ref (a 3)), (1, .int 4), (2, .int 3)] [] 0
  refine V.aload_n (pc := 0) 0 hC dX1_readPart_0 rfl ?_
  refine V.iload_n (pc := 1) 1 hC dX1_readPart_1 rfl ?_
  refine V.iconst (pc := 2) 1 hC dX1_readPart_2 (by decide) ?_
  refine V.iadd (pc := 3) hC dX1_readPart_3 ?_
  refine V.eqi (y := 5) (by decide) ?_
  refine V.iload_n (pc := 4) 2 hC dX1_readPart_4 rfl ?_
  refine V.callV0 (pc := 5) (as := [.int 5, .int 3]) hC (c_X1_side_5_3 σ ν ρ u L p hT hI hu2 hP) mu_X1_readSide ml_X1_49 (by decide) ⟨3, 1, TX1, 5, _, rfl, gx_3⟩ rfl (Nat.le_of_ble_eq_true rfl) dX1_readPart_5 ?_
  rintro _ ⟨f5_0, i5_1, i5_2⟩ ⟨rfl, hu5_0⟩
  have hu5_0 : COut (ν 70) L ((sgS (lkS ρ) (nI u) 2) p) f5_0 i5_1 i5_2 := hu5_0
  show V X (wX k g a σ (va_up (va_up (va_up ν 70 f5_0) 71 (fun _ => i5_1)) 72 (fun _ => i5_2))) [(0, .ref (a 3)), (1, .int 4), (2, .int 3)] [.int (bI (((sgS (lkS ρ) (nI u) 2) p).1 = true))] 8
  refine V.istore_n (pc := 8) [(3, .int (bI (((sgS (lkS ρ) (nI u) 2) p).1 = true))), (0, .ref (a 3)), (1, .int 4), (2, .int 3)] hC dX1_readPart_8 (by decide) rfl ?_
  refine V.iload_n (pc := 9) 2 hC dX1_readPart_9 rfl ?_
  refine V.iconst (pc := 10) 2 hC dX1_readPart_10 (by decide) ?_
  refine V.icmp_ne (pc := 11) 18 hC dX1_readPart_11 (by decide) (fun c_11 => ?_) (fun c_11 => ?_)
  · have nc_11 : ¬ (4 = 2) := fun z => c_11 ((neq (nl 4) (nl 2) (by omega) (by omega)).mpr z)
    refine V.bipush (pc := 18) 60 hC dX1_readPart_18 (by decide) ?_
    refine V.istore (pc := 20) [(4, .int 60), (3, .int (bI (((sgS (lkS ρ) (nI u) 2) p).1 = true))), (0, .ref (a 3)), (1, .int 4), (2, .int 3)] hC dX1_readPart_20 (by decide) rfl ?_
    refine V.iconst (pc := 22) 0 hC dX1_readPart_22 (by decide) ?_
    refine V.istore (pc := 23) [(5, .int 0), (4, .int 60), (3, .int (bI (((sgS (lkS ρ) (nI u) 2) p).1 = true))), (0, .ref (a 3)), (1, .int 4), (2, .int 3)] hC dX1_readPart_23 (by decide) rfl ?_
    have loop_25 : ∀ (n : Nat) (x : Res) (i : Nat) (f70 : Rw) (i71 i72 : Int32), i + n = 60 → GR (nN (ρ 5)) p x → COut (ν 70) L x f70 i71 i72 → (lvS (lkS ρ) (sgS (lkS ρ) (nI u) 2) 1) p = lpS (lkS ρ) (sgS (lkS ρ) (nI u) 2) 4 n x → V X (wX k g a σ (va_up (va_up (va_up ν 70 f70) 71 (fun _ => i71)) 72 (fun _ => i72))) [(0, .ref (a 3)), (1, .int 4), (2, .int 3), (3, .int (bI (x.1 = true))), (4, .int 60), (5, .int (nI i))] [] 25 := by
      intro n
      induction n with
      | zero =>
        intro x i f70 i71 i72 hi hg hx hv
        have hxb := hg.2.1
        refine V.iload (pc := 25) 5 hC dX1_readPart_25 rfl ?_
        refine V.iload (pc := 27) 4 hC dX1_readPart_27 rfl ?_
        refine V.icmp_ge (pc := 29) 85 hC dX1_readPart_29 (by decide) (fun c_29 => ?_) (fun c_29 => ?_)
        · have nc_29 : 60 ≤ i := (nle (nl 60) rfl (by omega) (by omega)).mp c_29
          refine V.iload_n (pc := 85) 3 hC dX1_readPart_85 rfl ?_
          exact hR (bI (x.1 = true)) (f70, i71, i72) _ _ dX1_readPart_86 (by first | rfl | exact bI_n _) ⟨by rw [show (lvS (lkS ρ) (sgS (lkS ρ) (nI u) 2) 1) p = x from hv], by rw [show (lvS (lkS ρ) (sgS (lkS ρ) (nI u) 2) 1) p = x from hv]; exact hx⟩
        · have nc_29 : ¬ (60 ≤ i) := fun z => c_29 ((nle (nl 60) rfl (by omega) (by omega)).mpr z)
          exfalso; omega
      | succ n ih =>
        intro x i f70 i71 i72 hi hg hx hv
        have hxb := hg.2.1
        refine V.iload (pc := 25) 5 hC dX1_readPart_25 rfl ?_
        refine V.iload (pc := 27) 4 hC dX1_readPart_27 rfl ?_
        refine V.icmp_ge (pc := 29) 85 hC dX1_readPart_29 (by decide) (fun c_29 => ?_) (fun c_29 => ?_)
        · have nc_29 : 60 ≤ i := (nle (nl 60) rfl (by omega) (by omega)).mp c_29
          exfalso; omega
        · have nc_29 : ¬ (60 ≤ i) := fun z => c_29 ((nle (nl 60) rfl (by omega) (by omega)).mpr z)
          refine V.iload_n (pc := 32) 3 hC dX1_readPart_32 rfl ?_
          refine V.if_eq_b (P := x.1 = true) (pc := 33) 85 hC dX1_readPart_33 (by decide) (fun c_33 => ?_) (fun c_33 => ?_)
          · refine V.iload_n (pc := 85) 3 hC dX1_readPart_85 rfl ?_
            exact hR (bI (x.1 = true)) (f70, i71, i72) _ _ dX1_readPart_86 (by first | rfl | exact bI_n _) ⟨by rw [show (lvS (lkS ρ) (sgS (lkS ρ) (nI u) 2) 1) p = x from hv.trans (lp_no (fun q => c_33 q.1))], by rw [show (lvS (lkS ρ) (sgS (lkS ρ) (nI u) 2) 1) p = x from hv.trans (lp_no (fun q => c_33 q.1))]; exact hx⟩
          · refine V.aload_n (pc := 36) 0 hC dX1_readPart_36 rfl ?_
            refine V.callV0 (pc := 37) (as := []) hC (c_X1_next σ (va_up (va_up (va_up ν 70 f70) 71 (fun _ => i71)) 72 (fun _ => i72)) ρ x.2.1 hT hI hx.1 (by omega)) mu_X1_next ml_X1_52 (by decide) ⟨3, 1, TX1, 5, _, rfl, gx_3⟩ rfl (Nat.le_of_ble_eq_true rfl) dX1_readPart_37 ?_
            rintro _ _ rfl
            show V X (wX k g a σ (va_up (va_up (va_up ν 70 f70) 71 (fun _ => i71)) 72 (fun _ => i72))) [(0, .ref (a 3)), (1, .int 4), (2, .int 3), (3, .int (bI (x.1 = true))), (4, .int 60), (5, .int (nI i))] [.int (lkS ρ x.2.1)] 40
            refine V.callS0 (pc := 40) (as := [.int (lkS ρ x.2.1)]) hC (c_X1_rankOf (lkS ρ x.2.1) ) ms_X1_rankOf ml_X1_56 (by decide) rfl (Nat.le_of_ble_eq_true rfl) dX1_readPart_40 ?_
            rintro _ _ rfl
            show V X (wX k g a σ (va_up (va_up (va_up ν 70 f70) 71 (fun _ => i71)) 72 (fun _ => i72))) [(0, .ref (a 3)), (1, .int 4), (2, .int 3), (3, .int (bI (x.1 = true))), (4, .int 60), (5, .int (nI i))] [.int (nI (rkS (lkS ρ x.2.1)))] 43
            refine V.iload_n (pc := 43) 1 hC dX1_readPart_43 rfl ?_
            refine V.icmp_ne (pc := 44) 85 hC dX1_readPart_44 (by decide) (fun c_44 => ?_) (fun c_44 => ?_)
            · refine V.iload_n (pc := 85) 3 hC dX1_readPart_85 rfl ?_
              exact hR (bI (x.1 = true)) (f70, i71, i72) _ _ dX1_readPart_86 (by first | rfl | exact bI_n _) ⟨by rw [show (lvS (lkS ρ) (sgS (lkS ρ) (nI u) 2) 1) p = x from hv.trans (lp_no (fun q => c_44 ((rk_e (r := 4) (by omega)).mpr q.2)))], by rw [show (lvS (lkS ρ) (sgS (lkS ρ) (nI u) 2) 1) p = x from hv.trans (lp_no (fun q => c_44 ((rk_e (r := 4) (by omega)).mpr q.2)))]; exact hx⟩
            · have hok := c_33
              have hgx := hg.2.2 hok
              have hrk : rkS (lkS ρ x.2.1) = 4 := (rk_e (r := 4) (by omega)).mp c_44
              have hlt : x.2.1 < nN (ρ 5) := tok_lt lk_tok (rk_op hrk (by omega)).2
              have hgy := (sg_g (u := nI u) (lk_tok (ρ := ρ)) 2) (x.2.1 + 1) hlt
              refine V.aload_n (pc := 47) 0 hC dX1_readPart_47 rfl ?_
              refine V.callV0 (pc := 48) (as := []) hC (c_X1_next σ (va_up (va_up (va_up ν 70 f70) 71 (fun _ => i71)) 72 (fun _ => i72)) ρ x.2.1 hT hI hx.1 (by omega)) mu_X1_next ml_X1_52 (by decide) ⟨3, 1, TX1, 5, _, rfl, gx_3⟩ rfl (Nat.le_of_ble_eq_true rfl) dX1_readPart_48 ?_
              rintro _ _ rfl
              show V X (wX k g a σ (va_up (va_up (va_up ν 70 f70) 71 (fun _ => i71)) 72 (fun _ => i72))) [(0, .ref (a 3)), (1, .int 4), (2, .int 3), (3, .int (bI (x.1 = true))), (4, .int 60), (5, .int (nI i))] [.int (lkS ρ x.2.1)] 51
              refine V.istore (pc := 51) [(6, .int (lkS ρ x.2.1)), (0, .ref (a 3)), (1, .int 4), (2, .int 3), (3, .int (bI (x.1 = true))), (4, .int 60), (5, .int (nI i))] hC dX1_readPart_51 (by decide) rfl ?_
              refine V.aload_n (pc := 53) 1 hC dX1_readPart_53 rfl ?_
              refine V.dup (pc := 54) hC dX1_readPart_54 rfl ?_
              refine V.get (pc := 55) (v := .int i72) hC cf_X1 3 3 fl_X1_29 (by decide) gx_3 rfl dX1_readPart_55 ?_
              refine V.iconst (pc := 58) 1 hC dX1_readPart_58 (by decide) ?_
              refine V.iadd (pc := 59) hC dX1_readPart_59 ?_
              refine V.put (pc := 60) (v := .int (i72 + 1)) hC cf_X1 3 3 (wX k g a σ (va_up (va_up (va_up ν 70 f70) 71 (fun _ => i71)) 72 (fun _ => i72 + 1))) fl_X1_29 (by decide) gx_3 rfl rfl rfl (Nat.le_of_ble_eq_true rfl) rfl dX1_readPart_60 ?_
              refine V.aload_n (pc := 63) 1 hC dX1_readPart_63 rfl ?_
              refine V.iload_n (pc := 64) 2 hC dX1_readPart_64 rfl ?_
              refine V.iconst (pc := 65) 1 hC dX1_readPart_65 (by decide) ?_
              refine V.iadd (pc := 66) hC dX1_readPart_66 ?_
              refine V.eqi (y := 5) (by decide) ?_
              refine V.iload_n (pc := 67) 3 hC dX1_readPart_67 rfl ?_
              refine V.callV0 (pc := 68) (as := [.int 5, .int 3]) hC (c_X1_side_5_3 σ (va_up (va_up (va_up ν 70 f70) 71 (fun _ => i71)) 72 (fun _ => i72 + 1)) ρ u (L + x.2.2.length) (x.2.1 + 1) hT hI hu2 ⟨hP.1, (hx.2.2 hok).1, nadd hx.1 (nl 1), by omega, hlt⟩) mu_X1_readSide ml_X1_49 (by decide) ⟨3, 1, TX1, 5, _, rfl, gx_3⟩ rfl (Nat.le_of_ble_eq_true rfl) dX1_readPart_68 ?_
              rintro _ ⟨f68_0, i68_1, i68_2⟩ ⟨rfl, hu68_0⟩
              have hu68_0 : COut (f70) (L + x.2.2.length) ((sgS (lkS ρ) (nI u) 2) (x.2.1 + 1)) f68_0 i68_1 i68_2 := hu68_0
              show V X (wX k g a σ (va_up (va_up (va_up ν 70 f68_0) 71 (fun _ => i68_1)) 72 (fun _ => i68_2))) [(6, .int (lkS ρ x.2.1)), (0, .ref (a 3)), (1, .int 4), (2, .int 3), (3, .int (bI (x.1 = true))), (4, .int 60), (5, .int (nI i))] [.int (bI (((sgS (lkS ρ) (nI u) 2) (x.2.1 + 1)).1 = true))] 71
              refine V.istore_n (pc := 71) [(3, .int (bI (((sgS (lkS ρ) (nI u) 2) (x.2.1 + 1)).1 = true))), (6, .int (lkS ρ x.2.1)), (0, .ref (a 3)), (1, .int 4), (2, .int 3), (4, .int 60), (5, .int (nI i))] hC dX1_readPart_71 (by decide) rfl ?_
              refine V.aload_n (pc := 72) 2 hC dX1_readPart_72 rfl ?_
              refine V.iload (pc := 73) 1 hC dX1_readPart_73 rfl ?_
              refine V.ineg (pc := 75) hC dX1_readPart_75 ?_
              refine V.callV0 (pc := 76) (as := [.int (-(lkS ρ x.2.1))]) hC (c_X1_write σ (va_up (va_up (va_up ν 70 f68_0) 71 (fun _ => i68_1)) 72 (fun _ => i68_2)) (-(lkS ρ x.2.1)) hu68_0.2.1) mu_X1_write ml_X1_60 (by decide) ⟨3, 1, TX1, 5, _, rfl, gx_3⟩ rfl (Nat.le_of_ble_eq_true rfl) dX1_readPart_76 ?_
              rintro _ ⟨f76_0, i76_1⟩ ⟨rfl, hu76_0⟩
              have hu76_0 : WtF (f68_0) (i68_1) (-(lkS ρ x.2.1)) f76_0 i76_1 := hu76_0
              show V X (wX k g a σ (va_up (va_up (va_up ν 70 f76_0) 71 (fun _ => i76_1)) 72 (fun _ => i68_2))) [(3, .int (bI (((sgS (lkS ρ) (nI u) 2) (x.2.1 + 1)).1 = true))), (6, .int (lkS ρ x.2.1)), (0, .ref (a 3)), (1, .int 4), (2, .int 3), (4, .int 60), (5, .int (nI i))] [] 79
              refine V.iinc (pc := 79) 6 (nI (i + 1)) [(5, .int (nI (i + 1))), (3, .int (bI (((sgS (lkS ρ) (nI u) 2) (x.2.1 + 1)).1 = true))), (6, .int (lkS ρ x.2.1)), (0, .ref (a 3)), (1, .int 4), (2, .int 3), (4, .int 60)] hC dX1_readPart_79 rfl (ncast (nadd rfl (nl 1)) (by omega)) (by decide) rfl ?_
              refine V.goto (pc := 82) 25 hC dX1_readPart_82 (by decide) ?_
              exact V.sub [3, 4, 5, 1, 6, 0] rfl (ih (appS x ((sgS (lkS ρ) (nI u) 2) (x.2.1 + 1)) (lkS ρ x.2.1)) (i + 1) f76_0 i76_1 i68_2 (by omega) (hg.app hok hgy (rk_op hrk (by omega)).1) (CO_app hx hok hu68_0 (cd_op1 (rk_op hrk (by omega)).1).symm hu76_0 (fun q => by have := hgy.2.2 q; have := hgy.2.1; omega)) (hv.trans (lp_yes ⟨hok, hrk⟩)))
    exact V.sub [3, 4, 5, 2, 1, 0] rfl (loop_25 60 ((sgS (lkS ρ) (nI u) 2) p) 0 f5_0 i5_1 i5_2 (by omega) ((sg_g (u := nI u) (lk_tok (ρ := ρ)) 2) p (by omega)) hu5_0 rfl)
  · have nc_11 : 4 = 2 := (neq (nl 4) (nl 2) (by omega) (by omega)).mp c_11
    exact absurd c_11 (by decide)
set_option maxHeartbeats 4000000 in
set_option maxRecDepth 100000 in
theorem c_X1_side_4_3 {l : Launch} {D : va_G} {k : Nat → ClassId} {g a : Nat → Nat} (σ ν : St) (ρ : Rw) (u L p : Nat) (hT : RT σ ρ) (hI : Inv ρ) (hu2 : u < 2) (hP : CIn (nN (ρ 5)) (ν 71 0) (ν 72 0) (ν 73 0) u L p) : Ct l D k g yX1_readSide cX1_readSide 3 (some .boolean) 31 730 [.ref (a 3), .int 4, .int 3] (S := Rw × Int32 × Int32) (wX k g a σ ν) (fun uu => wX k g a σ (va_up (va_up (va_up ν 70 uu.1) 71 (fun _ => uu.2.1)) 72 (fun _ => uu.2.2))) (fun vv uu => vv = some (.int (bI (((lvS (lkS ρ) (sgS (lkS ρ) (nI u) 2) 1) p).1 = true))) ∧ COut (ν 70) L ((lvS (lkS ρ) (sgS (lkS ρ) (nI u) 2) 1) p) uu.1 uu.2.1 uu.2.2) := by
  refine Ct.ofI RX1 rfl (by decide +kernel) (Nat.le_of_ble_eq_true rfl) (fun X hC hR => ?_)
  have hb60 := hI.bb; have hle := hP.2.2.2
  show V X (wX k g a σ ν) [(0, .ref (a 3)), (1, .int 4), (2, .int 3)] [] 0
  refine V.iload_n (pc := 0) 1 hC dX1_readSide_0 rfl ?_
  refine V.iconst (pc := 1) 5 hC dX1_readSide_1 (by decide) ?_
  refine V.icmp_ge (pc := 2) 14 hC dX1_readSide_2 (by decide) (fun c_2 => ?_) (fun c_2 => ?_)
  · have nc_2 : 5 ≤ 4 := (nle (nl 5) (nl 4) (by omega) (by omega)).mp c_2
    exact absurd c_2 (by decide)
  · have nc_2 : ¬ (5 ≤ 4) := fun z => c_2 ((nle (nl 5) (nl 4) (by omega) (by omega)).mpr z)
    refine V.aload_n (pc := 5) 0 hC dX1_readSide_5 rfl ?_
    refine V.iload_n (pc := 6) 1 hC dX1_readSide_6 rfl ?_
    refine V.iload_n (pc := 7) 2 hC dX1_readSide_7 rfl ?_
    refine V.callV0 (pc := 8) (as := [.int 4, .int 3]) hC (c_X1_part_4_3 σ ν ρ u L p hT hI hu2 hP) mu_X1_readPart ml_X1_36 (by decide) ⟨3, 1, TX1, 5, _, rfl, gx_3⟩ rfl (Nat.le_of_ble_eq_true rfl) dX1_readSide_8 ?_
    rintro _ ⟨f8_0, i8_1, i8_2⟩ ⟨rfl, hu8_0⟩
    have hu8_0 : COut (ν 70) L ((lvS (lkS ρ) (sgS (lkS ρ) (nI u) 2) 1) p) f8_0 i8_1 i8_2 := hu8_0
    show V X (wX k g a σ (va_up (va_up (va_up ν 70 f8_0) 71 (fun _ => i8_1)) 72 (fun _ => i8_2))) [(0, .ref (a 3)), (1, .int 4), (2, .int 3)] [.int (bI (((lvS (lkS ρ) (sgS (lkS ρ) (nI u) 2) 1) p).1 = true))] 11
    refine V.goto (pc := 11) 19 hC dX1_readSide_11 (by decide) ?_
    exact hR (bI (((lvS (lkS ρ) (sgS (lkS ρ) (nI u) 2) 1) p).1 = true)) (f8_0, i8_1, i8_2) _ _ dX1_readSide_19 (by first | rfl | exact bI_n _) ⟨rfl, hu8_0⟩
set_option maxHeartbeats 4000000 in
set_option maxRecDepth 100000 in
theorem c_X1_part_3_3 {l : Launch} {D : va_G} {k : Nat → ClassId} {g a : Nat → Nat} (σ ν : St) (ρ : Rw) (u L p : Nat) (hT : RT σ ρ) (hI : Inv ρ) (hu2 : u < 2) (hP : CIn (nN (ρ 5)) (ν 71 0) (ν 72 0) (ν 73 0) u L p) : Ct l D k g yX1_readPart cX1_readPart 7 (some .boolean) 32 752 [.ref (a 3), .int 3, .int 3] (S := Rw × Int32 × Int32) (wX k g a σ ν) (fun uu => wX k g a σ (va_up (va_up (va_up ν 70 uu.1) 71 (fun _ => uu.2.1)) 72 (fun _ => uu.2.2))) (fun vv uu => vv = some (.int (bI (((lvS (lkS ρ) (sgS (lkS ρ) (nI u) 2) 2) p).1 = true))) ∧ COut (ν 70) L ((lvS (lkS ρ) (sgS (lkS ρ) (nI u) 2) 2) p) uu.1 uu.2.1 uu.2.2) := by
  refine Ct.ofI RX1 rfl (by decide +kernel) (Nat.le_of_ble_eq_true rfl) (fun X hC hR => ?_)
  have hb60 := hI.bb; have hle := hP.2.2.2
  show V X (wX k g a σ ν) [(0, .ref (a 3)), (1, .int 3), (2, .int 3)] [] 0
  refine V.aload_n (pc := 0) 0 hC dX1_readPart_0 rfl ?_
  refine V.iload_n (pc := 1) 1 hC dX1_readPart_1 rfl ?_
  refine V.iconst (pc := 2) 1 hC dX1_readPart_2 (by decide) ?_
  refine V.iadd (pc := 3) hC dX1_readPart_3 ?_
  refine V.eqi (y := 4) (by decide) ?_
  refine V.iload_n (pc := 4) 2 hC dX1_readPart_4 rfl ?_
  refine V.callV0 (pc := 5) (as := [.int 4, .int 3]) hC (c_X1_side_4_3 σ ν ρ u L p hT hI hu2 hP) mu_X1_readSide ml_X1_49 (by decide) ⟨3, 1, TX1, 5, _, rfl, gx_3⟩ rfl (Nat.le_of_ble_eq_true rfl) dX1_readPart_5 ?_
  rintro _ ⟨f5_0, i5_1, i5_2⟩ ⟨rfl, hu5_0⟩
  have hu5_0 : COut (ν 70) L ((lvS (lkS ρ) (sgS (lkS ρ) (nI u) 2) 1) p) f5_0 i5_1 i5_2 := hu5_0
  show V X (wX k g a σ (va_up (va_up (va_up ν 70 f5_0) 71 (fun _ => i5_1)) 72 (fun _ => i5_2))) [(0, .ref (a 3)), (1, .int 3), (2, .int 3)] [.int (bI (((lvS (lkS ρ) (sgS (lkS ρ) (nI u) 2) 1) p).1 = true))] 8
  refine V.istore_n (pc := 8) [(3, .int (bI (((lvS (lkS ρ) (sgS (lkS ρ) (nI u) 2) 1) p).1 = true))), (0, .ref (a 3)), (1, .int 3), (2, .int 3)] hC dX1_readPart_8 (by decide) rfl ?_
  refine V.iload_n (pc := 9) 2 hC dX1_readPart_9 rfl ?_
  refine V.iconst (pc := 10) 2 hC dX1_readPart_10 (by decide) ?_
  refine V.icmp_ne (pc := 11) 18 hC dX1_readPart_11 (by decide) (fun c_11 => ?_) (fun c_11 => ?_)
  · have nc_11 : ¬ (3 = 2) := fun z => c_11 ((neq (nl 3) (nl 2) (by omega) (by omega)).mpr z)
    refine V.bipush (pc := 18) 60 hC dX1_readPart_18 (by decide) ?_
    refine V.istore (pc := 20) [(4, .int 60), (3, .int (bI (((lvS (lkS ρ) (sgS (lkS ρ) (nI u) 2) 1) p).1 = true))), (0, .ref (a 3)), (1, .int 3), (2, .int 3)] hC dX1_readPart_20 (by decide) rfl ?_
    refine V.iconst (pc := 22) 0 hC dX1_readPart_22 (by decide) ?_
    refine V.istore (pc := 23) [(5, .int 0), (4, .int 60), (3, .int (bI (((lvS (lkS ρ) (sgS (lkS ρ) (nI u) 2) 1) p).1 = true))), (0, .ref (a 3)), (1, .int 3), (2, .int 3)] hC dX1_readPart_23 (by decide) rfl ?_
    have loop_25 : ∀ (n : Nat) (x : Res) (i : Nat) (f70 : Rw) (i71 i72 : Int32), i + n = 60 → GR (nN (ρ 5)) p x → COut (ν 70) L x f70 i71 i72 → (lvS (lkS ρ) (sgS (lkS ρ) (nI u) 2) 2) p = lpS (lkS ρ) (lvS (lkS ρ) (sgS (lkS ρ) (nI u) 2) 1) 3 n x → V X (wX k g a σ (va_up (va_up (va_up ν 70 f70) 71 (fun _ => i71)) 72 (fun _ => i72))) [(0, .ref (a 3)), (1, .int 3), (2, .int 3), (3, .int (bI (x.1 = true))), (4, .int 60), (5, .int (nI i))] [] 25 := by
      intro n
      induction n with
      | zero =>
        intro x i f70 i71 i72 hi hg hx hv
        have hxb := hg.2.1
        refine V.iload (pc := 25) 5 hC dX1_readPart_25 rfl ?_
        refine V.iload (pc := 27) 4 hC dX1_readPart_27 rfl ?_
        refine V.icmp_ge (pc := 29) 85 hC dX1_readPart_29 (by decide) (fun c_29 => ?_) (fun c_29 => ?_)
        · have nc_29 : 60 ≤ i := (nle (nl 60) rfl (by omega) (by omega)).mp c_29
          refine V.iload_n (pc := 85) 3 hC dX1_readPart_85 rfl ?_
          exact hR (bI (x.1 = true)) (f70, i71, i72) _ _ dX1_readPart_86 (by first | rfl | exact bI_n _) ⟨by rw [show (lvS (lkS ρ) (sgS (lkS ρ) (nI u) 2) 2) p = x from hv], by rw [show (lvS (lkS ρ) (sgS (lkS ρ) (nI u) 2) 2) p = x from hv]; exact hx⟩
        · have nc_29 : ¬ (60 ≤ i) := fun z => c_29 ((nle (nl 60) rfl (by omega) (by omega)).mpr z)
          exfalso; omega
      | succ n ih =>
        intro x i f70 i71 i72 hi hg hx hv
        have hxb := hg.2.1
        refine V.iload (pc := 25) 5 hC dX1_readPart_25 rfl ?_
        refine V.iload (pc := 27) 4 hC dX1_readPart_27 rfl ?_
        refine V.icmp_ge (pc := 29) 85 hC dX1_readPart_29 (by decide) (fun c_29 => ?_) (fun c_29 => ?_)
        · have nc_29 : 60 ≤ i := (nle (nl 60) rfl (by omega) (by omega)).mp c_29
          exfalso; omega
        · have nc_29 : ¬ (60 ≤ i) := fun z => c_29 ((nle (nl 60) rfl (by omega) (by omega)).mpr z)
          refine V.iload_n (pc := 32) 3 hC dX1_readPart_32 rfl ?_
          refine V.if_eq_b (P := x.1 = true) (pc := 33) 85 hC dX1_readPart_33 (by decide) (fun c_33 => ?_) (fun c_33 => ?_)
          · refine V.iload_n (pc := 85) 3 hC dX1_readPart_85 rfl ?_
            exact hR (bI (x.1 = true)) (f70, i71, i72) _ _ dX1_readPart_86 (by first | rfl | exact bI_n _) ⟨by rw [show (lvS (lkS ρ) (sgS (lkS ρ) (nI u) 2) 2) p = x from hv.trans (lp_no (fun q => c_33 q.1))], by rw [show (lvS (lkS ρ) (sgS (lkS ρ) (nI u) 2) 2) p = x from hv.trans (lp_no (fun q => c_33 q.1))]; exact hx⟩
          · refine V.aload_n (pc := 36) 0 hC dX1_readPart_36 rfl ?_
            refine V.callV0 (pc := 37) (as := []) hC (c_X1_next σ (va_up (va_up (va_up ν 70 f70) 71 (fun _ => i71)) 72 (fun _ => i72)) ρ x.2.1 hT hI hx.1 (by omega)) mu_X1_next ml_X1_52 (by decide) ⟨3, 1, TX1, 5, _, rfl, gx_3⟩ rfl (Nat.le_of_ble_eq_true rfl) dX1_readPart_37 ?_
            rintro _ _ rfl
            show V X (wX k g a σ (va_up (va_up (va_up ν 70 f70) 71 (fun _ => i71)) 72 (fun _ => i72))) [(0, .ref (a 3)), (1, .int 3), (2, .int 3), (3, .int (bI (x.1 = true))), (4, .int 60), (5, .int (nI i))] [.int (lkS ρ x.2.1)] 40
            refine V.callS0 (pc := 40) (as := [.int (lkS ρ x.2.1)]) hC (c_X1_rankOf (lkS ρ x.2.1) ) ms_X1_rankOf ml_X1_56 (by decide) rfl (Nat.le_of_ble_eq_true rfl) dX1_readPart_40 ?_
            rintro _ _ rfl
            show V X (wX k g a σ (va_up (va_up (va_up ν 70 f70) 71 (fun _ => i71)) 72 (fun _ => i72))) [(0, .ref (a 3)), (1, .int 3), (2, .int 3), (3, .int (bI (x.1 = true))), (4, .int 60), (5, .int (nI i))] [.int (nI (rkS (lkS ρ x.2.1)))] 43
            refine V.iload_n (pc := 43) 1 hC dX1_readPart_43 rfl ?_
            refine V.icmp_ne (pc := 44) 85 hC dX1_readPart_44 (by decide) (fun c_44 => ?_) (fun c_44 => ?_)
            · refine V.iload_n (pc := 85) 3 hC dX1_readPart_85 rfl ?_
              exact hR (bI (x.1 = true)) (f70, i71, i72) _ _ dX1_readPart_86 (by first | rfl | exact bI_n _) ⟨by rw [show (lvS (lkS ρ) (sgS (lkS ρ) (nI u) 2) 2) p = x from hv.trans (lp_no (fun q => c_44 ((rk_e (r := 3) (by omega)).mpr q.2)))], by rw [show (lvS (lkS ρ) (sgS (lkS ρ) (nI u) 2) 2) p = x from hv.trans (lp_no (fun q => c_44 ((rk_e (r := 3) (by omega)).mpr q.2)))]; exact hx⟩
            · have hok := c_33
              have hgx := hg.2.2 hok
              have hrk : rkS (lkS ρ x.2.1) = 3 := (rk_e (r := 3) (by omega)).mp c_44
              have hlt : x.2.1 < nN (ρ 5) := tok_lt lk_tok (rk_op hrk (by omega)).2
              have hgy := (lv_g (lk_tok (ρ := ρ)) (sg_g (u := nI u) (lk_tok (ρ := ρ)) 2) 1) (x.2.1 + 1) hlt
              refine V.aload_n (pc := 47) 0 hC dX1_readPart_47 rfl ?_
              refine V.callV0 (pc := 48) (as := []) hC (c_X1_next σ (va_up (va_up (va_up ν 70 f70) 71 (fun _ => i71)) 72 (fun _ => i72)) ρ x.2.1 hT hI hx.1 (by omega)) mu_X1_next ml_X1_52 (by decide) ⟨3, 1, TX1, 5, _, rfl, gx_3⟩ rfl (Nat.le_of_ble_eq_true rfl) dX1_readPart_48 ?_
              rintro _ _ rfl
              show V X (wX k g a σ (va_up (va_up (va_up ν 70 f70) 71 (fun _ => i71)) 72 (fun _ => i72))) [(0, .ref (a 3)), (1, .int 3), (2, .int 3), (3, .int (bI (x.1 = true))), (4, .int 60), (5, .int (nI i))] [.int (lkS ρ x.2.1)] 51
              refine V.istore (pc := 51) [(6, .int (lkS ρ x.2.1)), (0, .ref (a 3)), (1, .int 3), (2, .int 3), (3, .int (bI (x.1 = true))), (4, .int 60), (5, .int (nI i))] hC dX1_readPart_51 (by decide) rfl ?_
              refine V.aload_n (pc := 53) 1 hC dX1_readPart_53 rfl ?_
              refine V.dup (pc := 54) hC dX1_readPart_54 rfl ?_
              refine V.get (pc := 55) (v := .int i72) hC cf_X1 3 3 fl_X1_29 (by decide) gx_3 rfl dX1_readPart_55 ?_
              refine V.iconst (pc := 58) 1 hC dX1_readPart_58 (by decide) ?_
              refine V.iadd (pc := 59) hC dX1_readPart_59 ?_
              refine V.put (pc := 60) (v := .int (i72 + 1)) hC cf_X1 3 3 (wX k g a σ (va_up (va_up (va_up ν 70 f70) 71 (fun _ => i71)) 72 (fun _ => i72 + 1))) fl_X1_29 (by decide) gx_3 rfl rfl rfl (Nat.le_of_ble_eq_true rfl) rfl dX1_readPart_60 ?_
              refine V.aload_n (pc := 63) 1 hC dX1_readPart_63 rfl ?_
              refine V.iload_n (pc := 64) 2 hC dX1_readPart_64 rfl ?_
              refine V.iconst (pc := 65) 1 hC dX1_readPart_65 (by decide) ?_
              refine V.iadd (pc := 66) hC dX1_readPart_66 ?_
              refine V.eqi (y := 4) (by decide) ?_
              refine V.iload_n (pc := 67) 3 hC dX1_readPart_67 rfl ?_
              refine V.callV0 (pc := 68) (as := [.int 4, .int 3]) hC (c_X1_side_4_3 σ (va_up (va_up (va_up ν 70 f70) 71 (fun _ => i71)) 72 (fun _ => i72 + 1)) ρ u (L + x.2.2.length) (x.2.1 + 1) hT hI hu2 ⟨hP.1, (hx.2.2 hok).1, nadd hx.1 (nl 1), by omega, hlt⟩) mu_X1_readSide ml_X1_49 (by decide) ⟨3, 1, TX1, 5, _, rfl, gx_3⟩ rfl (Nat.le_of_ble_eq_true rfl) dX1_readPart_68 ?_
              rintro _ ⟨f68_0, i68_1, i68_2⟩ ⟨rfl, hu68_0⟩
              have hu68_0 : COut (f70) (L + x.2.2.length) ((lvS (lkS ρ) (sgS (lkS ρ) (nI u) 2) 1) (x.2.1 + 1)) f68_0 i68_1 i68_2 := hu68_0
              show V X (wX k g a σ (va_up (va_up (va_up ν 70 f68_0) 71 (fun _ => i68_1)) 72 (fun _ => i68_2))) [(6, .int (lkS ρ x.2.1)), (0, .ref (a 3)), (1, .int 3), (2, .int 3), (3, .int (bI (x.1 = true))), (4, .int 60), (5, .int (nI i))] [.int (bI (((lvS (lkS ρ) (sgS (lkS ρ) (nI u) 2) 1) (x.2.1 + 1)).1 = true))] 71
              refine V.istore_n (pc := 71) [(3, .int (bI (((lvS (lkS ρ) (sgS (lkS ρ) (nI u) 2) 1) (x.2.1 + 1)).1 = true))), (6, .int (lkS ρ x.2.1)), (0, .ref (a 3)), (1, .int 3), (2, .int 3), (4, .int 60), (5, .int (nI i))] hC dX1_readPart_71 (by decide) rfl ?_
              refine V.aload_n (pc := 72) 2 hC dX1_readPart_72 rfl ?_
              refine V.iload (pc := 73) 1 hC dX1_readPart_73 rfl ?_
              refine V.ineg (pc := 75) hC dX1_readPart_75 ?_
              refine V.callV0 (pc := 76) (as := [.int (-(lkS ρ x.2.1))]) hC (c_X1_write σ (va_up (va_up (va_up ν 70 f68_0) 71 (fun _ => i68_1)) 72 (fun _ => i68_2)) (-(lkS ρ x.2.1)) hu68_0.2.1) mu_X1_write ml_X1_60 (by decide) ⟨3, 1, TX1, 5, _, rfl, gx_3⟩ rfl (Nat.le_of_ble_eq_true rfl) dX1_readPart_76 ?_
              rintro _ ⟨f76_0, i76_1⟩ ⟨rfl, hu76_0⟩
              have hu76_0 : WtF (f68_0) (i68_1) (-(lkS ρ x.2.1)) f76_0 i76_1 := hu76_0
              show V X (wX k g a σ (va_up (va_up (va_up ν 70 f76_0) 71 (fun _ => i76_1)) 72 (fun _ => i68_2))) [(3, .int (bI (((lvS (lkS ρ) (sgS (lkS ρ) (nI u) 2) 1) (x.2.1 + 1)).1 = true))), (6, .int (lkS ρ x.2.1)), (0, .ref (a 3)), (1, .int 3), (2, .int 3), (4, .int 60), (5, .int (nI i))] [] 79
              refine V.iinc (pc := 79) 6 (nI (i + 1)) [(5, .int (nI (i + 1))), (3, .int (bI (((lvS (lkS ρ) (sgS (lkS ρ) (nI u) 2) 1) (x.2.1 + 1)).1 = true))), (6, .int (lkS ρ x.2.1)), (0, .ref (a 3)), (1, .int 3), (2, .int 3), (4, .int 60)] hC dX1_readPart_79 rfl (ncast (nadd rfl (nl 1)) (by omega)) (by decide) rfl ?_
              refine V.goto (pc := 82) 25 hC dX1_readPart_82 (by decide) ?_
              exact V.sub [3, 4, 5, 1, 6, 0] rfl (ih (appS x ((lvS (lkS ρ) (sgS (lkS ρ) (nI u) 2) 1) (x.2.1 + 1)) (lkS ρ x.2.1)) (i + 1) f76_0 i76_1 i68_2 (by omega) (hg.app hok hgy (rk_op hrk (by omega)).1) (CO_app hx hok hu68_0 (cd_op1 (rk_op hrk (by omega)).1).symm hu76_0 (fun q => by have := hgy.2.2 q; have := hgy.2.1; omega)) (hv.trans (lp_yes ⟨hok, hrk⟩)))
    exact V.sub [3, 4, 5, 2, 1, 0] rfl (loop_25 60 ((lvS (lkS ρ) (sgS (lkS ρ) (nI u) 2) 1) p) 0 f5_0 i5_1 i5_2 (by omega) ((lv_g (lk_tok (ρ := ρ)) (sg_g (u := nI u) (lk_tok (ρ := ρ)) 2) 1) p (by omega)) hu5_0 rfl)
  · have nc_11 : 3 = 2 := (neq (nl 3) (nl 2) (by omega) (by omega)).mp c_11
    exact absurd c_11 (by decide)
set_option maxHeartbeats 4000000 in
set_option maxRecDepth 100000 in
theorem c_X1_side_3_3 {l : Launch} {D : va_G} {k : Nat → ClassId} {g a : Nat → Nat} (σ ν : St) (ρ : Rw) (u L p : Nat) (hT : RT σ ρ) (hI : Inv ρ) (hu2 : u < 2) (hP : CIn (nN (ρ 5)) (ν 71 0) (ν 72 0) (ν 73 0) u L p) : Ct l D k g yX1_readSide cX1_readSide 3 (some .boolean) 33 778 [.ref (a 3), .int 3, .int 3] (S := Rw × Int32 × Int32) (wX k g a σ ν) (fun uu => wX k g a σ (va_up (va_up (va_up ν 70 uu.1) 71 (fun _ => uu.2.1)) 72 (fun _ => uu.2.2))) (fun vv uu => vv = some (.int (bI (((lvS (lkS ρ) (sgS (lkS ρ) (nI u) 2) 2) p).1 = true))) ∧ COut (ν 70) L ((lvS (lkS ρ) (sgS (lkS ρ) (nI u) 2) 2) p) uu.1 uu.2.1 uu.2.2) := by
  refine Ct.ofI RX1 rfl (by decide +kernel) (Nat.le_of_ble_eq_true rfl) (fun X hC hR => ?_)
  have hb60 := hI.bb; have hle := hP.2.2.2
  show V X (wX k g a σ ν) [(0, .ref (a 3)), (1, .int 3), (2, .int 3)] [] 0
  refine V.iload_n (pc := 0) 1 hC dX1_readSide_0 rfl ?_
  refine V.iconst (pc := 1) 5 hC dX1_readSide_1 (by decide) ?_
  refine V.icmp_ge (pc := 2) 14 hC dX1_readSide_2 (by decide) (fun c_2 => ?_) (fun c_2 => ?_)
  · have nc_2 : 5 ≤ 3 := (nle (nl 5) (nl 3) (by omega) (by omega)).mp c_2
    exact absurd c_2 (by decide)
  · have nc_2 : ¬ (5 ≤ 3) := fun z => c_2 ((nle (nl 5) (nl 3) (by omega) (by omega)).mpr z)
    refine V.aload_n (pc := 5) 0 hC dX1_readSide_5 rfl ?_
    refine V.iload_n (pc := 6) 1 hC dX1_readSide_6 rfl ?_
    refine V.iload_n (pc := 7) 2 hC dX1_readSide_7 rfl ?_
    refine V.callV0 (pc := 8) (as := [.int 3, .int 3]) hC (c_X1_part_3_3 σ ν ρ u L p hT hI hu2 hP) mu_X1_readPart ml_X1_36 (by decide) ⟨3, 1, TX1, 5, _, rfl, gx_3⟩ rfl (Nat.le_of_ble_eq_true rfl) dX1_readSide_8 ?_
    rintro _ ⟨f8_0, i8_1, i8_2⟩ ⟨rfl, hu8_0⟩
    have hu8_0 : COut (ν 70) L ((lvS (lkS ρ) (sgS (lkS ρ) (nI u) 2) 2) p) f8_0 i8_1 i8_2 := hu8_0
    show V X (wX k g a σ (va_up (va_up (va_up ν 70 f8_0) 71 (fun _ => i8_1)) 72 (fun _ => i8_2))) [(0, .ref (a 3)), (1, .int 3), (2, .int 3)] [.int (bI (((lvS (lkS ρ) (sgS (lkS ρ) (nI u) 2) 2) p).1 = true))] 11
    refine V.goto (pc := 11) 19 hC dX1_readSide_11 (by decide) ?_
    exact hR (bI (((lvS (lkS ρ) (sgS (lkS ρ) (nI u) 2) 2) p).1 = true)) (f8_0, i8_1, i8_2) _ _ dX1_readSide_19 (by first | rfl | exact bI_n _) ⟨rfl, hu8_0⟩
set_option maxHeartbeats 4000000 in
set_option maxRecDepth 100000 in
theorem c_X1_part_2_3 {l : Launch} {D : va_G} {k : Nat → ClassId} {g a : Nat → Nat} (σ ν : St) (ρ : Rw) (u L p : Nat) (hT : RT σ ρ) (hI : Inv ρ) (hu2 : u < 2) (hP : CIn (nN (ρ 5)) (ν 71 0) (ν 72 0) (ν 73 0) u L p) : Ct l D k g yX1_readPart cX1_readPart 7 (some .boolean) 34 800 [.ref (a 3), .int 2, .int 3] (S := Rw × Int32 × Int32) (wX k g a σ ν) (fun uu => wX k g a σ (va_up (va_up (va_up ν 70 uu.1) 71 (fun _ => uu.2.1)) 72 (fun _ => uu.2.2))) (fun vv uu => vv = some (.int (bI (((lvS (lkS ρ) (sgS (lkS ρ) (nI u) 2) 3) p).1 = true))) ∧ COut (ν 70) L ((lvS (lkS ρ) (sgS (lkS ρ) (nI u) 2) 3) p) uu.1 uu.2.1 uu.2.2) := by
  refine Ct.ofI RX1 rfl (by decide +kernel) (Nat.le_of_ble_eq_true rfl) (fun X hC hR => ?_)
  have hb60 := hI.bb; have hle := hP.2.2.2
  show V X (wX k g a σ ν) [(0, .ref (a 3)), (1, .int 2), (2, .int 3)] [] 0
  refine V.aload_n (pc := 0) 0 hC dX1_readPart_0 rfl ?_
  refine V.iload_n (pc := 1) 1 hC dX1_readPart_1 rfl ?_
  refine V.iconst (pc := 2) 1 hC dX1_readPart_2 (by decide) ?_
  refine V.iadd (pc := 3) hC dX1_readPart_3 ?_
  refine V.eqi (y := 3) (by decide) ?_
  refine V.iload_n (pc := 4) 2 hC dX1_readPart_4 rfl ?_
  refine V.callV0 (pc := 5) (as := [.int 3, .int 3]) hC (c_X1_side_3_3 σ ν ρ u L p hT hI hu2 hP) mu_X1_readSide ml_X1_49 (by decide) ⟨3, 1, TX1, 5, _, rfl, gx_3⟩ rfl (Nat.le_of_ble_eq_true rfl) dX1_readPart_5 ?_
  rintro _ ⟨f5_0, i5_1, i5_2⟩ ⟨rfl, hu5_0⟩
  have hu5_0 : COut (ν 70) L ((lvS (lkS ρ) (sgS (lkS ρ) (nI u) 2) 2) p) f5_0 i5_1 i5_2 := hu5_0
  show V X (wX k g a σ (va_up (va_up (va_up ν 70 f5_0) 71 (fun _ => i5_1)) 72 (fun _ => i5_2))) [(0, .ref (a 3)), (1, .int 2), (2, .int 3)] [.int (bI (((lvS (lkS ρ) (sgS (lkS ρ) (nI u) 2) 2) p).1 = true))] 8
  refine V.istore_n (pc := 8) [(3, .int (bI (((lvS (lkS ρ) (sgS (lkS ρ) (nI u) 2) 2) p).1 = true))), (0, .ref (a 3)), (1, .int 2), (2, .int 3)] hC dX1_readPart_8 (by decide) rfl ?_
  refine V.iload_n (pc := 9) 2 hC dX1_readPart_9 rfl ?_
  refine V.iconst (pc := 10) 2 hC dX1_readPart_10 (by decide) ?_
  refine V.icmp_ne (pc := 11) 18 hC dX1_readPart_11 (by decide) (fun c_11 => ?_) (fun c_11 => ?_)
  · have nc_11 : ¬ (2 = 2) := fun z => c_11 ((neq (nl 2) (nl 2) (by omega) (by omega)).mpr z)
    exact absurd c_11 (by decide)
  · have nc_11 : 2 = 2 := (neq (nl 2) (nl 2) (by omega) (by omega)).mp c_11
    refine V.iconst (pc := 14) 1 hC dX1_readPart_14 (by decide) ?_
    refine V.goto (pc := 15) 20 hC dX1_readPart_15 (by decide) ?_
    refine V.istore (pc := 20) [(4, .int 1), (3, .int (bI (((lvS (lkS ρ) (sgS (lkS ρ) (nI u) 2) 2) p).1 = true))), (0, .ref (a 3)), (1, .int 2), (2, .int 3)] hC dX1_readPart_20 (by decide) rfl ?_
    refine V.iconst (pc := 22) 0 hC dX1_readPart_22 (by decide) ?_
    refine V.istore (pc := 23) [(5, .int 0), (4, .int 1), (3, .int (bI (((lvS (lkS ρ) (sgS (lkS ρ) (nI u) 2) 2) p).1 = true))), (0, .ref (a 3)), (1, .int 2), (2, .int 3)] hC dX1_readPart_23 (by decide) rfl ?_
    have loop_25 : ∀ (n : Nat) (x : Res) (i : Nat) (f70 : Rw) (i71 i72 : Int32), i + n = 1 → GR (nN (ρ 5)) p x → COut (ν 70) L x f70 i71 i72 → (lvS (lkS ρ) (sgS (lkS ρ) (nI u) 2) 3) p = lpS (lkS ρ) (lvS (lkS ρ) (sgS (lkS ρ) (nI u) 2) 2) 2 n x → V X (wX k g a σ (va_up (va_up (va_up ν 70 f70) 71 (fun _ => i71)) 72 (fun _ => i72))) [(0, .ref (a 3)), (1, .int 2), (2, .int 3), (3, .int (bI (x.1 = true))), (4, .int 1), (5, .int (nI i))] [] 25 := by
      intro n
      induction n with
      | zero =>
        intro x i f70 i71 i72 hi hg hx hv
        have hxb := hg.2.1
        refine V.iload (pc := 25) 5 hC dX1_readPart_25 rfl ?_
        refine V.iload (pc := 27) 4 hC dX1_readPart_27 rfl ?_
        refine V.icmp_ge (pc := 29) 85 hC dX1_readPart_29 (by decide) (fun c_29 => ?_) (fun c_29 => ?_)
        · have nc_29 : 1 ≤ i := (nle (nl 1) rfl (by omega) (by omega)).mp c_29
          refine V.iload_n (pc := 85) 3 hC dX1_readPart_85 rfl ?_
          exact hR (bI (x.1 = true)) (f70, i71, i72) _ _ dX1_readPart_86 (by first | rfl | exact bI_n _) ⟨by rw [show (lvS (lkS ρ) (sgS (lkS ρ) (nI u) 2) 3) p = x from hv], by rw [show (lvS (lkS ρ) (sgS (lkS ρ) (nI u) 2) 3) p = x from hv]; exact hx⟩
        · have nc_29 : ¬ (1 ≤ i) := fun z => c_29 ((nle (nl 1) rfl (by omega) (by omega)).mpr z)
          exfalso; omega
      | succ n ih =>
        intro x i f70 i71 i72 hi hg hx hv
        have hxb := hg.2.1
        refine V.iload (pc := 25) 5 hC dX1_readPart_25 rfl ?_
        refine V.iload (pc := 27) 4 hC dX1_readPart_27 rfl ?_
        refine V.icmp_ge (pc := 29) 85 hC dX1_readPart_29 (by decide) (fun c_29 => ?_) (fun c_29 => ?_)
        · have nc_29 : 1 ≤ i := (nle (nl 1) rfl (by omega) (by omega)).mp c_29
          exfalso; omega
        · have nc_29 : ¬ (1 ≤ i) := fun z => c_29 ((nle (nl 1) rfl (by omega) (by omega)).mpr z)
          refine V.iload_n (pc := 32) 3 hC dX1_readPart_32 rfl ?_
          refine V.if_eq_b (P := x.1 = true) (pc := 33) 85 hC dX1_readPart_33 (by decide) (fun c_33 => ?_) (fun c_33 => ?_)
          · refine V.iload_n (pc := 85) 3 hC dX1_readPart_85 rfl ?_
            exact hR (bI (x.1 = true)) (f70, i71, i72) _ _ dX1_readPart_86 (by first | rfl | exact bI_n _) ⟨by rw [show (lvS (lkS ρ) (sgS (lkS ρ) (nI u) 2) 3) p = x from hv.trans (lp_no (fun q => c_33 q.1))], by rw [show (lvS (lkS ρ) (sgS (lkS ρ) (nI u) 2) 3) p = x from hv.trans (lp_no (fun q => c_33 q.1))]; exact hx⟩
          · refine V.aload_n (pc := 36) 0 hC dX1_readPart_36 rfl ?_
            refine V.callV0 (pc := 37) (as := []) hC (c_X1_next σ (va_up (va_up (va_up ν 70 f70) 71 (fun _ => i71)) 72 (fun _ => i72)) ρ x.2.1 hT hI hx.1 (by omega)) mu_X1_next ml_X1_52 (by decide) ⟨3, 1, TX1, 5, _, rfl, gx_3⟩ rfl (Nat.le_of_ble_eq_true rfl) dX1_readPart_37 ?_
            rintro _ _ rfl
            show V X (wX k g a σ (va_up (va_up (va_up ν 70 f70) 71 (fun _ => i71)) 72 (fun _ => i72))) [(0, .ref (a 3)), (1, .int 2), (2, .int 3), (3, .int (bI (x.1 = true))), (4, .int 1), (5, .int (nI i))] [.int (lkS ρ x.2.1)] 40
            refine V.callS0 (pc := 40) (as := [.int (lkS ρ x.2.1)]) hC (c_X1_rankOf (lkS ρ x.2.1) ) ms_X1_rankOf ml_X1_56 (by decide) rfl (Nat.le_of_ble_eq_true rfl) dX1_readPart_40 ?_
            rintro _ _ rfl
            show V X (wX k g a σ (va_up (va_up (va_up ν 70 f70) 71 (fun _ => i71)) 72 (fun _ => i72))) [(0, .ref (a 3)), (1, .int 2), (2, .int 3), (3, .int (bI (x.1 = true))), (4, .int 1), (5, .int (nI i))] [.int (nI (rkS (lkS ρ x.2.1)))] 43
            refine V.iload_n (pc := 43) 1 hC dX1_readPart_43 rfl ?_
            refine V.icmp_ne (pc := 44) 85 hC dX1_readPart_44 (by decide) (fun c_44 => ?_) (fun c_44 => ?_)
            · refine V.iload_n (pc := 85) 3 hC dX1_readPart_85 rfl ?_
              exact hR (bI (x.1 = true)) (f70, i71, i72) _ _ dX1_readPart_86 (by first | rfl | exact bI_n _) ⟨by rw [show (lvS (lkS ρ) (sgS (lkS ρ) (nI u) 2) 3) p = x from hv.trans (lp_no (fun q => c_44 ((rk_e (r := 2) (by omega)).mpr q.2)))], by rw [show (lvS (lkS ρ) (sgS (lkS ρ) (nI u) 2) 3) p = x from hv.trans (lp_no (fun q => c_44 ((rk_e (r := 2) (by omega)).mpr q.2)))]; exact hx⟩
            · have hok := c_33
              have hgx := hg.2.2 hok
              have hrk : rkS (lkS ρ x.2.1) = 2 := (rk_e (r := 2) (by omega)).mp c_44
              have hlt : x.2.1 < nN (ρ 5) := tok_lt lk_tok (rk_op hrk (by omega)).2
              have hgy := (lv_g (lk_tok (ρ := ρ)) (sg_g (u := nI u) (lk_tok (ρ := ρ)) 2) 2) (x.2.1 + 1) hlt
              refine V.aload_n (pc := 47) 0 hC dX1_readPart_47 rfl ?_
              refine V.callV0 (pc := 48) (as := []) hC (c_X1_next σ (va_up (va_up (va_up ν 70 f70) 71 (fun _ => i71)) 72 (fun _ => i72)) ρ x.2.1 hT hI hx.1 (by omega)) mu_X1_next ml_X1_52 (by decide) ⟨3, 1, TX1, 5, _, rfl, gx_3⟩ rfl (Nat.le_of_ble_eq_true rfl) dX1_readPart_48 ?_
              rintro _ _ rfl
              show V X (wX k g a σ (va_up (va_up (va_up ν 70 f70) 71 (fun _ => i71)) 72 (fun _ => i72))) [(0, .ref (a 3)), (1, .int 2), (2, .int 3), (3, .int (bI (x.1 = true))), (4, .int 1), (5, .int (nI i))] [.int (lkS ρ x.2.1)] 51
              refine V.istore (pc := 51) [(6, .int (lkS ρ x.2.1)), (0, .ref (a 3)), (1, .int 2), (2, .int 3), (3, .int (bI (x.1 = true))), (4, .int 1), (5, .int (nI i))] hC dX1_readPart_51 (by decide) rfl ?_
              refine V.aload_n (pc := 53) 1 hC dX1_readPart_53 rfl ?_
              refine V.dup (pc := 54) hC dX1_readPart_54 rfl ?_
              refine V.get (pc := 55) (v := .int i72) hC cf_X1 3 3 fl_X1_29 (by decide) gx_3 rfl dX1_readPart_55 ?_
              refine V.iconst (pc := 58) 1 hC dX1_readPart_58 (by decide) ?_
              refine V.iadd (pc := 59) hC dX1_readPart_59 ?_
              refine V.put (pc := 60) (v := .int (i72 + 1)) hC cf_X1 3 3 (wX k g a σ (va_up (va_up (va_up ν 70 f70) 71 (fun _ => i71)) 72 (fun _ => i72 + 1))) fl_X1_29 (by decide) gx_3 rfl rfl rfl (Nat.le_of_ble_eq_true rfl) rfl dX1_readPart_60 ?_
              refine V.aload_n (pc := 63) 1 hC dX1_readPart_63 rfl ?_
              refine V.iload_n (pc := 64) 2 hC dX1_readPart_64 rfl ?_
              refine V.iconst (pc := 65) 1 hC dX1_readPart_65 (by decide) ?_
              refine V.iadd (pc := 66) hC dX1_readPart_66 ?_
              refine V.eqi (y := 3) (by decide) ?_
              refine V.iload_n (pc := 67) 3 hC dX1_readPart_67 rfl ?_
              refine V.callV0 (pc := 68) (as := [.int 3, .int 3]) hC (c_X1_side_3_3 σ (va_up (va_up (va_up ν 70 f70) 71 (fun _ => i71)) 72 (fun _ => i72 + 1)) ρ u (L + x.2.2.length) (x.2.1 + 1) hT hI hu2 ⟨hP.1, (hx.2.2 hok).1, nadd hx.1 (nl 1), by omega, hlt⟩) mu_X1_readSide ml_X1_49 (by decide) ⟨3, 1, TX1, 5, _, rfl, gx_3⟩ rfl (Nat.le_of_ble_eq_true rfl) dX1_readPart_68 ?_
              rintro _ ⟨f68_0, i68_1, i68_2⟩ ⟨rfl, hu68_0⟩
              have hu68_0 : COut (f70) (L + x.2.2.length) ((lvS (lkS ρ) (sgS (lkS ρ) (nI u) 2) 2) (x.2.1 + 1)) f68_0 i68_1 i68_2 := hu68_0
              show V X (wX k g a σ (va_up (va_up (va_up ν 70 f68_0) 71 (fun _ => i68_1)) 72 (fun _ => i68_2))) [(6, .int (lkS ρ x.2.1)), (0, .ref (a 3)), (1, .int 2), (2, .int 3), (3, .int (bI (x.1 = true))), (4, .int 1), (5, .int (nI i))] [.int (bI (((lvS (lkS ρ) (sgS (lkS ρ) (nI u) 2) 2) (x.2.1 + 1)).1 = true))] 71
              refine V.istore_n (pc := 71) [(3, .int (bI (((lvS (lkS ρ) (sgS (lkS ρ) (nI u) 2) 2) (x.2.1 + 1)).1 = true))), (6, .int (lkS ρ x.2.1)), (0, .ref (a 3)), (1, .int 2), (2, .int 3), (4, .int 1), (5, .int (nI i))] hC dX1_readPart_71 (by decide) rfl ?_
              refine V.aload_n (pc := 72) 2 hC dX1_readPart_72 rfl ?_
              refine V.iload (pc := 73) 1 hC dX1_readPart_73 rfl ?_
              refine V.ineg (pc := 75) hC dX1_readPart_75 ?_
              refine V.callV0 (pc := 76) (as := [.int (-(lkS ρ x.2.1))]) hC (c_X1_write σ (va_up (va_up (va_up ν 70 f68_0) 71 (fun _ => i68_1)) 72 (fun _ => i68_2)) (-(lkS ρ x.2.1)) hu68_0.2.1) mu_X1_write ml_X1_60 (by decide) ⟨3, 1, TX1, 5, _, rfl, gx_3⟩ rfl (Nat.le_of_ble_eq_true rfl) dX1_readPart_76 ?_
              rintro _ ⟨f76_0, i76_1⟩ ⟨rfl, hu76_0⟩
              have hu76_0 : WtF (f68_0) (i68_1) (-(lkS ρ x.2.1)) f76_0 i76_1 := hu76_0
              show V X (wX k g a σ (va_up (va_up (va_up ν 70 f76_0) 71 (fun _ => i76_1)) 72 (fun _ => i68_2))) [(3, .int (bI (((lvS (lkS ρ) (sgS (lkS ρ) (nI u) 2) 2) (x.2.1 + 1)).1 = true))), (6, .int (lkS ρ x.2.1)), (0, .ref (a 3)), (1, .int 2), (2, .int 3), (4, .int 1), (5, .int (nI i))] [] 79
              refine V.iinc (pc := 79) 6 (nI (i + 1)) [(5, .int (nI (i + 1))), (3, .int (bI (((lvS (lkS ρ) (sgS (lkS ρ) (nI u) 2) 2) (x.2.1 + 1)).1 = true))), (6, .int (lkS ρ x.2.1)), (0, .ref (a 3)), (1, .int 2), (2, .int 3), (4, .int 1)] hC dX1_readPart_79 rfl (ncast (nadd rfl (nl 1)) (by omega)) (by decide) rfl ?_
              refine V.goto (pc := 82) 25 hC dX1_readPart_82 (by decide) ?_
              exact V.sub [3, 4, 5, 1, 6, 0] rfl (ih (appS x ((lvS (lkS ρ) (sgS (lkS ρ) (nI u) 2) 2) (x.2.1 + 1)) (lkS ρ x.2.1)) (i + 1) f76_0 i76_1 i68_2 (by omega) (hg.app hok hgy (rk_op hrk (by omega)).1) (CO_app hx hok hu68_0 (cd_op1 (rk_op hrk (by omega)).1).symm hu76_0 (fun q => by have := hgy.2.2 q; have := hgy.2.1; omega)) (hv.trans (lp_yes ⟨hok, hrk⟩)))
    exact V.sub [3, 4, 5, 2, 1, 0] rfl (loop_25 1 ((lvS (lkS ρ) (sgS (lkS ρ) (nI u) 2) 2) p) 0 f5_0 i5_1 i5_2 (by omega) ((lv_g (lk_tok (ρ := ρ)) (sg_g (u := nI u) (lk_tok (ρ := ρ)) 2) 2) p (by omega)) hu5_0 rfl)
set_option maxHeartbeats 4000000 in
set_option maxRecDepth 100000 in
theorem c_X1_side_2_3 {l : Launch} {D : va_G} {k : Nat → ClassId} {g a : Nat → Nat} (σ ν : St) (ρ : Rw) (u L p : Nat) (hT : RT σ ρ) (hI : Inv ρ) (hu2 : u < 2) (hP : CIn (nN (ρ 5)) (ν 71 0) (ν 72 0) (ν 73 0) u L p) : Ct l D k g yX1_readSide cX1_readSide 3 (some .boolean) 35 826 [.ref (a 3), .int 2, .int 3] (S := Rw × Int32 × Int32) (wX k g a σ ν) (fun uu => wX k g a σ (va_up (va_up (va_up ν 70 uu.1) 71 (fun _ => uu.2.1)) 72 (fun _ => uu.2.2))) (fun vv uu => vv = some (.int (bI (((lvS (lkS ρ) (sgS (lkS ρ) (nI u) 2) 3) p).1 = true))) ∧ COut (ν 70) L ((lvS (lkS ρ) (sgS (lkS ρ) (nI u) 2) 3) p) uu.1 uu.2.1 uu.2.2) := by
  refine Ct.ofI RX1 rfl (by decide +kernel) (Nat.le_of_ble_eq_true rfl) (fun X hC hR => ?_)
  have hb60 := hI.bb; have hle := hP.2.2.2
  show V X (wX k g a σ ν) [(0, .ref (a 3)), (1, .int 2), (2, .int 3)] [] 0
  refine V.iload_n (pc := 0) 1 hC dX1_readSide_0 rfl ?_
  refine V.iconst (pc := 1) 5 hC dX1_readSide_1 (by decide) ?_
  refine V.icmp_ge (pc := 2) 14 hC dX1_readSide_2 (by decide) (fun c_2 => ?_) (fun c_2 => ?_)
  · have nc_2 : 5 ≤ 2 := (nle (nl 5) (nl 2) (by omega) (by omega)).mp c_2
    exact absurd c_2 (by decide)
  · have nc_2 : ¬ (5 ≤ 2) := fun z => c_2 ((nle (nl 5) (nl 2) (by omega) (by omega)).mpr z)
    refine V.aload_n (pc := 5) 0 hC dX1_readSide_5 rfl ?_
    refine V.iload_n (pc := 6) 1 hC dX1_readSide_6 rfl ?_
    refine V.iload_n (pc := 7) 2 hC dX1_readSide_7 rfl ?_
    refine V.callV0 (pc := 8) (as := [.int 2, .int 3]) hC (c_X1_part_2_3 σ ν ρ u L p hT hI hu2 hP) mu_X1_readPart ml_X1_36 (by decide) ⟨3, 1, TX1, 5, _, rfl, gx_3⟩ rfl (Nat.le_of_ble_eq_true rfl) dX1_readSide_8 ?_
    rintro _ ⟨f8_0, i8_1, i8_2⟩ ⟨rfl, hu8_0⟩
    have hu8_0 : COut (ν 70) L ((lvS (lkS ρ) (sgS (lkS ρ) (nI u) 2) 3) p) f8_0 i8_1 i8_2 := hu8_0
    show V X (wX k g a σ (va_up (va_up (va_up ν 70 f8_0) 71 (fun _ => i8_1)) 72 (fun _ => i8_2))) [(0, .ref (a 3)), (1, .int 2), (2, .int 3)] [.int (bI (((lvS (lkS ρ) (sgS (lkS ρ) (nI u) 2) 3) p).1 = true))] 11
    refine V.goto (pc := 11) 19 hC dX1_readSide_11 (by decide) ?_
    exact hR (bI (((lvS (lkS ρ) (sgS (lkS ρ) (nI u) 2) 3) p).1 = true)) (f8_0, i8_1, i8_2) _ _ dX1_readSide_19 (by first | rfl | exact bI_n _) ⟨rfl, hu8_0⟩
set_option maxHeartbeats 4000000 in
set_option maxRecDepth 100000 in
theorem c_X1_part_1_3 {l : Launch} {D : va_G} {k : Nat → ClassId} {g a : Nat → Nat} (σ ν : St) (ρ : Rw) (u L p : Nat) (hT : RT σ ρ) (hI : Inv ρ) (hu2 : u < 2) (hP : CIn (nN (ρ 5)) (ν 71 0) (ν 72 0) (ν 73 0) u L p) : Ct l D k g yX1_readPart cX1_readPart 7 (some .boolean) 36 848 [.ref (a 3), .int 1, .int 3] (S := Rw × Int32 × Int32) (wX k g a σ ν) (fun uu => wX k g a σ (va_up (va_up (va_up ν 70 uu.1) 71 (fun _ => uu.2.1)) 72 (fun _ => uu.2.2))) (fun vv uu => vv = some (.int (bI (((lvS (lkS ρ) (sgS (lkS ρ) (nI u) 2) 4) p).1 = true))) ∧ COut (ν 70) L ((lvS (lkS ρ) (sgS (lkS ρ) (nI u) 2) 4) p) uu.1 uu.2.1 uu.2.2) := by
  refine Ct.ofI RX1 rfl (by decide +kernel) (Nat.le_of_ble_eq_true rfl) (fun X hC hR => ?_)
  have hb60 := hI.bb; have hle := hP.2.2.2
  show V X (wX k g a σ ν) [(0, .ref (a 3)), (1, .int 1), (2, .int 3)] [] 0
  refine V.aload_n (pc := 0) 0 hC dX1_readPart_0 rfl ?_
  refine V.iload_n (pc := 1) 1 hC dX1_readPart_1 rfl ?_
  refine V.iconst (pc := 2) 1 hC dX1_readPart_2 (by decide) ?_
  refine V.iadd (pc := 3) hC dX1_readPart_3 ?_
  refine V.eqi (y := 2) (by decide) ?_
  refine V.iload_n (pc := 4) 2 hC dX1_readPart_4 rfl ?_
  refine V.callV0 (pc := 5) (as := [.int 2, .int 3]) hC (c_X1_side_2_3 σ ν ρ u L p hT hI hu2 hP) mu_X1_readSide ml_X1_49 (by decide) ⟨3, 1, TX1, 5, _, rfl, gx_3⟩ rfl (Nat.le_of_ble_eq_true rfl) dX1_readPart_5 ?_
  rintro _ ⟨f5_0, i5_1, i5_2⟩ ⟨rfl, hu5_0⟩
  have hu5_0 : COut (ν 70) L ((lvS (lkS ρ) (sgS (lkS ρ) (nI u) 2) 3) p) f5_0 i5_1 i5_2 := hu5_0
  show V X (wX k g a σ (va_up (va_up (va_up ν 70 f5_0) 71 (fun _ => i5_1)) 72 (fun _ => i5_2))) [(0, .ref (a 3)), (1, .int 1), (2, .int 3)] [.int (bI (((lvS (lkS ρ) (sgS (lkS ρ) (nI u) 2) 3) p).1 = true))] 8
  refine V.istore_n (pc := 8) [(3, .int (bI (((lvS (lkS ρ) (sgS (lkS ρ) (nI u) 2) 3) p).1 = true))), (0, .ref (a 3)), (1, .int 1), (2, .int 3)] hC dX1_readPart_8 (by decide) rfl ?_
  refine V.iload_n (pc := 9) 2 hC dX1_readPart_9 rfl ?_
  refine V.iconst (pc := 10) 2 hC dX1_readPart_10 (by decide) ?_
  refine V.icmp_ne (pc := 11) 18 hC dX1_readPart_11 (by decide) (fun c_11 => ?_) (fun c_11 => ?_)
  · have nc_11 : ¬ (1 = 2) := fun z => c_11 ((neq (nl 1) (nl 2) (by omega) (by omega)).mpr z)
    refine V.bipush (pc := 18) 60 hC dX1_readPart_18 (by decide) ?_
    refine V.istore (pc := 20) [(4, .int 60), (3, .int (bI (((lvS (lkS ρ) (sgS (lkS ρ) (nI u) 2) 3) p).1 = true))), (0, .ref (a 3)), (1, .int 1), (2, .int 3)] hC dX1_readPart_20 (by decide) rfl ?_
    refine V.iconst (pc := 22) 0 hC dX1_readPart_22 (by decide) ?_
    refine V.istore (pc := 23) [(5, .int 0), (4, .int 60), (3, .int (bI (((lvS (lkS ρ) (sgS (lkS ρ) (nI u) 2) 3) p).1 = true))), (0, .ref (a 3)), (1, .int 1), (2, .int 3)] hC dX1_readPart_23 (by decide) rfl ?_
    have loop_25 : ∀ (n : Nat) (x : Res) (i : Nat) (f70 : Rw) (i71 i72 : Int32), i + n = 60 → GR (nN (ρ 5)) p x → COut (ν 70) L x f70 i71 i72 → (lvS (lkS ρ) (sgS (lkS ρ) (nI u) 2) 4) p = lpS (lkS ρ) (lvS (lkS ρ) (sgS (lkS ρ) (nI u) 2) 3) 1 n x → V X (wX k g a σ (va_up (va_up (va_up ν 70 f70) 71 (fun _ => i71)) 72 (fun _ => i72))) [(0, .ref (a 3)), (1, .int 1), (2, .int 3), (3, .int (bI (x.1 = true))), (4, .int 60), (5, .int (nI i))] [] 25 := by
      intro n
      induction n with
      | zero =>
        intro x i f70 i71 i72 hi hg hx hv
        have hxb := hg.2.1
        refine V.iload (pc := 25) 5 hC dX1_readPart_25 rfl ?_
        refine V.iload (pc := 27) 4 hC dX1_readPart_27 rfl ?_
        refine V.icmp_ge (pc := 29) 85 hC dX1_readPart_29 (by decide) (fun c_29 => ?_) (fun c_29 => ?_)
        · have nc_29 : 60 ≤ i := (nle (nl 60) rfl (by omega) (by omega)).mp c_29
          refine V.iload_n (pc := 85) 3 hC dX1_readPart_85 rfl ?_
          exact hR (bI (x.1 = true)) (f70, i71, i72) _ _ dX1_readPart_86 (by first | rfl | exact bI_n _) ⟨by rw [show (lvS (lkS ρ) (sgS (lkS ρ) (nI u) 2) 4) p = x from hv], by rw [show (lvS (lkS ρ) (sgS (lkS ρ) (nI u) 2) 4) p = x from hv]; exact hx⟩
        · have nc_29 : ¬ (60 ≤ i) := fun z => c_29 ((nle (nl 60) rfl (by omega) (by omega)).mpr z)
          exfalso; omega
      | succ n ih =>
        intro x i f70 i71 i72 hi hg hx hv
        have hxb := hg.2.1
        refine V.iload (pc := 25) 5 hC dX1_readPart_25 rfl ?_
        refine V.iload (pc := 27) 4 hC dX1_readPart_27 rfl ?_
        refine V.icmp_ge (pc := 29) 85 hC dX1_readPart_29 (by decide) (fun c_29 => ?_) (fun c_29 => ?_)
        · have nc_29 : 60 ≤ i := (nle (nl 60) rfl (by omega) (by omega)).mp c_29
          exfalso; omega
        · have nc_29 : ¬ (60 ≤ i) := fun z => c_29 ((nle (nl 60) rfl (by omega) (by omega)).mpr z)
          refine V.iload_n (pc := 32) 3 hC dX1_readPart_32 rfl ?_
          refine V.if_eq_b (P := x.1 = true) (pc := 33) 85 hC dX1_readPart_33 (by decide) (fun c_33 => ?_) (fun c_33 => ?_)
          · refine V.iload_n (pc := 85) 3 hC dX1_readPart_85 rfl ?_
            exact hR (bI (x.1 = true)) (f70, i71, i72) _ _ dX1_readPart_86 (by first | rfl | exact bI_n _) ⟨by rw [show (lvS (lkS ρ) (sgS (lkS ρ) (nI u) 2) 4) p = x from hv.trans (lp_no (fun q => c_33 q.1))], by rw [show (lvS (lkS ρ) (sgS (lkS ρ) (nI u) 2) 4) p = x from hv.trans (lp_no (fun q => c_33 q.1))]; exact hx⟩
          · refine V.aload_n (pc := 36) 0 hC dX1_readPart_36 rfl ?_
            refine V.callV0 (pc := 37) (as := []) hC (c_X1_next σ (va_up (va_up (va_up ν 70 f70) 71 (fun _ => i71)) 72 (fun _ => i72)) ρ x.2.1 hT hI hx.1 (by omega)) mu_X1_next ml_X1_52 (by decide) ⟨3, 1, TX1, 5, _, rfl, gx_3⟩ rfl (Nat.le_of_ble_eq_true rfl) dX1_readPart_37 ?_
            rintro _ _ rfl
            show V X (wX k g a σ (va_up (va_up (va_up ν 70 f70) 71 (fun _ => i71)) 72 (fun _ => i72))) [(0, .ref (a 3)), (1, .int 1), (2, .int 3), (3, .int (bI (x.1 = true))), (4, .int 60), (5, .int (nI i))] [.int (lkS ρ x.2.1)] 40
            refine V.callS0 (pc := 40) (as := [.int (lkS ρ x.2.1)]) hC (c_X1_rankOf (lkS ρ x.2.1) ) ms_X1_rankOf ml_X1_56 (by decide) rfl (Nat.le_of_ble_eq_true rfl) dX1_readPart_40 ?_
            rintro _ _ rfl
            show V X (wX k g a σ (va_up (va_up (va_up ν 70 f70) 71 (fun _ => i71)) 72 (fun _ => i72))) [(0, .ref (a 3)), (1, .int 1), (2, .int 3), (3, .int (bI (x.1 = true))), (4, .int 60), (5, .int (nI i))] [.int (nI (rkS (lkS ρ x.2.1)))] 43
            refine V.iload_n (pc := 43) 1 hC dX1_readPart_43 rfl ?_
            refine V.icmp_ne (pc := 44) 85 hC dX1_readPart_44 (by decide) (fun c_44 => ?_) (fun c_44 => ?_)
            · refine V.iload_n (pc := 85) 3 hC dX1_readPart_85 rfl ?_
              exact hR (bI (x.1 = true)) (f70, i71, i72) _ _ dX1_readPart_86 (by first | rfl | exact bI_n _) ⟨by rw [show (lvS (lkS ρ) (sgS (lkS ρ) (nI u) 2) 4) p = x from hv.trans (lp_no (fun q => c_44 ((rk_e (r := 1) (by omega)).mpr q.2)))], by rw [show (lvS (lkS ρ) (sgS (lkS ρ) (nI u) 2) 4) p = x from hv.trans (lp_no (fun q => c_44 ((rk_e (r := 1) (by omega)).mpr q.2)))]; exact hx⟩
            · have hok := c_33
              have hgx := hg.2.2 hok
              have hrk : rkS (lkS ρ x.2.1) = 1 := (rk_e (r := 1) (by omega)).mp c_44
              have hlt : x.2.1 < nN (ρ 5) := tok_lt lk_tok (rk_op hrk (by omega)).2
              have hgy := (lv_g (lk_tok (ρ := ρ)) (sg_g (u := nI u) (lk_tok (ρ := ρ)) 2) 3) (x.2.1 + 1) hlt
              refine V.aload_n (pc := 47) 0 hC dX1_readPart_47 rfl ?_
              refine V.callV0 (pc := 48) (as := []) hC (c_X1_next σ (va_up (va_up (va_up ν 70 f70) 71 (fun _ => i71)) 72 (fun _ => i72)) ρ x.2.1 hT hI hx.1 (by omega)) mu_X1_next ml_X1_52 (by decide) ⟨3, 1, TX1, 5, _, rfl, gx_3⟩ rfl (Nat.le_of_ble_eq_true rfl) dX1_readPart_48 ?_
              rintro _ _ rfl
              show V X (wX k g a σ (va_up (va_up (va_up ν 70 f70) 71 (fun _ => i71)) 72 (fun _ => i72))) [(0, .ref (a 3)), (1, .int 1), (2, .int 3), (3, .int (bI (x.1 = true))), (4, .int 60), (5, .int (nI i))] [.int (lkS ρ x.2.1)] 51
              refine V.istore (pc := 51) [(6, .int (lkS ρ x.2.1)), (0, .ref (a 3)), (1, .int 1), (2, .int 3), (3, .int (bI (x.1 = true))), (4, .int 60), (5, .int (nI i))] hC dX1_readPart_51 (by decide) rfl ?_
              refine V.aload_n (pc := 53) 1 hC dX1_readPart_53 rfl ?_
              refine V.dup (pc := 54) hC dX1_readPart_54 rfl ?_
              refine V.get (pc := 55) (v := .int i72) hC cf_X1 3 3 fl_X1_29 (by decide) gx_3 rfl dX1_readPart_55 ?_
              refine V.iconst (pc := 58) 1 hC dX1_readPart_58 (by decide) ?_
              refine V.iadd (pc := 59) hC dX1_readPart_59 ?_
              refine V.put (pc := 60) (v := .int (i72 + 1)) hC cf_X1 3 3 (wX k g a σ (va_up (va_up (va_up ν 70 f70) 71 (fun _ => i71)) 72 (fun _ => i72 + 1))) fl_X1_29 (by decide) gx_3 rfl rfl rfl (Nat.le_of_ble_eq_true rfl) rfl dX1_readPart_60 ?_
              refine V.aload_n (pc := 63) 1 hC dX1_readPart_63 rfl ?_
              refine V.iload_n (pc := 64) 2 hC dX1_readPart_64 rfl ?_
              refine V.iconst (pc := 65) 1 hC dX1_readPart_65 (by decide) ?_
              refine V.iadd (pc := 66) hC dX1_readPart_66 ?_
              refine V.eqi (y := 2) (by decide) ?_
              refine V.iload_n (pc := 67) 3 hC dX1_readPart_67 rfl ?_
              refine V.callV0 (pc := 68) (as := [.int 2, .int 3]) hC (c_X1_side_2_3 σ (va_up (va_up (va_up ν 70 f70) 71 (fun _ => i71)) 72 (fun _ => i72 + 1)) ρ u (L + x.2.2.length) (x.2.1 + 1) hT hI hu2 ⟨hP.1, (hx.2.2 hok).1, nadd hx.1 (nl 1), by omega, hlt⟩) mu_X1_readSide ml_X1_49 (by decide) ⟨3, 1, TX1, 5, _, rfl, gx_3⟩ rfl (Nat.le_of_ble_eq_true rfl) dX1_readPart_68 ?_
              rintro _ ⟨f68_0, i68_1, i68_2⟩ ⟨rfl, hu68_0⟩
              have hu68_0 : COut (f70) (L + x.2.2.length) ((lvS (lkS ρ) (sgS (lkS ρ) (nI u) 2) 3) (x.2.1 + 1)) f68_0 i68_1 i68_2 := hu68_0
              show V X (wX k g a σ (va_up (va_up (va_up ν 70 f68_0) 71 (fun _ => i68_1)) 72 (fun _ => i68_2))) [(6, .int (lkS ρ x.2.1)), (0, .ref (a 3)), (1, .int 1), (2, .int 3), (3, .int (bI (x.1 = true))), (4, .int 60), (5, .int (nI i))] [.int (bI (((lvS (lkS ρ) (sgS (lkS ρ) (nI u) 2) 3) (x.2.1 + 1)).1 = true))] 71
              refine V.istore_n (pc := 71) [(3, .int (bI (((lvS (lkS ρ) (sgS (lkS ρ) (nI u) 2) 3) (x.2.1 + 1)).1 = true))), (6, .int (lkS ρ x.2.1)), (0, .ref (a 3)), (1, .int 1), (2, .int 3), (4, .int 60), (5, .int (nI i))] hC dX1_readPart_71 (by decide) rfl ?_
              refine V.aload_n (pc := 72) 2 hC dX1_readPart_72 rfl ?_
              refine V.iload (pc := 73) 1 hC dX1_readPart_73 rfl ?_
              refine V.ineg (pc := 75) hC dX1_readPart_75 ?_
              refine V.callV0 (pc := 76) (as := [.int (-(lkS ρ x.2.1))]) hC (c_X1_write σ (va_up (va_up (va_up ν 70 f68_0) 71 (fun _ => i68_1)) 72 (fun _ => i68_2)) (-(lkS ρ x.2.1)) hu68_0.2.1) mu_X1_write ml_X1_60 (by decide) ⟨3, 1, TX1, 5, _, rfl, gx_3⟩ rfl (Nat.le_of_ble_eq_true rfl) dX1_readPart_76 ?_
              rintro _ ⟨f76_0, i76_1⟩ ⟨rfl, hu76_0⟩
              have hu76_0 : WtF (f68_0) (i68_1) (-(lkS ρ x.2.1)) f76_0 i76_1 := hu76_0
              show V X (wX k g a σ (va_up (va_up (va_up ν 70 f76_0) 71 (fun _ => i76_1)) 72 (fun _ => i68_2))) [(3, .int (bI (((lvS (lkS ρ) (sgS (lkS ρ) (nI u) 2) 3) (x.2.1 + 1)).1 = true))), (6, .int (lkS ρ x.2.1)), (0, .ref (a 3)), (1, .int 1), (2, .int 3), (4, .int 60), (5, .int (nI i))] [] 79
              refine V.iinc (pc := 79) 6 (nI (i + 1)) [(5, .int (nI (i + 1))), (3, .int (bI (((lvS (lkS ρ) (sgS (lkS ρ) (nI u) 2) 3) (x.2.1 + 1)).1 = true))), (6, .int (lkS ρ x.2.1)), (0, .ref (a 3)), (1, .int 1), (2, .int 3), (4, .int 60)] hC dX1_readPart_79 rfl (ncast (nadd rfl (nl 1)) (by omega)) (by decide) rfl ?_
              refine V.goto (pc := 82) 25 hC dX1_readPart_82 (by decide) ?_
              exact V.sub [3, 4, 5, 1, 6, 0] rfl (ih (appS x ((lvS (lkS ρ) (sgS (lkS ρ) (nI u) 2) 3) (x.2.1 + 1)) (lkS ρ x.2.1)) (i + 1) f76_0 i76_1 i68_2 (by omega) (hg.app hok hgy (rk_op hrk (by omega)).1) (CO_app hx hok hu68_0 (cd_op1 (rk_op hrk (by omega)).1).symm hu76_0 (fun q => by have := hgy.2.2 q; have := hgy.2.1; omega)) (hv.trans (lp_yes ⟨hok, hrk⟩)))
    exact V.sub [3, 4, 5, 2, 1, 0] rfl (loop_25 60 ((lvS (lkS ρ) (sgS (lkS ρ) (nI u) 2) 3) p) 0 f5_0 i5_1 i5_2 (by omega) ((lv_g (lk_tok (ρ := ρ)) (sg_g (u := nI u) (lk_tok (ρ := ρ)) 2) 3) p (by omega)) hu5_0 rfl)
  · have nc_11 : 1 = 2 := (neq (nl 1) (nl 2) (by omega) (by omega)).mp c_11
    exact absurd c_11 (by decide)
set_option maxHeartbeats 4000000 in
set_option maxRecDepth 100000 in
theorem c_X1_side_1_3 {l : Launch} {D : va_G} {k : Nat → ClassId} {g a : Nat → Nat} (σ ν : St) (ρ : Rw) (u L p : Nat) (hT : RT σ ρ) (hI : Inv ρ) (hu2 : u < 2) (hP : CIn (nN (ρ 5)) (ν 71 0) (ν 72 0) (ν 73 0) u L p) : Ct l D k g yX1_readSide cX1_readSide 3 (some .boolean) 37 874 [.ref (a 3), .int 1, .int 3] (S := Rw × Int32 × Int32) (wX k g a σ ν) (fun uu => wX k g a σ (va_up (va_up (va_up ν 70 uu.1) 71 (fun _ => uu.2.1)) 72 (fun _ => uu.2.2))) (fun vv uu => vv = some (.int (bI (((lvS (lkS ρ) (sgS (lkS ρ) (nI u) 2) 4) p).1 = true))) ∧ COut (ν 70) L ((lvS (lkS ρ) (sgS (lkS ρ) (nI u) 2) 4) p) uu.1 uu.2.1 uu.2.2) := by
  refine Ct.ofI RX1 rfl (by decide +kernel) (Nat.le_of_ble_eq_true rfl) (fun X hC hR => ?_)
  have hb60 := hI.bb; have hle := hP.2.2.2
  show V X (wX k g a σ ν) [(0, .ref (a 3)), (1, .int 1), (2, .int 3)] [] 0
  refine V.iload_n (pc := 0) 1 hC dX1_readSide_0 rfl ?_
  refine V.iconst (pc := 1) 5 hC dX1_readSide_1 (by decide) ?_
  refine V.icmp_ge (pc := 2) 14 hC dX1_readSide_2 (by decide) (fun c_2 => ?_) (fun c_2 => ?_)
  · have nc_2 : 5 ≤ 1 := (nle (nl 5) (nl 1) (by omega) (by omega)).mp c_2
    exact absurd c_2 (by decide)
  · have nc_2 : ¬ (5 ≤ 1) := fun z => c_2 ((nle (nl 5) (nl 1) (by omega) (by omega)).mpr z)
    refine V.aload_n (pc := 5) 0 hC dX1_readSide_5 rfl ?_
    refine V.iload_n (pc := 6) 1 hC dX1_readSide_6 rfl ?_
    refine V.iload_n (pc := 7) 2 hC dX1_readSide_7 rfl ?_
    refine V.callV0 (pc := 8) (as := [.int 1, .int 3]) hC (c_X1_part_1_3 σ ν ρ u L p hT hI hu2 hP) mu_X1_readPart ml_X1_36 (by decide) ⟨3, 1, TX1, 5, _, rfl, gx_3⟩ rfl (Nat.le_of_ble_eq_true rfl) dX1_readSide_8 ?_
    rintro _ ⟨f8_0, i8_1, i8_2⟩ ⟨rfl, hu8_0⟩
    have hu8_0 : COut (ν 70) L ((lvS (lkS ρ) (sgS (lkS ρ) (nI u) 2) 4) p) f8_0 i8_1 i8_2 := hu8_0
    show V X (wX k g a σ (va_up (va_up (va_up ν 70 f8_0) 71 (fun _ => i8_1)) 72 (fun _ => i8_2))) [(0, .ref (a 3)), (1, .int 1), (2, .int 3)] [.int (bI (((lvS (lkS ρ) (sgS (lkS ρ) (nI u) 2) 4) p).1 = true))] 11
    refine V.goto (pc := 11) 19 hC dX1_readSide_11 (by decide) ?_
    exact hR (bI (((lvS (lkS ρ) (sgS (lkS ρ) (nI u) 2) 4) p).1 = true)) (f8_0, i8_1, i8_2) _ _ dX1_readSide_19 (by first | rfl | exact bI_n _) ⟨rfl, hu8_0⟩
set_option maxHeartbeats 4000000 in
set_option maxRecDepth 100000 in
theorem c_X1_part_0_3 {l : Launch} {D : va_G} {k : Nat → ClassId} {g a : Nat → Nat} (σ ν : St) (ρ : Rw) (u L p : Nat) (hT : RT σ ρ) (hI : Inv ρ) (hu2 : u < 2) (hP : CIn (nN (ρ 5)) (ν 71 0) (ν 72 0) (ν 73 0) u L p) : Ct l D k g yX1_readPart cX1_readPart 7 (some .boolean) 38 896 [.ref (a 3), .int 0, .int 3] (S := Rw × Int32 × Int32) (wX k g a σ ν) (fun uu => wX k g a σ (va_up (va_up (va_up ν 70 uu.1) 71 (fun _ => uu.2.1)) 72 (fun _ => uu.2.2))) (fun vv uu => vv = some (.int (bI (((lvS (lkS ρ) (sgS (lkS ρ) (nI u) 2) 5) p).1 = true))) ∧ COut (ν 70) L ((lvS (lkS ρ) (sgS (lkS ρ) (nI u) 2) 5) p) uu.1 uu.2.1 uu.2.2) := by
  refine Ct.ofI RX1 rfl (by decide +kernel) (Nat.le_of_ble_eq_true rfl) (fun X hC hR => ?_)
  have hb60 := hI.bb; have hle := hP.2.2.2
  show V X (wX k g a σ ν) [(0, .ref (a 3)), (1, .int 0), (2, .int 3)] [] 0
  refine V.aload_n (pc := 0) 0 hC dX1_readPart_0 rfl ?_
  refine V.iload_n (pc := 1) 1 hC dX1_readPart_1 rfl ?_
  refine V.iconst (pc := 2) 1 hC dX1_readPart_2 (by decide) ?_
  refine V.iadd (pc := 3) hC dX1_readPart_3 ?_
  refine V.eqi (y := 1) (by decide) ?_
  refine V.iload_n (pc := 4) 2 hC dX1_readPart_4 rfl ?_
  refine V.callV0 (pc := 5) (as := [.int 1, .int 3]) hC (c_X1_side_1_3 σ ν ρ u L p hT hI hu2 hP) mu_X1_readSide ml_X1_49 (by decide) ⟨3, 1, TX1, 5, _, rfl, gx_3⟩ rfl (Nat.le_of_ble_eq_true rfl) dX1_readPart_5 ?_
  rintro _ ⟨f5_0, i5_1, i5_2⟩ ⟨rfl, hu5_0⟩
  have hu5_0 : COut (ν 70) L ((lvS (lkS ρ) (sgS (lkS ρ) (nI u) 2) 4) p) f5_0 i5_1 i5_2 := hu5_0
  show V X (wX k g a σ (va_up (va_up (va_up ν 70 f5_0) 71 (fun _ => i5_1)) 72 (fun _ => i5_2))) [(0, .ref (a 3)), (1, .int 0), (2, .int 3)] [.int (bI (((lvS (lkS ρ) (sgS (lkS ρ) (nI u) 2) 4) p).1 = true))] 8
  refine V.istore_n (pc := 8) [(3, .int (bI (((lvS (lkS ρ) (sgS (lkS ρ) (nI u) 2) 4) p).1 = true))), (0, .ref (a 3)), (1, .int 0), (2, .int 3)] hC dX1_readPart_8 (by decide) rfl ?_
  refine V.iload_n (pc := 9) 2 hC dX1_readPart_9 rfl ?_
  refine V.iconst (pc := 10) 2 hC dX1_readPart_10 (by decide) ?_
  refine V.icmp_ne (pc := 11) 18 hC dX1_readPart_11 (by decide) (fun c_11 => ?_) (fun c_11 => ?_)
  · have nc_11 : ¬ (0 = 2) := fun z => c_11 ((neq (nl 0) (nl 2) (by omega) (by omega)).mpr z)
    refine V.bipush (pc := 18) 60 hC dX1_readPart_18 (by decide) ?_
    refine V.istore (pc := 20) [(4, .int 60), (3, .int (bI (((lvS (lkS ρ) (sgS (lkS ρ) (nI u) 2) 4) p).1 = true))), (0, .ref (a 3)), (1, .int 0), (2, .int 3)] hC dX1_readPart_20 (by decide) rfl ?_
    refine V.iconst (pc := 22) 0 hC dX1_readPart_22 (by decide) ?_
    refine V.istore (pc := 23) [(5, .int 0), (4, .int 60), (3, .int (bI (((lvS (lkS ρ) (sgS (lkS ρ) (nI u) 2) 4) p).1 = true))), (0, .ref (a 3)), (1, .int 0), (2, .int 3)] hC dX1_readPart_23 (by decide) rfl ?_
    have loop_25 : ∀ (n : Nat) (x : Res) (i : Nat) (f70 : Rw) (i71 i72 : Int32), i + n = 60 → GR (nN (ρ 5)) p x → COut (ν 70) L x f70 i71 i72 → (lvS (lkS ρ) (sgS (lkS ρ) (nI u) 2) 5) p = lpS (lkS ρ) (lvS (lkS ρ) (sgS (lkS ρ) (nI u) 2) 4) 0 n x → V X (wX k g a σ (va_up (va_up (va_up ν 70 f70) 71 (fun _ => i71)) 72 (fun _ => i72))) [(0, .ref (a 3)), (1, .int 0), (2, .int 3), (3, .int (bI (x.1 = true))), (4, .int 60), (5, .int (nI i))] [] 25 := by
      intro n
      induction n with
      | zero =>
        intro x i f70 i71 i72 hi hg hx hv
        have hxb := hg.2.1
        refine V.iload (pc := 25) 5 hC dX1_readPart_25 rfl ?_
        refine V.iload (pc := 27) 4 hC dX1_readPart_27 rfl ?_
        refine V.icmp_ge (pc := 29) 85 hC dX1_readPart_29 (by decide) (fun c_29 => ?_) (fun c_29 => ?_)
        · have nc_29 : 60 ≤ i := (nle (nl 60) rfl (by omega) (by omega)).mp c_29
          refine V.iload_n (pc := 85) 3 hC dX1_readPart_85 rfl ?_
          exact hR (bI (x.1 = true)) (f70, i71, i72) _ _ dX1_readPart_86 (by first | rfl | exact bI_n _) ⟨by rw [show (lvS (lkS ρ) (sgS (lkS ρ) (nI u) 2) 5) p = x from hv], by rw [show (lvS (lkS ρ) (sgS (lkS ρ) (nI u) 2) 5) p = x from hv]; exact hx⟩
        · have nc_29 : ¬ (60 ≤ i) := fun z => c_29 ((nle (nl 60) rfl (by omega) (by omega)).mpr z)
          exfalso; omega
      | succ n ih =>
        intro x i f70 i71 i72 hi hg hx hv
        have hxb := hg.2.1
        refine V.iload (pc := 25) 5 hC dX1_readPart_25 rfl ?_
        refine V.iload (pc := 27) 4 hC dX1_readPart_27 rfl ?_
        refine V.icmp_ge (pc := 29) 85 hC dX1_readPart_29 (by decide) (fun c_29 => ?_) (fun c_29 => ?_)
        · have nc_29 : 60 ≤ i := (nle (nl 60) rfl (by omega) (by omega)).mp c_29
          exfalso; omega
        · have nc_29 : ¬ (60 ≤ i) := fun z => c_29 ((nle (nl 60) rfl (by omega) (by omega)).mpr z)
          refine V.iload_n (pc := 32) 3 hC dX1_readPart_32 rfl ?_
          refine V.if_eq_b (P := x.1 = true) (pc := 33) 85 hC dX1_readPart_33 (by decide) (fun c_33 => ?_) (fun c_33 => ?_)
          · refine V.iload_n (pc := 85) 3 hC dX1_readPart_85 rfl ?_
            exact hR (bI (x.1 = true)) (f70, i71, i72) _ _ dX1_readPart_86 (by first | rfl | exact bI_n _) ⟨by rw [show (lvS (lkS ρ) (sgS (lkS ρ) (nI u) 2) 5) p = x from hv.trans (lp_no (fun q => c_33 q.1))], by rw [show (lvS (lkS ρ) (sgS (lkS ρ) (nI u) 2) 5) p = x from hv.trans (lp_no (fun q => c_33 q.1))]; exact hx⟩
          · refine V.aload_n (pc := 36) 0 hC dX1_readPart_36 rfl ?_
            refine V.callV0 (pc := 37) (as := []) hC (c_X1_next σ (va_up (va_up (va_up ν 70 f70) 71 (fun _ => i71)) 72 (fun _ => i72)) ρ x.2.1 hT hI hx.1 (by omega)) mu_X1_next ml_X1_52 (by decide) ⟨3, 1, TX1, 5, _, rfl, gx_3⟩ rfl (Nat.le_of_ble_eq_true rfl) dX1_readPart_37 ?_
            rintro _ _ rfl
            show V X (wX k g a σ (va_up (va_up (va_up ν 70 f70) 71 (fun _ => i71)) 72 (fun _ => i72))) [(0, .ref (a 3)), (1, .int 0), (2, .int 3), (3, .int (bI (x.1 = true))), (4, .int 60), (5, .int (nI i))] [.int (lkS ρ x.2.1)] 40
            refine V.callS0 (pc := 40) (as := [.int (lkS ρ x.2.1)]) hC (c_X1_rankOf (lkS ρ x.2.1) ) ms_X1_rankOf ml_X1_56 (by decide) rfl (Nat.le_of_ble_eq_true rfl) dX1_readPart_40 ?_
            rintro _ _ rfl
            show V X (wX k g a σ (va_up (va_up (va_up ν 70 f70) 71 (fun _ => i71)) 72 (fun _ => i72))) [(0, .ref (a 3)), (1, .int 0), (2, .int 3), (3, .int (bI (x.1 = true))), (4, .int 60), (5, .int (nI i))] [.int (nI (rkS (lkS ρ x.2.1)))] 43
            refine V.iload_n (pc := 43) 1 hC dX1_readPart_43 rfl ?_
            refine V.icmp_ne (pc := 44) 85 hC dX1_readPart_44 (by decide) (fun c_44 => ?_) (fun c_44 => ?_)
            · refine V.iload_n (pc := 85) 3 hC dX1_readPart_85 rfl ?_
              exact hR (bI (x.1 = true)) (f70, i71, i72) _ _ dX1_readPart_86 (by first | rfl | exact bI_n _) ⟨by rw [show (lvS (lkS ρ) (sgS (lkS ρ) (nI u) 2) 5) p = x from hv.trans (lp_no (fun q => c_44 ((rk_e (r := 0) (by omega)).mpr q.2)))], by rw [show (lvS (lkS ρ) (sgS (lkS ρ) (nI u) 2) 5) p = x from hv.trans (lp_no (fun q => c_44 ((rk_e (r := 0) (by omega)).mpr q.2)))]; exact hx⟩
            · have hok := c_33
              have hgx := hg.2.2 hok
              have hrk : rkS (lkS ρ x.2.1) = 0 := (rk_e (r := 0) (by omega)).mp c_44
              have hlt : x.2.1 < nN (ρ 5) := tok_lt lk_tok (rk_op hrk (by omega)).2
              have hgy := (lv_g (lk_tok (ρ := ρ)) (sg_g (u := nI u) (lk_tok (ρ := ρ)) 2) 4) (x.2.1 + 1) hlt
              refine V.aload_n (pc := 47) 0 hC dX1_readPart_47 rfl ?_
              refine V.callV0 (pc := 48) (as := []) hC (c_X1_next σ (va_up (va_up (va_up ν 70 f70) 71 (fun _ => i71)) 72 (fun _ => i72)) ρ x.2.1 hT hI hx.1 (by omega)) mu_X1_next ml_X1_52 (by decide) ⟨3, 1, TX1, 5, _, rfl, gx_3⟩ rfl (Nat.le_of_ble_eq_true rfl) dX1_readPart_48 ?_
              rintro _ _ rfl
              show V X (wX k g a σ (va_up (va_up (va_up ν 70 f70) 71 (fun _ => i71)) 72 (fun _ => i72))) [(0, .ref (a 3)), (1, .int 0), (2, .int 3), (3, .int (bI (x.1 = true))), (4, .int 60), (5, .int (nI i))] [.int (lkS ρ x.2.1)] 51
              refine V.istore (pc := 51) [(6, .int (lkS ρ x.2.1)), (0, .ref (a 3)), (1, .int 0), (2, .int 3), (3, .int (bI (x.1 = true))), (4, .int 60), (5, .int (nI i))] hC dX1_readPart_51 (by decide) rfl ?_
              refine V.aload_n (pc := 53) 1 hC dX1_readPart_53 rfl ?_
              refine V.dup (pc := 54) hC dX1_readPart_54 rfl ?_
              refine V.get (pc := 55) (v := .int i72) hC cf_X1 3 3 fl_X1_29 (by decide) gx_3 rfl dX1_readPart_55 ?_
              refine V.iconst (pc := 58) 1 hC dX1_readPart_58 (by decide) ?_
              refine V.iadd (pc := 59) hC dX1_readPart_59 ?_
              refine V.put (pc := 60) (v := .int (i72 + 1)) hC cf_X1 3 3 (wX k g a σ (va_up (va_up (va_up ν 70 f70) 71 (fun _ => i71)) 72 (fun _ => i72 + 1))) fl_X1_29 (by decide) gx_3 rfl rfl rfl (Nat.le_of_ble_eq_true rfl) rfl dX1_readPart_60 ?_
              refine V.aload_n (pc := 63) 1 hC dX1_readPart_63 rfl ?_
              refine V.iload_n (pc := 64) 2 hC dX1_readPart_64 rfl ?_
              refine V.iconst (pc := 65) 1 hC dX1_readPart_65 (by decide) ?_
              refine V.iadd (pc := 66) hC dX1_readPart_66 ?_
              refine V.eqi (y := 1) (by decide) ?_
              refine V.iload_n (pc := 67) 3 hC dX1_readPart_67 rfl ?_
              refine V.callV0 (pc := 68) (as := [.int 1, .int 3]) hC (c_X1_side_1_3 σ (va_up (va_up (va_up ν 70 f70) 71 (fun _ => i71)) 72 (fun _ => i72 + 1)) ρ u (L + x.2.2.length) (x.2.1 + 1) hT hI hu2 ⟨hP.1, (hx.2.2 hok).1, nadd hx.1 (nl 1), by omega, hlt⟩) mu_X1_readSide ml_X1_49 (by decide) ⟨3, 1, TX1, 5, _, rfl, gx_3⟩ rfl (Nat.le_of_ble_eq_true rfl) dX1_readPart_68 ?_
              rintro _ ⟨f68_0, i68_1, i68_2⟩ ⟨rfl, hu68_0⟩
              have hu68_0 : COut (f70) (L + x.2.2.length) ((lvS (lkS ρ) (sgS (lkS ρ) (nI u) 2) 4) (x.2.1 + 1)) f68_0 i68_1 i68_2 := hu68_0
              show V X (wX k g a σ (va_up (va_up (va_up ν 70 f68_0) 71 (fun _ => i68_1)) 72 (fun _ => i68_2))) [(6, .int (lkS ρ x.2.1)), (0, .ref (a 3)), (1, .int 0), (2, .int 3), (3, .int (bI (x.1 = true))), (4, .int 60), (5, .int (nI i))] [.int (bI (((lvS (lkS ρ) (sgS (lkS ρ) (nI u) 2) 4) (x.2.1 + 1)).1 = true))] 71
              refine V.istore_n (pc := 71) [(3, .int (bI (((lvS (lkS ρ) (sgS (lkS ρ) (nI u) 2) 4) (x.2.1 + 1)).1 = true))), (6, .int (lkS ρ x.2.1)), (0, .ref (a 3)), (1, .int 0), (2, .int 3), (4, .int 60), (5, .int (nI i))] hC dX1_readPart_71 (by decide) rfl ?_
              refine V.aload_n (pc := 72) 2 hC dX1_readPart_72 rfl ?_
              refine V.iload (pc := 73) 1 hC dX1_readPart_73 rfl ?_
              refine V.ineg (pc := 75) hC dX1_readPart_75 ?_
              refine V.callV0 (pc := 76) (as := [.int (-(lkS ρ x.2.1))]) hC (c_X1_write σ (va_up (va_up (va_up ν 70 f68_0) 71 (fun _ => i68_1)) 72 (fun _ => i68_2)) (-(lkS ρ x.2.1)) hu68_0.2.1) mu_X1_write ml_X1_60 (by decide) ⟨3, 1, TX1, 5, _, rfl, gx_3⟩ rfl (Nat.le_of_ble_eq_true rfl) dX1_readPart_76 ?_
              rintro _ ⟨f76_0, i76_1⟩ ⟨rfl, hu76_0⟩
              have hu76_0 : WtF (f68_0) (i68_1) (-(lkS ρ x.2.1)) f76_0 i76_1 := hu76_0
              show V X (wX k g a σ (va_up (va_up (va_up ν 70 f76_0) 71 (fun _ => i76_1)) 72 (fun _ => i68_2))) [(3, .int (bI (((lvS (lkS ρ) (sgS (lkS ρ) (nI u) 2) 4) (x.2.1 + 1)).1 = true))), (6, .int (lkS ρ x.2.1)), (0, .ref (a 3)), (1, .int 0), (2, .int 3), (4, .int 60), (5, .int (nI i))] [] 79
              refine V.iinc (pc := 79) 6 (nI (i + 1)) [(5, .int (nI (i + 1))), (3, .int (bI (((lvS (lkS ρ) (sgS (lkS ρ) (nI u) 2) 4) (x.2.1 + 1)).1 = true))), (6, .int (lkS ρ x.2.1)), (0, .ref (a 3)), (1, .int 0), (2, .int 3), (4, .int 60)] hC dX1_readPart_79 rfl (ncast (nadd rfl (nl 1)) (by omega)) (by decide) rfl ?_
              refine V.goto (pc := 82) 25 hC dX1_readPart_82 (by decide) ?_
              exact V.sub [3, 4, 5, 1, 6, 0] rfl (ih (appS x ((lvS (lkS ρ) (sgS (lkS ρ) (nI u) 2) 4) (x.2.1 + 1)) (lkS ρ x.2.1)) (i + 1) f76_0 i76_1 i68_2 (by omega) (hg.app hok hgy (rk_op hrk (by omega)).1) (CO_app hx hok hu68_0 (cd_op1 (rk_op hrk (by omega)).1).symm hu76_0 (fun q => by have := hgy.2.2 q; have := hgy.2.1; omega)) (hv.trans (lp_yes ⟨hok, hrk⟩)))
    exact V.sub [3, 4, 5, 2, 1, 0] rfl (loop_25 60 ((lvS (lkS ρ) (sgS (lkS ρ) (nI u) 2) 4) p) 0 f5_0 i5_1 i5_2 (by omega) ((lv_g (lk_tok (ρ := ρ)) (sg_g (u := nI u) (lk_tok (ρ := ρ)) 2) 4) p (by omega)) hu5_0 rfl)
  · have nc_11 : 0 = 2 := (neq (nl 0) (nl 2) (by omega) (by omega)).mp c_11
    exact absurd c_11 (by decide)
set_option maxHeartbeats 4000000 in
set_option maxRecDepth 100000 in
theorem c_X1_not_3 {l : Launch} {D : va_G} {k : Nat → ClassId} {g a : Nat → Nat} (σ ν : St) (ρ : Rw) (u L p : Nat) (hT : RT σ ρ) (hI : Inv ρ) (hu2 : u < 2) (hP : CIn (nN (ρ 5)) (ν 71 0) (ν 72 0) (ν 73 0) u L p) (hLp : L < p) : Ct l D k g yX1_readNot cX1_readNot 3 (some .boolean) 29 682 [.ref (a 3), .int 3] (S := Rw × Int32 × Int32) (wX k g a σ ν) (fun uu => wX k g a σ (va_up (va_up (va_up ν 70 uu.1) 71 (fun _ => uu.2.1)) 72 (fun _ => uu.2.2))) (fun vv uu => vv = some (.int (bI (((sgS (lkS ρ) (nI u) 2) p).1 = true))) ∧ COut (ν 70) L (((sgS (lkS ρ) (nI u) 2) p).1, ((sgS (lkS ρ) (nI u) 2) p).2.1, ((sgS (lkS ρ) (nI u) 2) p).2.2 ++ [(3, 0)]) uu.1 uu.2.1 uu.2.2) := by
  refine Ct.ofI RX1 rfl (by decide +kernel) (Nat.le_of_ble_eq_true rfl) (fun X hC hR => ?_)
  have hb60 := hI.bb; have hle := hP.2.2.2
  show V X (wX k g a σ ν) [(0, .ref (a 3)), (1, .int 3)] [] 0
  refine V.aload_n (pc := 0) 0 hC dX1_readNot_0 rfl ?_
  refine V.iload_n (pc := 1) 1 hC dX1_readNot_1 rfl ?_
  refine V.callV0 (pc := 2) (as := [.int 3]) hC (c_X1_single_3 σ ν ρ u L p hT hI hu2 hP) mu_X1_readSingle ml_X1_64 (by decide) ⟨3, 1, TX1, 5, _, rfl, gx_3⟩ rfl (Nat.le_of_ble_eq_true rfl) dX1_readNot_2 ?_
  rintro _ ⟨f2_0, i2_1, i2_2⟩ ⟨rfl, hu2_0⟩
  have hu2_0 : COut (ν 70) L ((sgS (lkS ρ) (nI u) 2) p) f2_0 i2_1 i2_2 := hu2_0
  show V X (wX k g a σ (va_up (va_up (va_up ν 70 f2_0) 71 (fun _ => i2_1)) 72 (fun _ => i2_2))) [(0, .ref (a 3)), (1, .int 3)] [.int (bI (((sgS (lkS ρ) (nI u) 2) p).1 = true))] 5
  refine V.istore_n (pc := 5) [(2, .int (bI (((sgS (lkS ρ) (nI u) 2) p).1 = true))), (0, .ref (a 3)), (1, .int 3)] hC dX1_readNot_5 (by decide) rfl ?_
  refine V.aload_n (pc := 6) 1 hC dX1_readNot_6 rfl ?_
  refine V.bipush (pc := 7) (-33) hC dX1_readNot_7 (by decide) ?_
  refine V.callV0 (pc := 9) (as := [.int (-33)]) hC (c_X1_write σ (va_up (va_up (va_up ν 70 f2_0) 71 (fun _ => i2_1)) 72 (fun _ => i2_2)) (-33) hu2_0.2.1) mu_X1_write ml_X1_60 (by decide) ⟨3, 1, TX1, 5, _, rfl, gx_3⟩ rfl (Nat.le_of_ble_eq_true rfl) dX1_readNot_9 ?_
  rintro _ ⟨f9_0, i9_1⟩ ⟨rfl, hu9_0⟩
  have hu9_0 : WtF (f2_0) (i2_1) (-33) f9_0 i9_1 := hu9_0
  show V X (wX k g a σ (va_up (va_up (va_up ν 70 f9_0) 71 (fun _ => i9_1)) 72 (fun _ => i2_2))) [(2, .int (bI (((sgS (lkS ρ) (nI u) 2) p).1 = true))), (0, .ref (a 3)), (1, .int 3)] [] 12
  refine V.iload_n (pc := 12) 0 hC dX1_readNot_12 rfl ?_
  exact hR (bI (((sgS (lkS ρ) (nI u) 2) p).1 = true)) (f9_0, i9_1, i2_2) _ _ dX1_readNot_13 (by first | rfl | exact bI_n _) ⟨rfl, CO_add hu2_0 (w := (3, 0)) rfl hu9_0 (fun q => by have := ((sg_g (u := nI u) (lk_tok (ρ := ρ)) 2) p (by omega)).2.2 q; have := ((sg_g (u := nI u) (lk_tok (ρ := ρ)) 2) p (by omega)).2.1; have := hLp; omega)⟩
set_option maxHeartbeats 4000000 in
set_option maxRecDepth 100000 in
theorem c_X1_br_3 {l : Launch} {D : va_G} {k : Nat → ClassId} {g a : Nat → Nat} (σ ν : St) (ρ : Rw) (u L p : Nat) (hT : RT σ ρ) (hI : Inv ρ) (hu2 : u < 2) (hP : CIn (nN (ρ 5)) (ν 71 0) (ν 72 0) (ν 73 0) u L p) : Ct l D k g yX1_readBracket cX1_readBracket 2 (some .boolean) 39 922 [.ref (a 3), .int 3] (S := Rw × Int32 × Int32) (wX k g a σ ν) (fun uu => wX k g a σ (va_up (va_up (va_up ν 70 uu.1) 71 (fun _ => uu.2.1)) 72 (fun _ => uu.2.2))) (fun vv uu => vv = some (.int (bI ((if ((lvS (lkS ρ) (sgS (lkS ρ) (nI u) 2) 5) p).1 = true ∧ lkS ρ ((lvS (lkS ρ) (sgS (lkS ρ) (nI u) 2) 5) p).2.1 = 41 then (true, ((lvS (lkS ρ) (sgS (lkS ρ) (nI u) 2) 5) p).2.1 + 1, ((lvS (lkS ρ) (sgS (lkS ρ) (nI u) 2) 5) p).2.2) else (false, ((lvS (lkS ρ) (sgS (lkS ρ) (nI u) 2) 5) p).2.1, ((lvS (lkS ρ) (sgS (lkS ρ) (nI u) 2) 5) p).2.2) : Res).1 = true))) ∧ COut (ν 70) L (if ((lvS (lkS ρ) (sgS (lkS ρ) (nI u) 2) 5) p).1 = true ∧ lkS ρ ((lvS (lkS ρ) (sgS (lkS ρ) (nI u) 2) 5) p).2.1 = 41 then (true, ((lvS (lkS ρ) (sgS (lkS ρ) (nI u) 2) 5) p).2.1 + 1, ((lvS (lkS ρ) (sgS (lkS ρ) (nI u) 2) 5) p).2.2) else (false, ((lvS (lkS ρ) (sgS (lkS ρ) (nI u) 2) 5) p).2.1, ((lvS (lkS ρ) (sgS (lkS ρ) (nI u) 2) 5) p).2.2) : Res) uu.1 uu.2.1 uu.2.2) := by
  refine Ct.ofI RX1 rfl (by decide +kernel) (Nat.le_of_ble_eq_true rfl) (fun X hC hR => ?_)
  have hb60 := hI.bb; have hle := hP.2.2.2
  show V X (wX k g a σ ν) [(0, .ref (a 3)), (1, .int 3)] [] 0
  refine V.aload_n (pc := 0) 0 hC dX1_readBracket_0 rfl ?_
  refine V.iconst (pc := 1) 0 hC dX1_readBracket_1 (by decide) ?_
  refine V.iload_n (pc := 2) 1 hC dX1_readBracket_2 rfl ?_
  refine V.callV0 (pc := 3) (as := [.int 0, .int 3]) hC (c_X1_part_0_3 σ ν ρ u L p hT hI hu2 hP) mu_X1_readPart ml_X1_36 (by decide) ⟨3, 1, TX1, 5, _, rfl, gx_3⟩ rfl (Nat.le_of_ble_eq_true rfl) dX1_readBracket_3 ?_
  rintro _ ⟨f3_0, i3_1, i3_2⟩ ⟨rfl, hu3_0⟩
  have hu3_0 : COut (ν 70) L ((lvS (lkS ρ) (sgS (lkS ρ) (nI u) 2) 5) p) f3_0 i3_1 i3_2 := hu3_0
  show V X (wX k g a σ (va_up (va_up (va_up ν 70 f3_0) 71 (fun _ => i3_1)) 72 (fun _ => i3_2))) [(0, .ref (a 3)), (1, .int 3)] [.int (bI (((lvS (lkS ρ) (sgS (lkS ρ) (nI u) 2) 5) p).1 = true))] 6
  refine V.if_eq_b (P := ((lvS (lkS ρ) (sgS (lkS ρ) (nI u) 2) 5) p).1 = true) (pc := 6) 18 hC dX1_readBracket_6 (by decide) (fun c_6 => ?_) (fun c_6 => ?_)
  · refine V.iconst (pc := 18) 0 hC dX1_readBracket_18 (by decide) ?_
    exact hR 0 (f3_0, i3_1, i3_2) _ _ dX1_readBracket_19 (by first | rfl | exact bI_n _) ⟨rb0 (by rw [if_neg (fun z => c_6 z.1)]; exact fun z => absurd (show false = true from z) (by decide)), by rw [if_neg (fun z => c_6 z.1)]; exact CO_bad hu3_0.1 hu3_0.2.1⟩
  · refine V.aload_n (pc := 9) 0 hC dX1_readBracket_9 rfl ?_
    refine V.callV0 (pc := 10) (as := []) hC (c_X1_next σ (va_up (va_up (va_up ν 70 f3_0) 71 (fun _ => i3_1)) 72 (fun _ => i3_2)) ρ (((lvS (lkS ρ) (sgS (lkS ρ) (nI u) 2) 5) p).2.1) hT hI hu3_0.1 (by have := ((lv_g (lk_tok (ρ := ρ)) (sg_g (u := nI u) (lk_tok (ρ := ρ)) 2) 5) p (by omega)).2.1; omega)) mu_X1_next ml_X1_52 (by decide) ⟨3, 1, TX1, 5, _, rfl, gx_3⟩ rfl (Nat.le_of_ble_eq_true rfl) dX1_readBracket_10 ?_
    rintro _ _ rfl
    show V X (wX k g a σ (va_up (va_up (va_up ν 70 f3_0) 71 (fun _ => i3_1)) 72 (fun _ => i3_2))) [(0, .ref (a 3)), (1, .int 3)] [.int (lkS ρ (((lvS (lkS ρ) (sgS (lkS ρ) (nI u) 2) 5) p).2.1))] 13
    refine V.bipush (pc := 13) 41 hC dX1_readBracket_13 (by decide) ?_
    refine V.icmp_eq (pc := 15) 20 hC dX1_readBracket_15 (by decide) (fun c_15 => ?_) (fun c_15 => ?_)
    · refine V.aload_n (pc := 20) 0 hC dX1_readBracket_20 rfl ?_
      refine V.dup (pc := 21) hC dX1_readBracket_21 rfl ?_
      refine V.get (pc := 22) (v := .int i3_2) hC cf_X1 3 3 fl_X1_29 (by decide) gx_3 rfl dX1_readBracket_22 ?_
      refine V.iconst (pc := 25) 1 hC dX1_readBracket_25 (by decide) ?_
      refine V.iadd (pc := 26) hC dX1_readBracket_26 ?_
      refine V.put (pc := 27) (v := .int (i3_2 + 1)) hC cf_X1 3 3 (wX k g a σ (va_up (va_up (va_up ν 70 f3_0) 71 (fun _ => i3_1)) 72 (fun _ => i3_2 + 1))) fl_X1_29 (by decide) gx_3 rfl rfl rfl (Nat.le_of_ble_eq_true rfl) rfl dX1_readBracket_27 ?_
      refine V.iconst (pc := 30) 1 hC dX1_readBracket_30 (by decide) ?_
      exact hR 1 (f3_0, i3_1, i3_2 + 1) _ _ dX1_readBracket_31 (by first | rfl | exact bI_n _) ⟨rb1 (by rw [if_pos ⟨c_6, c_15⟩]), by rw [if_pos ⟨c_6, c_15⟩]; exact ⟨nadd hu3_0.1 (nl 1), hu3_0.2.1, fun _ => hu3_0.2.2 c_6⟩⟩
    · refine V.iconst (pc := 18) 0 hC dX1_readBracket_18 (by decide) ?_
      exact hR 0 (f3_0, i3_1, i3_2) _ _ dX1_readBracket_19 (by first | rfl | exact bI_n _) ⟨rb0 (by rw [if_neg (fun z => c_15 z.2)]; exact fun z => absurd (show false = true from z) (by decide)), by rw [if_neg (fun z => c_15 z.2)]; exact CO_bad hu3_0.1 hu3_0.2.1⟩
set_option maxHeartbeats 4000000 in
set_option maxRecDepth 100000 in
theorem c_X1_single_2 {l : Launch} {D : va_G} {k : Nat → ClassId} {g a : Nat → Nat} (σ ν : St) (ρ : Rw) (u L p : Nat) (hT : RT σ ρ) (hI : Inv ρ) (hu2 : u < 2) (hP : CIn (nN (ρ 5)) (ν 71 0) (ν 72 0) (ν 73 0) u L p) : Ct l D k g yX1_readSingle cX1_readSingle 4 (some .boolean) 40 943 [.ref (a 3), .int 2] (S := Rw × Int32 × Int32) (wX k g a σ ν) (fun uu => wX k g a σ (va_up (va_up (va_up ν 70 uu.1) 71 (fun _ => uu.2.1)) 72 (fun _ => uu.2.2))) (fun vv uu => vv = some (.int (bI (((sgS (lkS ρ) (nI u) 3) p).1 = true))) ∧ COut (ν 70) L ((sgS (lkS ρ) (nI u) 3) p) uu.1 uu.2.1 uu.2.2) := by
  refine Ct.ofI RX1 rfl (by decide +kernel) (Nat.le_of_ble_eq_true rfl) (fun X hC hR => ?_)
  have hb60 := hI.bb; have hle := hP.2.2.2
  have hm1 : ¬ 0 ≤ namS (nI u) (-1) := fun z => (nam_b z).2 rfl
  show V X (wX k g a σ ν) [(0, .ref (a 3)), (1, .int 2)] [] 0
  refine V.aload_n (pc := 0) 0 hC dX1_readSingle_0 rfl ?_
  refine V.callV0 (pc := 1) (as := []) hC (c_X1_next σ ν ρ p hT hI hP.2.2.1 (by omega)) mu_X1_next ml_X1_52 (by decide) ⟨3, 1, TX1, 5, _, rfl, gx_3⟩ rfl (Nat.le_of_ble_eq_true rfl) dX1_readSingle_1 ?_
  rintro _ _ rfl
  show V X (wX k g a σ ν) [(0, .ref (a 3)), (1, .int 2)] [.int (lkS ρ p)] 4
  refine V.istore_n (pc := 4) [(2, .int (lkS ρ p)), (0, .ref (a 3)), (1, .int 2)] hC dX1_readSingle_4 (by decide) rfl ?_
  refine V.iload_n (pc := 5) 0 hC dX1_readSingle_5 rfl ?_
  refine V.callS0 (pc := 6) (as := [.int (lkS ρ p)]) hC (c_X1_isDigit (lkS ρ p) ) ms_X1_isDigit ml_X1_68 (by decide) rfl (Nat.le_of_ble_eq_true rfl) dX1_readSingle_6 ?_
  rintro _ _ rfl
  show V X (wX k g a σ ν) [(2, .int (lkS ρ p)), (0, .ref (a 3)), (1, .int 2)] [.int (bI (inS (lkS ρ p) 48 57))] 9
  refine V.if_eq_b (P := inS (lkS ρ p) 48 57) (pc := 9) 18 hC dX1_readSingle_9 (by decide) (fun c_9 => ?_) (fun c_9 => ?_)
  · refine V.iload_n (pc := 18) 0 hC dX1_readSingle_18 rfl ?_
    refine V.iconst (pc := 19) (-1) hC dX1_readSingle_19 (by decide) ?_
    refine V.icmp_ne (pc := 20) 27 hC dX1_readSingle_20 (by decide) (fun c_20 => ?_) (fun c_20 => ?_)
    · have hbn := lk_n hI c_20
      refine V.aload_n (pc := 27) 1 hC dX1_readSingle_27 rfl ?_
      refine V.get (pc := 28) (v := .ref (g (nmA (ν 73 0)))) hC cf_X1 3 4 fl_X1_17 (by decide) gx_3 rfl dX1_readSingle_28 ?_
      refine V.iload_n (pc := 31) 0 hC dX1_readSingle_31 rfl ?_
      refine V.i2c (pc := 32) hC dX1_readSingle_32 ?_
      refine V.eqi (y := lkS ρ p) (i2c_n hbn) ?_
      refine V.sts (st' := [.int (lkS ρ p), .ref (g (2 + (u + 1)))]) (by rw [nmA_u hP.1 hu2]) ?_
      refine V.callStr (pc := 33) (as := [.int (lkS ρ p)]) (i := (u + 1)) hC (c_ixu u (lkS ρ p) hu2 hbn) mu_J0_indexOf_0f7a4 ml_X1_74 (by decide) (by omega) rfl (Nat.le_of_ble_eq_true rfl) dX1_readSingle_33 ?_
      rintro _ _ rfl
      show V X (wX k g a σ ν) [(2, .int (lkS ρ p)), (0, .ref (a 3)), (1, .int 2)] [.int (namS (nI u) (lkS ρ p))] 36
      refine V.istore_n (pc := 36) [(3, .int (namS (nI u) (lkS ρ p))), (2, .int (lkS ρ p)), (0, .ref (a 3)), (1, .int 2)] hC dX1_readSingle_36 (by decide) rfl ?_
      refine V.iload_n (pc := 37) 0 hC dX1_readSingle_37 rfl ?_
      refine V.if_lt (pc := 38) 60 hC dX1_readSingle_38 (by decide) (fun c_38 => ?_) (fun c_38 => ?_)
      · have c38 : ¬ 0 ≤ (namS (nI u) (lkS ρ p)) := i_gt c_38
        refine V.iload_n (pc := 60) 1 hC dX1_readSingle_60 rfl ?_
        refine V.bipush (pc := 61) 33 hC dX1_readSingle_61 (by decide) ?_
        refine V.icmp_eq (pc := 63) 72 hC dX1_readSingle_63 (by decide) (fun c_63 => ?_) (fun c_63 => ?_)
        · refine V.iload_n (pc := 72) 3 hC dX1_readSingle_72 rfl ?_
          refine V.iconst (pc := 73) 5 hC dX1_readSingle_73 (by decide) ?_
          refine V.icmp_lt (pc := 74) 79 hC dX1_readSingle_74 (by decide) (fun c_74 => ?_) (fun c_74 => ?_)
          · have nc_74 : 2 < 5 := (nlt (nl 2) (nl 5) (by omega) (by omega)).mp c_74
            have hc3 : (lkS ρ p) = 33 ∨ (lkS ρ p) = 40 := Or.inl c_63
            have hlt : p < nN (ρ 5) := tok_lt lk_tok (fun q => by rw [q] at hc3; exact absurd hc3 (by decide))
            refine V.aload_n (pc := 79) 2 hC dX1_readSingle_79 rfl ?_
            refine V.dup (pc := 80) hC dX1_readSingle_80 rfl ?_
            refine V.get (pc := 81) (v := .int (ν 72 0)) hC cf_X1 3 3 fl_X1_29 (by decide) gx_3 rfl dX1_readSingle_81 ?_
            refine V.iconst (pc := 84) 1 hC dX1_readSingle_84 (by decide) ?_
            refine V.iadd (pc := 85) hC dX1_readSingle_85 ?_
            refine V.put (pc := 86) (v := .int ((ν 72 0) + 1)) hC cf_X1 3 3 (wX k g a σ (va_up ν 72 (fun _ => (ν 72 0) + 1))) fl_X1_29 (by decide) gx_3 rfl rfl rfl (Nat.le_of_ble_eq_true rfl) rfl dX1_readSingle_86 ?_
            refine V.iload_n (pc := 89) 1 hC dX1_readSingle_89 rfl ?_
            refine V.bipush (pc := 90) 33 hC dX1_readSingle_90 (by decide) ?_
            refine V.icmp_ne (pc := 92) 105 hC dX1_readSingle_92 (by decide) (fun c_92 => ?_) (fun c_92 => ?_)
            · exact absurd c_63 c_92
            · have hXo : ((sgS (lkS ρ) (nI u) 3) p) = (((sgS (lkS ρ) (nI u) 2) (p + 1)).1, ((sgS (lkS ρ) (nI u) 2) (p + 1)).2.1, ((sgS (lkS ρ) (nI u) 2) (p + 1)).2.2 ++ [(3, 0)]) := (if_neg c38).trans ((if_pos hc3).trans ((if_neg (by decide)).trans (if_pos c_92)))
              refine V.aload_n (pc := 95) 2 hC dX1_readSingle_95 rfl ?_
              refine V.iload_n (pc := 96) 3 hC dX1_readSingle_96 rfl ?_
              refine V.iconst (pc := 97) 1 hC dX1_readSingle_97 (by decide) ?_
              refine V.iadd (pc := 98) hC dX1_readSingle_98 ?_
              refine V.eqi (y := 3) (by decide) ?_
              refine V.callV0 (pc := 99) (as := [.int 3]) hC (c_X1_not_3 σ (va_up ν 72 (fun _ => (ν 72 0) + 1)) ρ u L (p + 1) hT hI hu2 ⟨hP.1, hP.2.1, nadd hP.2.2.1 (nl 1), by omega, hlt⟩ (by omega)) mu_X1_readNot ml_X1_81 (by decide) ⟨3, 1, TX1, 5, _, rfl, gx_3⟩ rfl (Nat.le_of_ble_eq_true rfl) dX1_readSingle_99 ?_
              rintro _ ⟨f99_0, i99_1, i99_2⟩ ⟨rfl, hu99_0⟩
              have hu99_0 : COut ((ν 70)) L (((sgS (lkS ρ) (nI u) 2) (p + 1)).1, ((sgS (lkS ρ) (nI u) 2) (p + 1)).2.1, ((sgS (lkS ρ) (nI u) 2) (p + 1)).2.2 ++ [(3, 0)]) f99_0 i99_1 i99_2 := hu99_0
              show V X (wX k g a σ (va_up (va_up (va_up ν 72 (fun _ => i99_2)) 70 f99_0) 71 (fun _ => i99_1))) [(3, .int (namS (nI u) (lkS ρ p))), (2, .int (lkS ρ p)), (0, .ref (a 3)), (1, .int 2)] [.int (bI (((sgS (lkS ρ) (nI u) 2) (p + 1)).1 = true))] 102
              refine V.goto (pc := 102) 112 hC dX1_readSingle_102 (by decide) ?_
              exact hR (bI (((sgS (lkS ρ) (nI u) 2) (p + 1)).1 = true)) (f99_0, i99_1, i99_2) _ _ dX1_readSingle_112 (by first | rfl | exact bI_n _) ⟨by rw [hXo], by rw [hXo]; exact hu99_0⟩
          · have nc_74 : ¬ (2 < 5) := fun z => c_74 ((nlt (nl 2) (nl 5) (by omega) (by omega)).mpr z)
            exact absurd c_74 (by decide)
        · refine V.iload_n (pc := 66) 1 hC dX1_readSingle_66 rfl ?_
          refine V.bipush (pc := 67) 40 hC dX1_readSingle_67 (by decide) ?_
          refine V.icmp_ne (pc := 69) 77 hC dX1_readSingle_69 (by decide) (fun c_69 => ?_) (fun c_69 => ?_)
          · have hXb : ((sgS (lkS ρ) (nI u) 3) p) = (false, p, []) := (if_neg c38).trans ((if_neg (fun z => z.elim c_63 c_69)).trans (num_no c_9))
            refine V.iconst (pc := 77) 0 hC dX1_readSingle_77 (by decide) ?_
            exact hR 0 (ν 70, ν 71 0, ν 72 0) _ _ dX1_readSingle_78 (by first | rfl | exact bI_n _) ⟨rb0 (by rw [hXb]; exact fun z => absurd (show false = true from z) (by decide)), by rw [hXb]; exact CO_bad hP.2.2.1 (isN.mk hP.2.1 (by omega) (by omega))⟩
          · refine V.iload_n (pc := 72) 3 hC dX1_readSingle_72 rfl ?_
            refine V.iconst (pc := 73) 5 hC dX1_readSingle_73 (by decide) ?_
            refine V.icmp_lt (pc := 74) 79 hC dX1_readSingle_74 (by decide) (fun c_74 => ?_) (fun c_74 => ?_)
            · have nc_74 : 2 < 5 := (nlt (nl 2) (nl 5) (by omega) (by omega)).mp c_74
              have hc3 : (lkS ρ p) = 33 ∨ (lkS ρ p) = 40 := Or.inr c_69
              have hlt : p < nN (ρ 5) := tok_lt lk_tok (fun q => by rw [q] at hc3; exact absurd hc3 (by decide))
              refine V.aload_n (pc := 79) 2 hC dX1_readSingle_79 rfl ?_
              refine V.dup (pc := 80) hC dX1_readSingle_80 rfl ?_
              refine V.get (pc := 81) (v := .int (ν 72 0)) hC cf_X1 3 3 fl_X1_29 (by decide) gx_3 rfl dX1_readSingle_81 ?_
              refine V.iconst (pc := 84) 1 hC dX1_readSingle_84 (by decide) ?_
              refine V.iadd (pc := 85) hC dX1_readSingle_85 ?_
              refine V.put (pc := 86) (v := .int ((ν 72 0) + 1)) hC cf_X1 3 3 (wX k g a σ (va_up ν 72 (fun _ => (ν 72 0) + 1))) fl_X1_29 (by decide) gx_3 rfl rfl rfl (Nat.le_of_ble_eq_true rfl) rfl dX1_readSingle_86 ?_
              refine V.iload_n (pc := 89) 1 hC dX1_readSingle_89 rfl ?_
              refine V.bipush (pc := 90) 33 hC dX1_readSingle_90 (by decide) ?_
              refine V.icmp_ne (pc := 92) 105 hC dX1_readSingle_92 (by decide) (fun c_92 => ?_) (fun c_92 => ?_)
              · have hXo : ((sgS (lkS ρ) (nI u) 3) p) = (if ((lvS (lkS ρ) (sgS (lkS ρ) (nI u) 2) 5) (p + 1)).1 = true ∧ lkS ρ ((lvS (lkS ρ) (sgS (lkS ρ) (nI u) 2) 5) (p + 1)).2.1 = 41 then (true, ((lvS (lkS ρ) (sgS (lkS ρ) (nI u) 2) 5) (p + 1)).2.1 + 1, ((lvS (lkS ρ) (sgS (lkS ρ) (nI u) 2) 5) (p + 1)).2.2) else (false, ((lvS (lkS ρ) (sgS (lkS ρ) (nI u) 2) 5) (p + 1)).2.1, ((lvS (lkS ρ) (sgS (lkS ρ) (nI u) 2) 5) (p + 1)).2.2)) := (if_neg c38).trans ((if_pos hc3).trans ((if_neg (by decide)).trans (if_neg c_92)))
                refine V.aload_n (pc := 105) 2 hC dX1_readSingle_105 rfl ?_
                refine V.iload_n (pc := 106) 3 hC dX1_readSingle_106 rfl ?_
                refine V.iconst (pc := 107) 1 hC dX1_readSingle_107 (by decide) ?_
                refine V.iadd (pc := 108) hC dX1_readSingle_108 ?_
                refine V.eqi (y := 3) (by decide) ?_
                refine V.callV0 (pc := 109) (as := [.int 3]) hC (c_X1_br_3 σ (va_up ν 72 (fun _ => (ν 72 0) + 1)) ρ u L (p + 1) hT hI hu2 ⟨hP.1, hP.2.1, nadd hP.2.2.1 (nl 1), by omega, hlt⟩) mu_X1_readBracket ml_X1_84 (by decide) ⟨3, 1, TX1, 5, _, rfl, gx_3⟩ rfl (Nat.le_of_ble_eq_true rfl) dX1_readSingle_109 ?_
                rintro _ ⟨f109_0, i109_1, i109_2⟩ ⟨rfl, hu109_0⟩
                have hu109_0 : COut ((ν 70)) L (if ((lvS (lkS ρ) (sgS (lkS ρ) (nI u) 2) 5) (p + 1)).1 = true ∧ lkS ρ ((lvS (lkS ρ) (sgS (lkS ρ) (nI u) 2) 5) (p + 1)).2.1 = 41 then (true, ((lvS (lkS ρ) (sgS (lkS ρ) (nI u) 2) 5) (p + 1)).2.1 + 1, ((lvS (lkS ρ) (sgS (lkS ρ) (nI u) 2) 5) (p + 1)).2.2) else (false, ((lvS (lkS ρ) (sgS (lkS ρ) (nI u) 2) 5) (p + 1)).2.1, ((lvS (lkS ρ) (sgS (lkS ρ) (nI u) 2) 5) (p + 1)).2.2) : Res) f109_0 i109_1 i109_2 := hu109_0
                show V X (wX k g a σ (va_up (va_up (va_up ν 72 (fun _ => i109_2)) 70 f109_0) 71 (fun _ => i109_1))) [(3, .int (namS (nI u) (lkS ρ p))), (2, .int (lkS ρ p)), (0, .ref (a 3)), (1, .int 2)] [.int (bI ((if ((lvS (lkS ρ) (sgS (lkS ρ) (nI u) 2) 5) (p + 1)).1 = true ∧ lkS ρ ((lvS (lkS ρ) (sgS (lkS ρ) (nI u) 2) 5) (p + 1)).2.1 = 41 then (true, ((lvS (lkS ρ) (sgS (lkS ρ) (nI u) 2) 5) (p + 1)).2.1 + 1, ((lvS (lkS ρ) (sgS (lkS ρ) (nI u) 2) 5) (p + 1)).2.2) else (false, ((lvS (lkS ρ) (sgS (lkS ρ) (nI u) 2) 5) (p + 1)).2.1, ((lvS (lkS ρ) (sgS (lkS ρ) (nI u) 2) 5) (p + 1)).2.2) : Res).1 = true))] 112
                exact hR (bI ((if ((lvS (lkS ρ) (sgS (lkS ρ) (nI u) 2) 5) (p + 1)).1 = true ∧ lkS ρ ((lvS (lkS ρ) (sgS (lkS ρ) (nI u) 2) 5) (p + 1)).2.1 = 41 then (true, ((lvS (lkS ρ) (sgS (lkS ρ) (nI u) 2) 5) (p + 1)).2.1 + 1, ((lvS (lkS ρ) (sgS (lkS ρ) (nI u) 2) 5) (p + 1)).2.2) else (false, ((lvS (lkS ρ) (sgS (lkS ρ) (nI u) 2) 5) (p + 1)).2.1, ((lvS (lkS ρ) (sgS (lkS ρ) (nI u) 2) 5) (p + 1)).2.2) : Res).1 = true)) (f109_0, i109_1, i109_2) _ _ dX1_readSingle_112 (by first | rfl | exact bI_n _) ⟨by rw [hXo], by rw [hXo]; exact hu109_0⟩
              · exact absurd c_92 c_63
            · have nc_74 : ¬ (2 < 5) := fun z => c_74 ((nlt (nl 2) (nl 5) (by omega) (by omega)).mpr z)
              exact absurd c_74 (by decide)
      · have hXm : ((sgS (lkS ρ) (nI u) 3) p) = (true, p + 1, [(2, (namS (nI u) (lkS ρ p)))]) := if_pos (i_nlt c_38)
        refine V.aload_n (pc := 41) 2 hC dX1_readSingle_41 rfl ?_
        refine V.dup (pc := 42) hC dX1_readSingle_42 rfl ?_
        refine V.get (pc := 43) (v := .int (ν 72 0)) hC cf_X1 3 3 fl_X1_29 (by decide) gx_3 rfl dX1_readSingle_43 ?_
        refine V.iconst (pc := 46) 1 hC dX1_readSingle_46 (by decide) ?_
        refine V.iadd (pc := 47) hC dX1_readSingle_47 ?_
        refine V.put (pc := 48) (v := .int ((ν 72 0) + 1)) hC cf_X1 3 3 (wX k g a σ (va_up ν 72 (fun _ => (ν 72 0) + 1))) fl_X1_29 (by decide) gx_3 rfl rfl rfl (Nat.le_of_ble_eq_true rfl) rfl dX1_readSingle_48 ?_
        refine V.aload_n (pc := 51) 2 hC dX1_readSingle_51 rfl ?_
        refine V.iconst (pc := 52) (-1) hC dX1_readSingle_52 (by decide) ?_
        refine V.iload_n (pc := 53) 0 hC dX1_readSingle_53 rfl ?_
        refine V.isub (pc := 54) hC dX1_readSingle_54 ?_
        refine V.callV0 (pc := 55) (as := [.int ((-1) - (namS (nI u) (lkS ρ p)))]) hC (c_X1_write σ (va_up ν 72 (fun _ => (ν 72 0) + 1)) ((-1) - (namS (nI u) (lkS ρ p))) (isN.mk hP.2.1 (by omega) (by omega))) mu_X1_write ml_X1_60 (by decide) ⟨3, 1, TX1, 5, _, rfl, gx_3⟩ rfl (Nat.le_of_ble_eq_true rfl) dX1_readSingle_55 ?_
        rintro _ ⟨f55_0, i55_1⟩ ⟨rfl, hu55_0⟩
        have hu55_0 : WtF ((ν 70)) ((ν 71 0)) ((-1) - (namS (nI u) (lkS ρ p))) f55_0 i55_1 := hu55_0
        show V X (wX k g a σ (va_up (va_up (va_up ν 72 (fun _ => (ν 72 0) + 1)) 70 f55_0) 71 (fun _ => i55_1))) [(3, .int (namS (nI u) (lkS ρ p))), (2, .int (lkS ρ p)), (0, .ref (a 3)), (1, .int 2)] [] 58
        refine V.iconst (pc := 58) 1 hC dX1_readSingle_58 (by decide) ?_
        exact hR 1 (f55_0, i55_1, (ν 72 0) + 1) _ _ dX1_readSingle_59 (by first | rfl | exact bI_n _) ⟨rb1 (by rw [hXm]), by rw [hXm]; exact CO_one hP.2.1 (by have := tok_lt lk_tok (nam_b (i_nlt c_38)).2; omega) (by rfl) hu55_0 (nadd hP.2.2.1 (nl 1))⟩
    · refine V.iconst (pc := 23) (-1) hC dX1_readSingle_23 (by decide) ?_
      refine V.goto (pc := 24) 36 hC dX1_readSingle_24 (by decide) ?_
      refine V.istore_n (pc := 36) [(3, .int (-1)), (2, .int (lkS ρ p)), (0, .ref (a 3)), (1, .int 2)] hC dX1_readSingle_36 (by decide) rfl ?_
      refine V.iload_n (pc := 37) 0 hC dX1_readSingle_37 rfl ?_
      refine V.if_lt (pc := 38) 60 hC dX1_readSingle_38 (by decide) (fun c_38 => ?_) (fun c_38 => ?_)
      · have c38 : ¬ 0 ≤ (namS (nI u) (lkS ρ p)) := by rw [c_20]; exact hm1
        refine V.iload_n (pc := 60) 1 hC dX1_readSingle_60 rfl ?_
        refine V.bipush (pc := 61) 33 hC dX1_readSingle_61 (by decide) ?_
        refine V.icmp_eq (pc := 63) 72 hC dX1_readSingle_63 (by decide) (fun c_63 => ?_) (fun c_63 => ?_)
        · refine V.iload_n (pc := 72) 3 hC dX1_readSingle_72 rfl ?_
          refine V.iconst (pc := 73) 5 hC dX1_readSingle_73 (by decide) ?_
          refine V.icmp_lt (pc := 74) 79 hC dX1_readSingle_74 (by decide) (fun c_74 => ?_) (fun c_74 => ?_)
          · have nc_74 : 2 < 5 := (nlt (nl 2) (nl 5) (by omega) (by omega)).mp c_74
            have hc3 : (lkS ρ p) = 33 ∨ (lkS ρ p) = 40 := Or.inl c_63
            have hlt : p < nN (ρ 5) := tok_lt lk_tok (fun q => by rw [q] at hc3; exact absurd hc3 (by decide))
            refine V.aload_n (pc := 79) 2 hC dX1_readSingle_79 rfl ?_
            refine V.dup (pc := 80) hC dX1_readSingle_80 rfl ?_
            refine V.get (pc := 81) (v := .int (ν 72 0)) hC cf_X1 3 3 fl_X1_29 (by decide) gx_3 rfl dX1_readSingle_81 ?_
            refine V.iconst (pc := 84) 1 hC dX1_readSingle_84 (by decide) ?_
            refine V.iadd (pc := 85) hC dX1_readSingle_85 ?_
            refine V.put (pc := 86) (v := .int ((ν 72 0) + 1)) hC cf_X1 3 3 (wX k g a σ (va_up ν 72 (fun _ => (ν 72 0) + 1))) fl_X1_29 (by decide) gx_3 rfl rfl rfl (Nat.le_of_ble_eq_true rfl) rfl dX1_readSingle_86 ?_
            refine V.iload_n (pc := 89) 1 hC dX1_readSingle_89 rfl ?_
            refine V.bipush (pc := 90) 33 hC dX1_readSingle_90 (by decide) ?_
            refine V.icmp_ne (pc := 92) 105 hC dX1_readSingle_92 (by decide) (fun c_92 => ?_) (fun c_92 => ?_)
            · exact absurd c_63 c_92
            · have hXo : ((sgS (lkS ρ) (nI u) 3) p) = (((sgS (lkS ρ) (nI u) 2) (p + 1)).1, ((sgS (lkS ρ) (nI u) 2) (p + 1)).2.1, ((sgS (lkS ρ) (nI u) 2) (p + 1)).2.2 ++ [(3, 0)]) := (if_neg c38).trans ((if_pos hc3).trans ((if_neg (by decide)).trans (if_pos c_92)))
              refine V.aload_n (pc := 95) 2 hC dX1_readSingle_95 rfl ?_
              refine V.iload_n (pc := 96) 3 hC dX1_readSingle_96 rfl ?_
              refine V.iconst (pc := 97) 1 hC dX1_readSingle_97 (by decide) ?_
              refine V.iadd (pc := 98) hC dX1_readSingle_98 ?_
              refine V.eqi (y := 3) (by decide) ?_
              refine V.callV0 (pc := 99) (as := [.int 3]) hC (c_X1_not_3 σ (va_up ν 72 (fun _ => (ν 72 0) + 1)) ρ u L (p + 1) hT hI hu2 ⟨hP.1, hP.2.1, nadd hP.2.2.1 (nl 1), by omega, hlt⟩ (by omega)) mu_X1_readNot ml_X1_81 (by decide) ⟨3, 1, TX1, 5, _, rfl, gx_3⟩ rfl (Nat.le_of_ble_eq_true rfl) dX1_readSingle_99 ?_
              rintro _ ⟨f99_0, i99_1, i99_2⟩ ⟨rfl, hu99_0⟩
              have hu99_0 : COut ((ν 70)) L (((sgS (lkS ρ) (nI u) 2) (p + 1)).1, ((sgS (lkS ρ) (nI u) 2) (p + 1)).2.1, ((sgS (lkS ρ) (nI u) 2) (p + 1)).2.2 ++ [(3, 0)]) f99_0 i99_1 i99_2 := hu99_0
              show V X (wX k g a σ (va_up (va_up (va_up ν 72 (fun _ => i99_2)) 70 f99_0) 71 (fun _ => i99_1))) [(3, .int (-1)), (2, .int (lkS ρ p)), (0, .ref (a 3)), (1, .int 2)] [.int (bI (((sgS (lkS ρ) (nI u) 2) (p + 1)).1 = true))] 102
              refine V.goto (pc := 102) 112 hC dX1_readSingle_102 (by decide) ?_
              exact hR (bI (((sgS (lkS ρ) (nI u) 2) (p + 1)).1 = true)) (f99_0, i99_1, i99_2) _ _ dX1_readSingle_112 (by first | rfl | exact bI_n _) ⟨by rw [hXo], by rw [hXo]; exact hu99_0⟩
          · have nc_74 : ¬ (2 < 5) := fun z => c_74 ((nlt (nl 2) (nl 5) (by omega) (by omega)).mpr z)
            exact absurd c_74 (by decide)
        · refine V.iload_n (pc := 66) 1 hC dX1_readSingle_66 rfl ?_
          refine V.bipush (pc := 67) 40 hC dX1_readSingle_67 (by decide) ?_
          refine V.icmp_ne (pc := 69) 77 hC dX1_readSingle_69 (by decide) (fun c_69 => ?_) (fun c_69 => ?_)
          · have hXb : ((sgS (lkS ρ) (nI u) 3) p) = (false, p, []) := (if_neg c38).trans ((if_neg (fun z => z.elim c_63 c_69)).trans (num_no c_9))
            refine V.iconst (pc := 77) 0 hC dX1_readSingle_77 (by decide) ?_
            exact hR 0 (ν 70, ν 71 0, ν 72 0) _ _ dX1_readSingle_78 (by first | rfl | exact bI_n _) ⟨rb0 (by rw [hXb]; exact fun z => absurd (show false = true from z) (by decide)), by rw [hXb]; exact CO_bad hP.2.2.1 (isN.mk hP.2.1 (by omega) (by omega))⟩
          · refine V.iload_n (pc := 72) 3 hC dX1_readSingle_72 rfl ?_
            refine V.iconst (pc := 73) 5 hC dX1_readSingle_73 (by decide) ?_
            refine V.icmp_lt (pc := 74) 79 hC dX1_readSingle_74 (by decide) (fun c_74 => ?_) (fun c_74 => ?_)
            · have nc_74 : 2 < 5 := (nlt (nl 2) (nl 5) (by omega) (by omega)).mp c_74
              have hc3 : (lkS ρ p) = 33 ∨ (lkS ρ p) = 40 := Or.inr c_69
              have hlt : p < nN (ρ 5) := tok_lt lk_tok (fun q => by rw [q] at hc3; exact absurd hc3 (by decide))
              refine V.aload_n (pc := 79) 2 hC dX1_readSingle_79 rfl ?_
              refine V.dup (pc := 80) hC dX1_readSingle_80 rfl ?_
              refine V.get (pc := 81) (v := .int (ν 72 0)) hC cf_X1 3 3 fl_X1_29 (by decide) gx_3 rfl dX1_readSingle_81 ?_
              refine V.iconst (pc := 84) 1 hC dX1_readSingle_84 (by decide) ?_
              refine V.iadd (pc := 85) hC dX1_readSingle_85 ?_
              refine V.put (pc := 86) (v := .int ((ν 72 0) + 1)) hC cf_X1 3 3 (wX k g a σ (va_up ν 72 (fun _ => (ν 72 0) + 1))) fl_X1_29 (by decide) gx_3 rfl rfl rfl (Nat.le_of_ble_eq_true rfl) rfl dX1_readSingle_86 ?_
              refine V.iload_n (pc := 89) 1 hC dX1_readSingle_89 rfl ?_
              refine V.bipush (pc := 90) 33 hC dX1_readSingle_90 (by decide) ?_
              refine V.icmp_ne (pc := 92) 105 hC dX1_readSingle_92 (by decide) (fun c_92 => ?_) (fun c_92 => ?_)
              · have hXo : ((sgS (lkS ρ) (nI u) 3) p) = (if ((lvS (lkS ρ) (sgS (lkS ρ) (nI u) 2) 5) (p + 1)).1 = true ∧ lkS ρ ((lvS (lkS ρ) (sgS (lkS ρ) (nI u) 2) 5) (p + 1)).2.1 = 41 then (true, ((lvS (lkS ρ) (sgS (lkS ρ) (nI u) 2) 5) (p + 1)).2.1 + 1, ((lvS (lkS ρ) (sgS (lkS ρ) (nI u) 2) 5) (p + 1)).2.2) else (false, ((lvS (lkS ρ) (sgS (lkS ρ) (nI u) 2) 5) (p + 1)).2.1, ((lvS (lkS ρ) (sgS (lkS ρ) (nI u) 2) 5) (p + 1)).2.2)) := (if_neg c38).trans ((if_pos hc3).trans ((if_neg (by decide)).trans (if_neg c_92)))
                refine V.aload_n (pc := 105) 2 hC dX1_readSingle_105 rfl ?_
                refine V.iload_n (pc := 106) 3 hC dX1_readSingle_106 rfl ?_
                refine V.iconst (pc := 107) 1 hC dX1_readSingle_107 (by decide) ?_
                refine V.iadd (pc := 108) hC dX1_readSingle_108 ?_
                refine V.eqi (y := 3) (by decide) ?_
                refine V.callV0 (pc := 109) (as := [.int 3]) hC (c_X1_br_3 σ (va_up ν 72 (fun _ => (ν 72 0) + 1)) ρ u L (p + 1) hT hI hu2 ⟨hP.1, hP.2.1, nadd hP.2.2.1 (nl 1), by omega, hlt⟩) mu_X1_readBracket ml_X1_84 (by decide) ⟨3, 1, TX1, 5, _, rfl, gx_3⟩ rfl (Nat.le_of_ble_eq_true rfl) dX1_readSingle_109 ?_
                rintro _ ⟨f109_0, i109_1, i109_2⟩ ⟨rfl, hu109_0⟩
                have hu109_0 : COut ((ν 70)) L (if ((lvS (lkS ρ) (sgS (lkS ρ) (nI u) 2) 5) (p + 1)).1 = true ∧ lkS ρ ((lvS (lkS ρ) (sgS (lkS ρ) (nI u) 2) 5) (p + 1)).2.1 = 41 then (true, ((lvS (lkS ρ) (sgS (lkS ρ) (nI u) 2) 5) (p + 1)).2.1 + 1, ((lvS (lkS ρ) (sgS (lkS ρ) (nI u) 2) 5) (p + 1)).2.2) else (false, ((lvS (lkS ρ) (sgS (lkS ρ) (nI u) 2) 5) (p + 1)).2.1, ((lvS (lkS ρ) (sgS (lkS ρ) (nI u) 2) 5) (p + 1)).2.2) : Res) f109_0 i109_1 i109_2 := hu109_0
                show V X (wX k g a σ (va_up (va_up (va_up ν 72 (fun _ => i109_2)) 70 f109_0) 71 (fun _ => i109_1))) [(3, .int (-1)), (2, .int (lkS ρ p)), (0, .ref (a 3)), (1, .int 2)] [.int (bI ((if ((lvS (lkS ρ) (sgS (lkS ρ) (nI u) 2) 5) (p + 1)).1 = true ∧ lkS ρ ((lvS (lkS ρ) (sgS (lkS ρ) (nI u) 2) 5) (p + 1)).2.1 = 41 then (true, ((lvS (lkS ρ) (sgS (lkS ρ) (nI u) 2) 5) (p + 1)).2.1 + 1, ((lvS (lkS ρ) (sgS (lkS ρ) (nI u) 2) 5) (p + 1)).2.2) else (false, ((lvS (lkS ρ) (sgS (lkS ρ) (nI u) 2) 5) (p + 1)).2.1, ((lvS (lkS ρ) (sgS (lkS ρ) (nI u) 2) 5) (p + 1)).2.2) : Res).1 = true))] 112
                exact hR (bI ((if ((lvS (lkS ρ) (sgS (lkS ρ) (nI u) 2) 5) (p + 1)).1 = true ∧ lkS ρ ((lvS (lkS ρ) (sgS (lkS ρ) (nI u) 2) 5) (p + 1)).2.1 = 41 then (true, ((lvS (lkS ρ) (sgS (lkS ρ) (nI u) 2) 5) (p + 1)).2.1 + 1, ((lvS (lkS ρ) (sgS (lkS ρ) (nI u) 2) 5) (p + 1)).2.2) else (false, ((lvS (lkS ρ) (sgS (lkS ρ) (nI u) 2) 5) (p + 1)).2.1, ((lvS (lkS ρ) (sgS (lkS ρ) (nI u) 2) 5) (p + 1)).2.2) : Res).1 = true)) (f109_0, i109_1, i109_2) _ _ dX1_readSingle_112 (by first | rfl | exact bI_n _) ⟨by rw [hXo], by rw [hXo]; exact hu109_0⟩
              · exact absurd c_92 c_63
            · have nc_74 : ¬ (2 < 5) := fun z => c_74 ((nlt (nl 2) (nl 5) (by omega) (by omega)).mpr z)
              exact absurd c_74 (by decide)
      · exact absurd c_38 (by decide)
  · have hdn := dig_nam (u := nI u) c_9
    have hXn : ((sgS (lkS ρ) (nI u) 3) p) = numS (lkS ρ) p := (if_neg hdn.1).trans (if_neg hdn.2)
    refine V.aload_n (pc := 12) 1 hC dX1_readSingle_12 rfl ?_
    refine V.callV0 (pc := 13) (as := []) hC (c_X1_readNumber σ ν ρ u L p hT hI hu2 hP c_9) mu_X1_readNumber ml_X1_71 (by decide) ⟨3, 1, TX1, 5, _, rfl, gx_3⟩ rfl (Nat.le_of_ble_eq_true rfl) dX1_readSingle_13 ?_
    rintro _ ⟨f13_0, i13_1, i13_2⟩ ⟨rfl, hu13_0⟩
    have hu13_0 : COut (ν 70) L (numS (lkS ρ) p) f13_0 i13_1 i13_2 := hu13_0
    show V X (wX k g a σ (va_up (va_up (va_up ν 70 f13_0) 71 (fun _ => i13_1)) 72 (fun _ => i13_2))) [(2, .int (lkS ρ p)), (0, .ref (a 3)), (1, .int 2)] [] 16
    refine V.iconst (pc := 16) 1 hC dX1_readSingle_16 (by decide) ?_
    exact hR 1 (f13_0, i13_1, i13_2) _ _ dX1_readSingle_17 (by first | rfl | exact bI_n _) ⟨rb1 (by rw [hXn, numS, if_pos c_9]), by rw [hXn]; exact hu13_0⟩
set_option maxHeartbeats 4000000 in
set_option maxRecDepth 100000 in
theorem c_X1_side_5_2 {l : Launch} {D : va_G} {k : Nat → ClassId} {g a : Nat → Nat} (σ ν : St) (ρ : Rw) (u L p : Nat) (hT : RT σ ρ) (hI : Inv ρ) (hu2 : u < 2) (hP : CIn (nN (ρ 5)) (ν 71 0) (ν 72 0) (ν 73 0) u L p) : Ct l D k g yX1_readSide cX1_readSide 3 (some .boolean) 41 966 [.ref (a 3), .int 5, .int 2] (S := Rw × Int32 × Int32) (wX k g a σ ν) (fun uu => wX k g a σ (va_up (va_up (va_up ν 70 uu.1) 71 (fun _ => uu.2.1)) 72 (fun _ => uu.2.2))) (fun vv uu => vv = some (.int (bI (((sgS (lkS ρ) (nI u) 3) p).1 = true))) ∧ COut (ν 70) L ((sgS (lkS ρ) (nI u) 3) p) uu.1 uu.2.1 uu.2.2) := by
  refine Ct.ofI RX1 rfl (by decide +kernel) (Nat.le_of_ble_eq_true rfl) (fun X hC hR => ?_)
  have hb60 := hI.bb; have hle := hP.2.2.2
  show V X (wX k g a σ ν) [(0, .ref (a 3)), (1, .int 5), (2, .int 2)] [] 0
  refine V.iload_n (pc := 0) 1 hC dX1_readSide_0 rfl ?_
  refine V.iconst (pc := 1) 5 hC dX1_readSide_1 (by decide) ?_
  refine V.icmp_ge (pc := 2) 14 hC dX1_readSide_2 (by decide) (fun c_2 => ?_) (fun c_2 => ?_)
  · have nc_2 : 5 ≤ 5 := (nle (nl 5) (nl 5) (by omega) (by omega)).mp c_2
    refine V.aload_n (pc := 14) 0 hC dX1_readSide_14 rfl ?_
    refine V.iload_n (pc := 15) 2 hC dX1_readSide_15 rfl ?_
    refine V.callV0 (pc := 16) (as := [.int 2]) hC (c_X1_single_2 σ ν ρ u L p hT hI hu2 hP) mu_X1_readSingle ml_X1_64 (by decide) ⟨3, 1, TX1, 5, _, rfl, gx_3⟩ rfl (Nat.le_of_ble_eq_true rfl) dX1_readSide_16 ?_
    rintro _ ⟨f16_0, i16_1, i16_2⟩ ⟨rfl, hu16_0⟩
    have hu16_0 : COut (ν 70) L ((sgS (lkS ρ) (nI u) 3) p) f16_0 i16_1 i16_2 := hu16_0
    show V X (wX k g a σ (va_up (va_up (va_up ν 70 f16_0) 71 (fun _ => i16_1)) 72 (fun _ => i16_2))) [(0, .ref (a 3)), (1, .int 5), (2, .int 2)] [.int (bI (((sgS (lkS ρ) (nI u) 3) p).1 = true))] 19
    exact hR (bI (((sgS (lkS ρ) (nI u) 3) p).1 = true)) (f16_0, i16_1, i16_2) _ _ dX1_readSide_19 (by first | rfl | exact bI_n _) ⟨rfl, hu16_0⟩
  · have nc_2 : ¬ (5 ≤ 5) := fun z => c_2 ((nle (nl 5) (nl 5) (by omega) (by omega)).mpr z)
    exact absurd c_2 (by decide)
set_option maxHeartbeats 4000000 in
set_option maxRecDepth 100000 in
theorem c_X1_part_4_2 {l : Launch} {D : va_G} {k : Nat → ClassId} {g a : Nat → Nat} (σ ν : St) (ρ : Rw) (u L p : Nat) (hT : RT σ ρ) (hI : Inv ρ) (hu2 : u < 2) (hP : CIn (nN (ρ 5)) (ν 71 0) (ν 72 0) (ν 73 0) u L p) : Ct l D k g yX1_readPart cX1_readPart 7 (some .boolean) 42 988 [.ref (a 3), .int 4, .int 2] (S := Rw × Int32 × Int32) (wX k g a σ ν) (fun uu => wX k g a σ (va_up (va_up (va_up ν 70 uu.1) 71 (fun _ => uu.2.1)) 72 (fun _ => uu.2.2))) (fun vv uu => vv = some (.int (bI (((lvS (lkS ρ) (sgS (lkS ρ) (nI u) 3) 1) p).1 = true))) ∧ COut (ν 70) L ((lvS (lkS ρ) (sgS (lkS ρ) (nI u) 3) 1) p) uu.1 uu.2.1 uu.2.2) := by
  refine Ct.ofI RX1 rfl (by decide +kernel) (Nat.le_of_ble_eq_true rfl) (fun X hC hR => ?_)
  have hb60 := hI.bb; have hle := hP.2.2.2
  show V X (wX k g a σ ν) [(0, .ref (a 3)), (1, .int 4), (2, .int 2)] [] 0
  refine V.aload_n (pc := 0) 0 hC dX1_readPart_0 rfl ?_
  refine V.iload_n (pc := 1) 1 hC dX1_readPart_1 rfl ?_
  refine V.iconst (pc := 2) 1 hC dX1_readPart_2 (by decide) ?_
  refine V.iadd (pc := 3) hC dX1_readPart_3 ?_
  refine V.eqi (y := 5) (by decide) ?_
  refine V.iload_n (pc := 4) 2 hC dX1_readPart_4 rfl ?_
  refine V.callV0 (pc := 5) (as := [.int 5, .int 2]) hC (c_X1_side_5_2 σ ν ρ u L p hT hI hu2 hP) mu_X1_readSide ml_X1_49 (by decide) ⟨3, 1, TX1, 5, _, rfl, gx_3⟩ rfl (Nat.le_of_ble_eq_true rfl) dX1_readPart_5 ?_
  rintro _ ⟨f5_0, i5_1, i5_2⟩ ⟨rfl, hu5_0⟩
  have hu5_0 : COut (ν 70) L ((sgS (lkS ρ) (nI u) 3) p) f5_0 i5_1 i5_2 := hu5_0
  show V X (wX k g a σ (va_up (va_up (va_up ν 70 f5_0) 71 (fun _ => i5_1)) 72 (fun _ => i5_2))) [(0, .ref (a 3)), (1, .int 4), (2, .int 2)] [.int (bI (((sgS (lkS ρ) (nI u) 3) p).1 = true))] 8
  refine V.istore_n (pc := 8) [(3, .int (bI (((sgS (lkS ρ) (nI u) 3) p).1 = true))), (0, .ref (a 3)), (1, .int 4), (2, .int 2)] hC dX1_readPart_8 (by decide) rfl ?_
  refine V.iload_n (pc := 9) 2 hC dX1_readPart_9 rfl ?_
  refine V.iconst (pc := 10) 2 hC dX1_readPart_10 (by decide) ?_
  refine V.icmp_ne (pc := 11) 18 hC dX1_readPart_11 (by decide) (fun c_11 => ?_) (fun c_11 => ?_)
  · have nc_11 : ¬ (4 = 2) := fun z => c_11 ((neq (nl 4) (nl 2) (by omega) (by omega)).mpr z)
    refine V.bipush (pc := 18) 60 hC dX1_readPart_18 (by decide) ?_
    refine V.istore (pc := 20) [(4, .int 60), (3, .int (bI (((sgS (lkS ρ) (nI u) 3) p).1 = true))), (0, .ref (a 3)), (1, .int 4), (2, .int 2)] hC dX1_readPart_20 (by decide) rfl ?_
    refine V.iconst (pc := 22) 0 hC dX1_readPart_22 (by decide) ?_
    refine V.istore (pc := 23) [(5, .int 0), (4, .int 60), (3, .int (bI (((sgS (lkS ρ) (nI u) 3) p).1 = true))), (0, .ref (a 3)), (1, .int 4), (2, .int 2)] hC dX1_readPart_23 (by decide) rfl ?_
    have loop_25 : ∀ (n : Nat) (x : Res) (i : Nat) (f70 : Rw) (i71 i72 : Int32), i + n = 60 → GR (nN (ρ 5)) p x → COut (ν 70) L x f70 i71 i72 → (lvS (lkS ρ) (sgS (lkS ρ) (nI u) 3) 1) p = lpS (lkS ρ) (sgS (lkS ρ) (nI u) 3) 4 n x → V X (wX k g a σ (va_up (va_up (va_up ν 70 f70) 71 (fun _ => i71)) 72 (fun _ => i72))) [(0, .ref (a 3)), (1, .int 4), (2, .int 2), (3, .int (bI (x.1 = true))), (4, .int 60), (5, .int (nI i))] [] 25 := by
      intro n
      induction n with
      | zero =>
        intro x i f70 i71 i72 hi hg hx hv
        have hxb := hg.2.1
        refine V.iload (pc := 25) 5 hC dX1_readPart_25 rfl ?_
        refine V.iload (pc := 27) 4 hC dX1_readPart_27 rfl ?_
        refine V.icmp_ge (pc := 29) 85 hC dX1_readPart_29 (by decide) (fun c_29 => ?_) (fun c_29 => ?_)
        · have nc_29 : 60 ≤ i := (nle (nl 60) rfl (by omega) (by omega)).mp c_29
          refine V.iload_n (pc := 85) 3 hC dX1_readPart_85 rfl ?_
          exact hR (bI (x.1 = true)) (f70, i71, i72) _ _ dX1_readPart_86 (by first | rfl | exact bI_n _) ⟨by rw [show (lvS (lkS ρ) (sgS (lkS ρ) (nI u) 3) 1) p = x from hv], by rw [show (lvS (lkS ρ) (sgS (lkS ρ) (nI u) 3) 1) p = x from hv]; exact hx⟩
        · have nc_29 : ¬ (60 ≤ i) := fun z => c_29 ((nle (nl 60) rfl (by omega) (by omega)).mpr z)
          exfalso; omega
      | succ n ih =>
        intro x i f70 i71 i72 hi hg hx hv
        have hxb := hg.2.1
        refine V.iload (pc := 25) 5 hC dX1_readPart_25 rfl ?_
        refine V.iload (pc := 27) 4 hC dX1_readPart_27 rfl ?_
        refine V.icmp_ge (pc := 29) 85 hC dX1_readPart_29 (by decide) (fun c_29 => ?_) (fun c_29 => ?_)
        · have nc_29 : 60 ≤ i := (nle (nl 60) rfl (by omega) (by omega)).mp c_29
          exfalso; omega
        · have nc_29 : ¬ (60 ≤ i) := fun z => c_29 ((nle (nl 60) rfl (by omega) (by omega)).mpr z)
          refine V.iload_n (pc := 32) 3 hC dX1_readPart_32 rfl ?_
          refine V.if_eq_b (P := x.1 = true) (pc := 33) 85 hC dX1_readPart_33 (by decide) (fun c_33 => ?_) (fun c_33 => ?_)
          · refine V.iload_n (pc := 85) 3 hC dX1_readPart_85 rfl ?_
            exact hR (bI (x.1 = true)) (f70, i71, i72) _ _ dX1_readPart_86 (by first | rfl | exact bI_n _) ⟨by rw [show (lvS (lkS ρ) (sgS (lkS ρ) (nI u) 3) 1) p = x from hv.trans (lp_no (fun q => c_33 q.1))], by rw [show (lvS (lkS ρ) (sgS (lkS ρ) (nI u) 3) 1) p = x from hv.trans (lp_no (fun q => c_33 q.1))]; exact hx⟩
          · refine V.aload_n (pc := 36) 0 hC dX1_readPart_36 rfl ?_
            refine V.callV0 (pc := 37) (as := []) hC (c_X1_next σ (va_up (va_up (va_up ν 70 f70) 71 (fun _ => i71)) 72 (fun _ => i72)) ρ x.2.1 hT hI hx.1 (by omega)) mu_X1_next ml_X1_52 (by decide) ⟨3, 1, TX1, 5, _, rfl, gx_3⟩ rfl (Nat.le_of_ble_eq_true rfl) dX1_readPart_37 ?_
            rintro _ _ rfl
            show V X (wX k g a σ (va_up (va_up (va_up ν 70 f70) 71 (fun _ => i71)) 72 (fun _ => i72))) [(0, .ref (a 3)), (1, .int 4), (2, .int 2), (3, .int (bI (x.1 = true))), (4, .int 60), (5, .int (nI i))] [.int (lkS ρ x.2.1)] 40
            refine V.callS0 (pc := 40) (as := [.int (lkS ρ x.2.1)]) hC (c_X1_rankOf (lkS ρ x.2.1) ) ms_X1_rankOf ml_X1_56 (by decide) rfl (Nat.le_of_ble_eq_true rfl) dX1_readPart_40 ?_
            rintro _ _ rfl
            show V X (wX k g a σ (va_up (va_up (va_up ν 70 f70) 71 (fun _ => i71)) 72 (fun _ => i72))) [(0, .ref (a 3)), (1, .int 4), (2, .int 2), (3, .int (bI (x.1 = true))), (4, .int 60), (5, .int (nI i))] [.int (nI (rkS (lkS ρ x.2.1)))] 43
            refine V.iload_n (pc := 43) 1 hC dX1_readPart_43 rfl ?_
            refine V.icmp_ne (pc := 44) 85 hC dX1_readPart_44 (by decide) (fun c_44 => ?_) (fun c_44 => ?_)
            · refine V.iload_n (pc := 85) 3 hC dX1_readPart_85 rfl ?_
              exact hR (bI (x.1 = true)) (f70, i71, i72) _ _ dX1_readPart_86 (by first | rfl | exact bI_n _) ⟨by rw [show (lvS (lkS ρ) (sgS (lkS ρ) (nI u) 3) 1) p = x from hv.trans (lp_no (fun q => c_44 ((rk_e (r := 4) (by omega)).mpr q.2)))], by rw [show (lvS (lkS ρ) (sgS (lkS ρ) (nI u) 3) 1) p = x from hv.trans (lp_no (fun q => c_44 ((rk_e (r := 4) (by omega)).mpr q.2)))]; exact hx⟩
            · have hok := c_33
              have hgx := hg.2.2 hok
              have hrk : rkS (lkS ρ x.2.1) = 4 := (rk_e (r := 4) (by omega)).mp c_44
              have hlt : x.2.1 < nN (ρ 5) := tok_lt lk_tok (rk_op hrk (by omega)).2
              have hgy := (sg_g (u := nI u) (lk_tok (ρ := ρ)) 3) (x.2.1 + 1) hlt
              refine V.aload_n (pc := 47) 0 hC dX1_readPart_47 rfl ?_
              refine V.callV0 (pc := 48) (as := []) hC (c_X1_next σ (va_up (va_up (va_up ν 70 f70) 71 (fun _ => i71)) 72 (fun _ => i72)) ρ x.2.1 hT hI hx.1 (by omega)) mu_X1_next ml_X1_52 (by decide) ⟨3, 1, TX1, 5, _, rfl, gx_3⟩ rfl (Nat.le_of_ble_eq_true rfl) dX1_readPart_48 ?_
              rintro _ _ rfl
              show V X (wX k g a σ (va_up (va_up (va_up ν 70 f70) 71 (fun _ => i71)) 72 (fun _ => i72))) [(0, .ref (a 3)), (1, .int 4), (2, .int 2), (3, .int (bI (x.1 = true))), (4, .int 60), (5, .int (nI i))] [.int (lkS ρ x.2.1)] 51
              refine V.istore (pc := 51) [(6, .int (lkS ρ x.2.1)), (0, .ref (a 3)), (1, .int 4), (2, .int 2), (3, .int (bI (x.1 = true))), (4, .int 60), (5, .int (nI i))] hC dX1_readPart_51 (by decide) rfl ?_
              refine V.aload_n (pc := 53) 1 hC dX1_readPart_53 rfl ?_
              refine V.dup (pc := 54) hC dX1_readPart_54 rfl ?_
              refine V.get (pc := 55) (v := .int i72) hC cf_X1 3 3 fl_X1_29 (by decide) gx_3 rfl dX1_readPart_55 ?_
              refine V.iconst (pc := 58) 1 hC dX1_readPart_58 (by decide) ?_
              refine V.iadd (pc := 59) hC dX1_readPart_59 ?_
              refine V.put (pc := 60) (v := .int (i72 + 1)) hC cf_X1 3 3 (wX k g a σ (va_up (va_up (va_up ν 70 f70) 71 (fun _ => i71)) 72 (fun _ => i72 + 1))) fl_X1_29 (by decide) gx_3 rfl rfl rfl (Nat.le_of_ble_eq_true rfl) rfl dX1_readPart_60 ?_
              refine V.aload_n (pc := 63) 1 hC dX1_readPart_63 rfl ?_
              refine V.iload_n (pc := 64) 2 hC dX1_readPart_64 rfl ?_
              refine V.iconst (pc := 65) 1 hC dX1_readPart_65 (by decide) ?_
              refine V.iadd (pc := 66) hC dX1_readPart_66 ?_
              refine V.eqi (y := 5) (by decide) ?_
              refine V.iload_n (pc := 67) 3 hC dX1_readPart_67 rfl ?_
              refine V.callV0 (pc := 68) (as := [.int 5, .int 2]) hC (c_X1_side_5_2 σ (va_up (va_up (va_up ν 70 f70) 71 (fun _ => i71)) 72 (fun _ => i72 + 1)) ρ u (L + x.2.2.length) (x.2.1 + 1) hT hI hu2 ⟨hP.1, (hx.2.2 hok).1, nadd hx.1 (nl 1), by omega, hlt⟩) mu_X1_readSide ml_X1_49 (by decide) ⟨3, 1, TX1, 5, _, rfl, gx_3⟩ rfl (Nat.le_of_ble_eq_true rfl) dX1_readPart_68 ?_
              rintro _ ⟨f68_0, i68_1, i68_2⟩ ⟨rfl, hu68_0⟩
              have hu68_0 : COut (f70) (L + x.2.2.length) ((sgS (lkS ρ) (nI u) 3) (x.2.1 + 1)) f68_0 i68_1 i68_2 := hu68_0
              show V X (wX k g a σ (va_up (va_up (va_up ν 70 f68_0) 71 (fun _ => i68_1)) 72 (fun _ => i68_2))) [(6, .int (lkS ρ x.2.1)), (0, .ref (a 3)), (1, .int 4), (2, .int 2), (3, .int (bI (x.1 = true))), (4, .int 60), (5, .int (nI i))] [.int (bI (((sgS (lkS ρ) (nI u) 3) (x.2.1 + 1)).1 = true))] 71
              refine V.istore_n (pc := 71) [(3, .int (bI (((sgS (lkS ρ) (nI u) 3) (x.2.1 + 1)).1 = true))), (6, .int (lkS ρ x.2.1)), (0, .ref (a 3)), (1, .int 4), (2, .int 2), (4, .int 60), (5, .int (nI i))] hC dX1_readPart_71 (by decide) rfl ?_
              refine V.aload_n (pc := 72) 2 hC dX1_readPart_72 rfl ?_
              refine V.iload (pc := 73) 1 hC dX1_readPart_73 rfl ?_
              refine V.ineg (pc := 75) hC dX1_readPart_75 ?_
              refine V.callV0 (pc := 76) (as := [.int (-(lkS ρ x.2.1))]) hC (c_X1_write σ (va_up (va_up (va_up ν 70 f68_0) 71 (fun _ => i68_1)) 72 (fun _ => i68_2)) (-(lkS ρ x.2.1)) hu68_0.2.1) mu_X1_write ml_X1_60 (by decide) ⟨3, 1, TX1, 5, _, rfl, gx_3⟩ rfl (Nat.le_of_ble_eq_true rfl) dX1_readPart_76 ?_
              rintro _ ⟨f76_0, i76_1⟩ ⟨rfl, hu76_0⟩
              have hu76_0 : WtF (f68_0) (i68_1) (-(lkS ρ x.2.1)) f76_0 i76_1 := hu76_0
              show V X (wX k g a σ (va_up (va_up (va_up ν 70 f76_0) 71 (fun _ => i76_1)) 72 (fun _ => i68_2))) [(3, .int (bI (((sgS (lkS ρ) (nI u) 3) (x.2.1 + 1)).1 = true))), (6, .int (lkS ρ x.2.1)), (0, .ref (a 3)), (1, .int 4), (2, .int 2), (4, .int 60), (5, .int (nI i))] [] 79
              refine V.iinc (pc := 79) 6 (nI (i + 1)) [(5, .int (nI (i + 1))), (3, .int (bI (((sgS (lkS ρ) (nI u) 3) (x.2.1 + 1)).1 = true))), (6, .int (lkS ρ x.2.1)), (0, .ref (a 3)), (1, .int 4), (2, .int 2), (4, .int 60)] hC dX1_readPart_79 rfl (ncast (nadd rfl (nl 1)) (by omega)) (by decide) rfl ?_
              refine V.goto (pc := 82) 25 hC dX1_readPart_82 (by decide) ?_
              exact V.sub [3, 4, 5, 1, 6, 0] rfl (ih (appS x ((sgS (lkS ρ) (nI u) 3) (x.2.1 + 1)) (lkS ρ x.2.1)) (i + 1) f76_0 i76_1 i68_2 (by omega) (hg.app hok hgy (rk_op hrk (by omega)).1) (CO_app hx hok hu68_0 (cd_op1 (rk_op hrk (by omega)).1).symm hu76_0 (fun q => by have := hgy.2.2 q; have := hgy.2.1; omega)) (hv.trans (lp_yes ⟨hok, hrk⟩)))
    exact V.sub [3, 4, 5, 2, 1, 0] rfl (loop_25 60 ((sgS (lkS ρ) (nI u) 3) p) 0 f5_0 i5_1 i5_2 (by omega) ((sg_g (u := nI u) (lk_tok (ρ := ρ)) 3) p (by omega)) hu5_0 rfl)
  · have nc_11 : 4 = 2 := (neq (nl 4) (nl 2) (by omega) (by omega)).mp c_11
    exact absurd c_11 (by decide)
set_option maxHeartbeats 4000000 in
set_option maxRecDepth 100000 in
theorem c_X1_side_4_2 {l : Launch} {D : va_G} {k : Nat → ClassId} {g a : Nat → Nat} (σ ν : St) (ρ : Rw) (u L p : Nat) (hT : RT σ ρ) (hI : Inv ρ) (hu2 : u < 2) (hP : CIn (nN (ρ 5)) (ν 71 0) (ν 72 0) (ν 73 0) u L p) : Ct l D k g yX1_readSide cX1_readSide 3 (some .boolean) 43 1014 [.ref (a 3), .int 4, .int 2] (S := Rw × Int32 × Int32) (wX k g a σ ν) (fun uu => wX k g a σ (va_up (va_up (va_up ν 70 uu.1) 71 (fun _ => uu.2.1)) 72 (fun _ => uu.2.2))) (fun vv uu => vv = some (.int (bI (((lvS (lkS ρ) (sgS (lkS ρ) (nI u) 3) 1) p).1 = true))) ∧ COut (ν 70) L ((lvS (lkS ρ) (sgS (lkS ρ) (nI u) 3) 1) p) uu.1 uu.2.1 uu.2.2) := by
  refine Ct.ofI RX1 rfl (by decide +kernel) (Nat.le_of_ble_eq_true rfl) (fun X hC hR => ?_)
  have hb60 := hI.bb; have hle := hP.2.2.2
  show V X (wX k g a σ ν) [(0, .ref (a 3)), (1, .int 4), (2, .int 2)] [] 0
  refine V.iload_n (pc := 0) 1 hC dX1_readSide_0 rfl ?_
  refine V.iconst (pc := 1) 5 hC dX1_readSide_1 (by decide) ?_
  refine V.icmp_ge (pc := 2) 14 hC dX1_readSide_2 (by decide) (fun c_2 => ?_) (fun c_2 => ?_)
  · have nc_2 : 5 ≤ 4 := (nle (nl 5) (nl 4) (by omega) (by omega)).mp c_2
    exact absurd c_2 (by decide)
  · have nc_2 : ¬ (5 ≤ 4) := fun z => c_2 ((nle (nl 5) (nl 4) (by omega) (by omega)).mpr z)
    refine V.aload_n (pc := 5) 0 hC dX1_readSide_5 rfl ?_
    refine V.iload_n (pc := 6) 1 hC dX1_readSide_6 rfl ?_
    refine V.iload_n (pc := 7) 2 hC dX1_readSide_7 rfl ?_
    refine V.callV0 (pc := 8) (as := [.int 4, .int 2]) hC (c_X1_part_4_2 σ ν ρ u L p hT hI hu2 hP) mu_X1_readPart ml_X1_36 (by decide) ⟨3, 1, TX1, 5, _, rfl, gx_3⟩ rfl (Nat.le_of_ble_eq_true rfl) dX1_readSide_8 ?_
    rintro _ ⟨f8_0, i8_1, i8_2⟩ ⟨rfl, hu8_0⟩
    have hu8_0 : COut (ν 70) L ((lvS (lkS ρ) (sgS (lkS ρ) (nI u) 3) 1) p) f8_0 i8_1 i8_2 := hu8_0
    show V X (wX k g a σ (va_up (va_up (va_up ν 70 f8_0) 71 (fun _ => i8_1)) 72 (fun _ => i8_2))) [(0, .ref (a 3)), (1, .int 4), (2, .int 2)] [.int (bI (((lvS (lkS ρ) (sgS (lkS ρ) (nI u) 3) 1) p).1 = true))] 11
    refine V.goto (pc := 11) 19 hC dX1_readSide_11 (by decide) ?_
    exact hR (bI (((lvS (lkS ρ) (sgS (lkS ρ) (nI u) 3) 1) p).1 = true)) (f8_0, i8_1, i8_2) _ _ dX1_readSide_19 (by first | rfl | exact bI_n _) ⟨rfl, hu8_0⟩
set_option maxHeartbeats 4000000 in
set_option maxRecDepth 100000 in
theorem c_X1_part_3_2 {l : Launch} {D : va_G} {k : Nat → ClassId} {g a : Nat → Nat} (σ ν : St) (ρ : Rw) (u L p : Nat) (hT : RT σ ρ) (hI : Inv ρ) (hu2 : u < 2) (hP : CIn (nN (ρ 5)) (ν 71 0) (ν 72 0) (ν 73 0) u L p) : Ct l D k g yX1_readPart cX1_readPart 7 (some .boolean) 44 1036 [.ref (a 3), .int 3, .int 2] (S := Rw × Int32 × Int32) (wX k g a σ ν) (fun uu => wX k g a σ (va_up (va_up (va_up ν 70 uu.1) 71 (fun _ => uu.2.1)) 72 (fun _ => uu.2.2))) (fun vv uu => vv = some (.int (bI (((lvS (lkS ρ) (sgS (lkS ρ) (nI u) 3) 2) p).1 = true))) ∧ COut (ν 70) L ((lvS (lkS ρ) (sgS (lkS ρ) (nI u) 3) 2) p) uu.1 uu.2.1 uu.2.2) := by
  refine Ct.ofI RX1 rfl (by decide +kernel) (Nat.le_of_ble_eq_true rfl) (fun X hC hR => ?_)
  have hb60 := hI.bb; have hle := hP.2.2.2
  show V X (wX k g a σ ν) [(0, .ref (a 3)), (1, .int 3), (2, .int 2)] [] 0
  refine V.aload_n (pc := 0) 0 hC dX1_readPart_0 rfl ?_
  refine V.iload_n (pc := 1) 1 hC dX1_readPart_1 rfl ?_
  refine V.iconst (pc := 2) 1 hC dX1_readPart_2 (by decide) ?_
  refine V.iadd (pc := 3) hC dX1_readPart_3 ?_
  refine V.eqi (y := 4) (by decide) ?_
  refine V.iload_n (pc := 4) 2 hC dX1_readPart_4 rfl ?_
  refine V.callV0 (pc := 5) (as := [.int 4, .int 2]) hC (c_X1_side_4_2 σ ν ρ u L p hT hI hu2 hP) mu_X1_readSide ml_X1_49 (by decide) ⟨3, 1, TX1, 5, _, rfl, gx_3⟩ rfl (Nat.le_of_ble_eq_true rfl) dX1_readPart_5 ?_
  rintro _ ⟨f5_0, i5_1, i5_2⟩ ⟨rfl, hu5_0⟩
  have hu5_0 : COut (ν 70) L ((lvS (lkS ρ) (sgS (lkS ρ) (nI u) 3) 1) p) f5_0 i5_1 i5_2 := hu5_0
  show V X (wX k g a σ (va_up (va_up (va_up ν 70 f5_0) 71 (fun _ => i5_1)) 72 (fun _ => i5_2))) [(0, .ref (a 3)), (1, .int 3), (2, .int 2)] [.int (bI (((lvS (lkS ρ) (sgS (lkS ρ) (nI u) 3) 1) p).1 = true))] 8
  refine V.istore_n (pc := 8) [(3, .int (bI (((lvS (lkS ρ) (sgS (lkS ρ) (nI u) 3) 1) p).1 = true))), (0, .ref (a 3)), (1, .int 3), (2, .int 2)] hC dX1_readPart_8 (by decide) rfl ?_
  refine V.iload_n (pc := 9) 2 hC dX1_readPart_9 rfl ?_
  refine V.iconst (pc := 10) 2 hC dX1_readPart_10 (by decide) ?_
  refine V.icmp_ne (pc := 11) 18 hC dX1_readPart_11 (by decide) (fun c_11 => ?_) (fun c_11 => ?_)
  · have nc_11 : ¬ (3 = 2) := fun z => c_11 ((neq (nl 3) (nl 2) (by omega) (by omega)).mpr z)
    refine V.bipush (pc := 18) 60 hC dX1_readPart_18 (by decide) ?_
    refine V.istore (pc := 20) [(4, .int 60), (3, .int (bI (((lvS (lkS ρ) (sgS (lkS ρ) (nI u) 3) 1) p).1 = true))), (0, .ref (a 3)), (1, .int 3), (2, .int 2)] hC dX1_readPart_20 (by decide) rfl ?_
    refine V.iconst (pc := 22) 0 hC dX1_readPart_22 (by decide) ?_
    refine V.istore (pc := 23) [(5, .int 0), (4, .int 60), (3, .int (bI (((lvS (lkS ρ) (sgS (lkS ρ) (nI u) 3) 1) p).1 = true))), (0, .ref (a 3)), (1, .int 3), (2, .int 2)] hC dX1_readPart_23 (by decide) rfl ?_
    have loop_25 : ∀ (n : Nat) (x : Res) (i : Nat) (f70 : Rw) (i71 i72 : Int32), i + n = 60 → GR (nN (ρ 5)) p x → COut (ν 70) L x f70 i71 i72 → (lvS (lkS ρ) (sgS (lkS ρ) (nI u) 3) 2) p = lpS (lkS ρ) (lvS (lkS ρ) (sgS (lkS ρ) (nI u) 3) 1) 3 n x → V X (wX k g a σ (va_up (va_up (va_up ν 70 f70) 71 (fun _ => i71)) 72 (fun _ => i72))) [(0, .ref (a 3)), (1, .int 3), (2, .int 2), (3, .int (bI (x.1 = true))), (4, .int 60), (5, .int (nI i))] [] 25 := by
      intro n
      induction n with
      | zero =>
        intro x i f70 i71 i72 hi hg hx hv
        have hxb := hg.2.1
        refine V.iload (pc := 25) 5 hC dX1_readPart_25 rfl ?_
        refine V.iload (pc := 27) 4 hC dX1_readPart_27 rfl ?_
        refine V.icmp_ge (pc := 29) 85 hC dX1_readPart_29 (by decide) (fun c_29 => ?_) (fun c_29 => ?_)
        · have nc_29 : 60 ≤ i := (nle (nl 60) rfl (by omega) (by omega)).mp c_29
          refine V.iload_n (pc := 85) 3 hC dX1_readPart_85 rfl ?_
          exact hR (bI (x.1 = true)) (f70, i71, i72) _ _ dX1_readPart_86 (by first | rfl | exact bI_n _) ⟨by rw [show (lvS (lkS ρ) (sgS (lkS ρ) (nI u) 3) 2) p = x from hv], by rw [show (lvS (lkS ρ) (sgS (lkS ρ) (nI u) 3) 2) p = x from hv]; exact hx⟩
        · have nc_29 : ¬ (60 ≤ i) := fun z => c_29 ((nle (nl 60) rfl (by omega) (by omega)).mpr z)
          exfalso; omega
      | succ n ih =>
        intro x i f70 i71 i72 hi hg hx hv
        have hxb := hg.2.1
        refine V.iload (pc := 25) 5 hC dX1_readPart_25 rfl ?_
        refine V.iload (pc := 27) 4 hC dX1_readPart_27 rfl ?_
        refine V.icmp_ge (pc := 29) 85 hC dX1_readPart_29 (by decide) (fun c_29 => ?_) (fun c_29 => ?_)
        · have nc_29 : 60 ≤ i := (nle (nl 60) rfl (by omega) (by omega)).mp c_29
          exfalso; omega
        · have nc_29 : ¬ (60 ≤ i) := fun z => c_29 ((nle (nl 60) rfl (by omega) (by omega)).mpr z)
          refine V.iload_n (pc := 32) 3 hC dX1_readPart_32 rfl ?_
          refine V.if_eq_b (P := x.1 = true) (pc := 33) 85 hC dX1_readPart_33 (by decide) (fun c_33 => ?_) (fun c_33 => ?_)
          · refine V.iload_n (pc := 85) 3 hC dX1_readPart_85 rfl ?_
            exact hR (bI (x.1 = true)) (f70, i71, i72) _ _ dX1_readPart_86 (by first | rfl | exact bI_n _) ⟨by rw [show (lvS (lkS ρ) (sgS (lkS ρ) (nI u) 3) 2) p = x from hv.trans (lp_no (fun q => c_33 q.1))], by rw [show (lvS (lkS ρ) (sgS (lkS ρ) (nI u) 3) 2) p = x from hv.trans (lp_no (fun q => c_33 q.1))]; exact hx⟩
          · refine V.aload_n (pc := 36) 0 hC dX1_readPart_36 rfl ?_
            refine V.callV0 (pc := 37) (as := []) hC (c_X1_next σ (va_up (va_up (va_up ν 70 f70) 71 (fun _ => i71)) 72 (fun _ => i72)) ρ x.2.1 hT hI hx.1 (by omega)) mu_X1_next ml_X1_52 (by decide) ⟨3, 1, TX1, 5, _, rfl, gx_3⟩ rfl (Nat.le_of_ble_eq_true rfl) dX1_readPart_37 ?_
            rintro _ _ rfl
            show V X (wX k g a σ (va_up (va_up (va_up ν 70 f70) 71 (fun _ => i71)) 72 (fun _ => i72))) [(0, .ref (a 3)), (1, .int 3), (2, .int 2), (3, .int (bI (x.1 = true))), (4, .int 60), (5, .int (nI i))] [.int (lkS ρ x.2.1)] 40
            refine V.callS0 (pc := 40) (as := [.int (lkS ρ x.2.1)]) hC (c_X1_rankOf (lkS ρ x.2.1) ) ms_X1_rankOf ml_X1_56 (by decide) rfl (Nat.le_of_ble_eq_true rfl) dX1_readPart_40 ?_
            rintro _ _ rfl
            show V X (wX k g a σ (va_up (va_up (va_up ν 70 f70) 71 (fun _ => i71)) 72 (fun _ => i72))) [(0, .ref (a 3)), (1, .int 3), (2, .int 2), (3, .int (bI (x.1 = true))), (4, .int 60), (5, .int (nI i))] [.int (nI (rkS (lkS ρ x.2.1)))] 43
            refine V.iload_n (pc := 43) 1 hC dX1_readPart_43 rfl ?_
            refine V.icmp_ne (pc := 44) 85 hC dX1_readPart_44 (by decide) (fun c_44 => ?_) (fun c_44 => ?_)
            · refine V.iload_n (pc := 85) 3 hC dX1_readPart_85 rfl ?_
              exact hR (bI (x.1 = true)) (f70, i71, i72) _ _ dX1_readPart_86 (by first | rfl | exact bI_n _) ⟨by rw [show (lvS (lkS ρ) (sgS (lkS ρ) (nI u) 3) 2) p = x from hv.trans (lp_no (fun q => c_44 ((rk_e (r := 3) (by omega)).mpr q.2)))], by rw [show (lvS (lkS ρ) (sgS (lkS ρ) (nI u) 3) 2) p = x from hv.trans (lp_no (fun q => c_44 ((rk_e (r := 3) (by omega)).mpr q.2)))]; exact hx⟩
            · have hok := c_33
              have hgx := hg.2.2 hok
              have hrk : rkS (lkS ρ x.2.1) = 3 := (rk_e (r := 3) (by omega)).mp c_44
              have hlt : x.2.1 < nN (ρ 5) := tok_lt lk_tok (rk_op hrk (by omega)).2
              have hgy := (lv_g (lk_tok (ρ := ρ)) (sg_g (u := nI u) (lk_tok (ρ := ρ)) 3) 1) (x.2.1 + 1) hlt
              refine V.aload_n (pc := 47) 0 hC dX1_readPart_47 rfl ?_
              refine V.callV0 (pc := 48) (as := []) hC (c_X1_next σ (va_up (va_up (va_up ν 70 f70) 71 (fun _ => i71)) 72 (fun _ => i72)) ρ x.2.1 hT hI hx.1 (by omega)) mu_X1_next ml_X1_52 (by decide) ⟨3, 1, TX1, 5, _, rfl, gx_3⟩ rfl (Nat.le_of_ble_eq_true rfl) dX1_readPart_48 ?_
              rintro _ _ rfl
              show V X (wX k g a σ (va_up (va_up (va_up ν 70 f70) 71 (fun _ => i71)) 72 (fun _ => i72))) [(0, .ref (a 3)), (1, .int 3), (2, .int 2), (3, .int (bI (x.1 = true))), (4, .int 60), (5, .int (nI i))] [.int (lkS ρ x.2.1)] 51
              refine V.istore (pc := 51) [(6, .int (lkS ρ x.2.1)), (0, .ref (a 3)), (1, .int 3), (2, .int 2), (3, .int (bI (x.1 = true))), (4, .int 60), (5, .int (nI i))] hC dX1_readPart_51 (by decide) rfl ?_
              refine V.aload_n (pc := 53) 1 hC dX1_readPart_53 rfl ?_
              refine V.dup (pc := 54) hC dX1_readPart_54 rfl ?_
              refine V.get (pc := 55) (v := .int i72) hC cf_X1 3 3 fl_X1_29 (by decide) gx_3 rfl dX1_readPart_55 ?_
              refine V.iconst (pc := 58) 1 hC dX1_readPart_58 (by decide) ?_
              refine V.iadd (pc := 59) hC dX1_readPart_59 ?_
              refine V.put (pc := 60) (v := .int (i72 + 1)) hC cf_X1 3 3 (wX k g a σ (va_up (va_up (va_up ν 70 f70) 71 (fun _ => i71)) 72 (fun _ => i72 + 1))) fl_X1_29 (by decide) gx_3 rfl rfl rfl (Nat.le_of_ble_eq_true rfl) rfl dX1_readPart_60 ?_
              refine V.aload_n (pc := 63) 1 hC dX1_readPart_63 rfl ?_
              refine V.iload_n (pc := 64) 2 hC dX1_readPart_64 rfl ?_
              refine V.iconst (pc := 65) 1 hC dX1_readPart_65 (by decide) ?_
              refine V.iadd (pc := 66) hC dX1_readPart_66 ?_
              refine V.eqi (y := 4) (by decide) ?_
              refine V.iload_n (pc := 67) 3 hC dX1_readPart_67 rfl ?_
              refine V.callV0 (pc := 68) (as := [.int 4, .int 2]) hC (c_X1_side_4_2 σ (va_up (va_up (va_up ν 70 f70) 71 (fun _ => i71)) 72 (fun _ => i72 + 1)) ρ u (L + x.2.2.length) (x.2.1 + 1) hT hI hu2 ⟨hP.1, (hx.2.2 hok).1, nadd hx.1 (nl 1), by omega, hlt⟩) mu_X1_readSide ml_X1_49 (by decide) ⟨3, 1, TX1, 5, _, rfl, gx_3⟩ rfl (Nat.le_of_ble_eq_true rfl) dX1_readPart_68 ?_
              rintro _ ⟨f68_0, i68_1, i68_2⟩ ⟨rfl, hu68_0⟩
              have hu68_0 : COut (f70) (L + x.2.2.length) ((lvS (lkS ρ) (sgS (lkS ρ) (nI u) 3) 1) (x.2.1 + 1)) f68_0 i68_1 i68_2 := hu68_0
              show V X (wX k g a σ (va_up (va_up (va_up ν 70 f68_0) 71 (fun _ => i68_1)) 72 (fun _ => i68_2))) [(6, .int (lkS ρ x.2.1)), (0, .ref (a 3)), (1, .int 3), (2, .int 2), (3, .int (bI (x.1 = true))), (4, .int 60), (5, .int (nI i))] [.int (bI (((lvS (lkS ρ) (sgS (lkS ρ) (nI u) 3) 1) (x.2.1 + 1)).1 = true))] 71
              refine V.istore_n (pc := 71) [(3, .int (bI (((lvS (lkS ρ) (sgS (lkS ρ) (nI u) 3) 1) (x.2.1 + 1)).1 = true))), (6, .int (lkS ρ x.2.1)), (0, .ref (a 3)), (1, .int 3), (2, .int 2), (4, .int 60), (5, .int (nI i))] hC dX1_readPart_71 (by decide) rfl ?_
              refine V.aload_n (pc := 72) 2 hC dX1_readPart_72 rfl ?_
              refine V.iload (pc := 73) 1 hC dX1_readPart_73 rfl ?_
              refine V.ineg (pc := 75) hC dX1_readPart_75 ?_
              refine V.callV0 (pc := 76) (as := [.int (-(lkS ρ x.2.1))]) hC (c_X1_write σ (va_up (va_up (va_up ν 70 f68_0) 71 (fun _ => i68_1)) 72 (fun _ => i68_2)) (-(lkS ρ x.2.1)) hu68_0.2.1) mu_X1_write ml_X1_60 (by decide) ⟨3, 1, TX1, 5, _, rfl, gx_3⟩ rfl (Nat.le_of_ble_eq_true rfl) dX1_readPart_76 ?_
              rintro _ ⟨f76_0, i76_1⟩ ⟨rfl, hu76_0⟩
              have hu76_0 : WtF (f68_0) (i68_1) (-(lkS ρ x.2.1)) f76_0 i76_1 := hu76_0
              show V X (wX k g a σ (va_up (va_up (va_up ν 70 f76_0) 71 (fun _ => i76_1)) 72 (fun _ => i68_2))) [(3, .int (bI (((lvS (lkS ρ) (sgS (lkS ρ) (nI u) 3) 1) (x.2.1 + 1)).1 = true))), (6, .int (lkS ρ x.2.1)), (0, .ref (a 3)), (1, .int 3), (2, .int 2), (4, .int 60), (5, .int (nI i))] [] 79
              refine V.iinc (pc := 79) 6 (nI (i + 1)) [(5, .int (nI (i + 1))), (3, .int (bI (((lvS (lkS ρ) (sgS (lkS ρ) (nI u) 3) 1) (x.2.1 + 1)).1 = true))), (6, .int (lkS ρ x.2.1)), (0, .ref (a 3)), (1, .int 3), (2, .int 2), (4, .int 60)] hC dX1_readPart_79 rfl (ncast (nadd rfl (nl 1)) (by omega)) (by decide) rfl ?_
              refine V.goto (pc := 82) 25 hC dX1_readPart_82 (by decide) ?_
              exact V.sub [3, 4, 5, 1, 6, 0] rfl (ih (appS x ((lvS (lkS ρ) (sgS (lkS ρ) (nI u) 3) 1) (x.2.1 + 1)) (lkS ρ x.2.1)) (i + 1) f76_0 i76_1 i68_2 (by omega) (hg.app hok hgy (rk_op hrk (by omega)).1) (CO_app hx hok hu68_0 (cd_op1 (rk_op hrk (by omega)).1).symm hu76_0 (fun q => by have := hgy.2.2 q; have := hgy.2.1; omega)) (hv.trans (lp_yes ⟨hok, hrk⟩)))
    exact V.sub [3, 4, 5, 2, 1, 0] rfl (loop_25 60 ((lvS (lkS ρ) (sgS (lkS ρ) (nI u) 3) 1) p) 0 f5_0 i5_1 i5_2 (by omega) ((lv_g (lk_tok (ρ := ρ)) (sg_g (u := nI u) (lk_tok (ρ := ρ)) 3) 1) p (by omega)) hu5_0 rfl)
  · have nc_11 : 3 = 2 := (neq (nl 3) (nl 2) (by omega) (by omega)).mp c_11
    exact absurd c_11 (by decide)
set_option maxHeartbeats 4000000 in
set_option maxRecDepth 100000 in
theorem c_X1_side_3_2 {l : Launch} {D : va_G} {k : Nat → ClassId} {g a : Nat → Nat} (σ ν : St) (ρ : Rw) (u L p : Nat) (hT : RT σ ρ) (hI : Inv ρ) (hu2 : u < 2) (hP : CIn (nN (ρ 5)) (ν 71 0) (ν 72 0) (ν 73 0) u L p) : Ct l D k g yX1_readSide cX1_readSide 3 (some .boolean) 45 1062 [.ref (a 3), .int 3, .int 2] (S := Rw × Int32 × Int32) (wX k g a σ ν) (fun uu => wX k g a σ (va_up (va_up (va_up ν 70 uu.1) 71 (fun _ => uu.2.1)) 72 (fun _ => uu.2.2))) (fun vv uu => vv = some (.int (bI (((lvS (lkS ρ) (sgS (lkS ρ) (nI u) 3) 2) p).1 = true))) ∧ COut (ν 70) L ((lvS (lkS ρ) (sgS (lkS ρ) (nI u) 3) 2) p) uu.1 uu.2.1 uu.2.2) := by
  refine Ct.ofI RX1 rfl (by decide +kernel) (Nat.le_of_ble_eq_true rfl) (fun X hC hR => ?_)
  have hb60 := hI.bb; have hle := hP.2.2.2
  show V X (wX k g a σ ν) [(0, .ref (a 3)), (1, .int 3), (2, .int 2)] [] 0
  refine V.iload_n (pc := 0) 1 hC dX1_readSide_0 rfl ?_
  refine V.iconst (pc := 1) 5 hC dX1_readSide_1 (by decide) ?_
  refine V.icmp_ge (pc := 2) 14 hC dX1_readSide_2 (by decide) (fun c_2 => ?_) (fun c_2 => ?_)
  · have nc_2 : 5 ≤ 3 := (nle (nl 5) (nl 3) (by omega) (by omega)).mp c_2
    exact absurd c_2 (by decide)
  · have nc_2 : ¬ (5 ≤ 3) := fun z => c_2 ((nle (nl 5) (nl 3) (by omega) (by omega)).mpr z)
    refine V.aload_n (pc := 5) 0 hC dX1_readSide_5 rfl ?_
    refine V.iload_n (pc := 6) 1 hC dX1_readSide_6 rfl ?_
    refine V.iload_n (pc := 7) 2 hC dX1_readSide_7 rfl ?_
    refine V.callV0 (pc := 8) (as := [.int 3, .int 2]) hC (c_X1_part_3_2 σ ν ρ u L p hT hI hu2 hP) mu_X1_readPart ml_X1_36 (by decide) ⟨3, 1, TX1, 5, _, rfl, gx_3⟩ rfl (Nat.le_of_ble_eq_true rfl) dX1_readSide_8 ?_
    rintro _ ⟨f8_0, i8_1, i8_2⟩ ⟨rfl, hu8_0⟩
    have hu8_0 : COut (ν 70) L ((lvS (lkS ρ) (sgS (lkS ρ) (nI u) 3) 2) p) f8_0 i8_1 i8_2 := hu8_0
    show V X (wX k g a σ (va_up (va_up (va_up ν 70 f8_0) 71 (fun _ => i8_1)) 72 (fun _ => i8_2))) [(0, .ref (a 3)), (1, .int 3), (2, .int 2)] [.int (bI (((lvS (lkS ρ) (sgS (lkS ρ) (nI u) 3) 2) p).1 = true))] 11
    refine V.goto (pc := 11) 19 hC dX1_readSide_11 (by decide) ?_
    exact hR (bI (((lvS (lkS ρ) (sgS (lkS ρ) (nI u) 3) 2) p).1 = true)) (f8_0, i8_1, i8_2) _ _ dX1_readSide_19 (by first | rfl | exact bI_n _) ⟨rfl, hu8_0⟩
set_option maxHeartbeats 4000000 in
set_option maxRecDepth 100000 in
theorem c_X1_part_2_2 {l : Launch} {D : va_G} {k : Nat → ClassId} {g a : Nat → Nat} (σ ν : St) (ρ : Rw) (u L p : Nat) (hT : RT σ ρ) (hI : Inv ρ) (hu2 : u < 2) (hP : CIn (nN (ρ 5)) (ν 71 0) (ν 72 0) (ν 73 0) u L p) : Ct l D k g yX1_readPart cX1_readPart 7 (some .boolean) 46 1084 [.ref (a 3), .int 2, .int 2] (S := Rw × Int32 × Int32) (wX k g a σ ν) (fun uu => wX k g a σ (va_up (va_up (va_up ν 70 uu.1) 71 (fun _ => uu.2.1)) 72 (fun _ => uu.2.2))) (fun vv uu => vv = some (.int (bI (((lvS (lkS ρ) (sgS (lkS ρ) (nI u) 3) 3) p).1 = true))) ∧ COut (ν 70) L ((lvS (lkS ρ) (sgS (lkS ρ) (nI u) 3) 3) p) uu.1 uu.2.1 uu.2.2) := by
  refine Ct.ofI RX1 rfl (by decide +kernel) (Nat.le_of_ble_eq_true rfl) (fun X hC hR => ?_)
  have hb60 := hI.bb; have hle := hP.2.2.2
  show V X (wX k g a σ ν) [(0, .ref (a 3)), (1, .int 2), (2, .int 2)] [] 0
  refine V.aload_n (pc := 0) 0 hC dX1_readPart_0 rfl ?_
  refine V.iload_n (pc := 1) 1 hC dX1_readPart_1 rfl ?_
  refine V.iconst (pc := 2) 1 hC dX1_readPart_2 (by decide) ?_
  refine V.iadd (pc := 3) hC dX1_readPart_3 ?_
  refine V.eqi (y := 3) (by decide) ?_
  refine V.iload_n (pc := 4) 2 hC dX1_readPart_4 rfl ?_
  refine V.callV0 (pc := 5) (as := [.int 3, .int 2]) hC (c_X1_side_3_2 σ ν ρ u L p hT hI hu2 hP) mu_X1_readSide ml_X1_49 (by decide) ⟨3, 1, TX1, 5, _, rfl, gx_3⟩ rfl (Nat.le_of_ble_eq_true rfl) dX1_readPart_5 ?_
  rintro _ ⟨f5_0, i5_1, i5_2⟩ ⟨rfl, hu5_0⟩
  have hu5_0 : COut (ν 70) L ((lvS (lkS ρ) (sgS (lkS ρ) (nI u) 3) 2) p) f5_0 i5_1 i5_2 := hu5_0
  show V X (wX k g a σ (va_up (va_up (va_up ν 70 f5_0) 71 (fun _ => i5_1)) 72 (fun _ => i5_2))) [(0, .ref (a 3)), (1, .int 2), (2, .int 2)] [.int (bI (((lvS (lkS ρ) (sgS (lkS ρ) (nI u) 3) 2) p).1 = true))] 8
  refine V.istore_n (pc := 8) [(3, .int (bI (((lvS (lkS ρ) (sgS (lkS ρ) (nI u) 3) 2) p).1 = true))), (0, .ref (a 3)), (1, .int 2), (2, .int 2)] hC dX1_readPart_8 (by decide) rfl ?_
  refine V.iload_n (pc := 9) 2 hC dX1_readPart_9 rfl ?_
  refine V.iconst (pc := 10) 2 hC dX1_readPart_10 (by decide) ?_
  refine V.icmp_ne (pc := 11) 18 hC dX1_readPart_11 (by decide) (fun c_11 => ?_) (fun c_11 => ?_)
  · have nc_11 : ¬ (2 = 2) := fun z => c_11 ((neq (nl 2) (nl 2) (by omega) (by omega)).mpr z)
    exact absurd c_11 (by decide)
  · have nc_11 : 2 = 2 := (neq (nl 2) (nl 2) (by omega) (by omega)).mp c_11
    refine V.iconst (pc := 14) 1 hC dX1_readPart_14 (by decide) ?_
    refine V.goto (pc := 15) 20 hC dX1_readPart_15 (by decide) ?_
    refine V.istore (pc := 20) [(4, .int 1), (3, .int (bI (((lvS (lkS ρ) (sgS (lkS ρ) (nI u) 3) 2) p).1 = true))), (0, .ref (a 3)), (1, .int 2), (2, .int 2)] hC dX1_readPart_20 (by decide) rfl ?_
    refine V.iconst (pc := 22) 0 hC dX1_readPart_22 (by decide) ?_
    refine V.istore (pc := 23) [(5, .int 0), (4, .int 1), (3, .int (bI (((lvS (lkS ρ) (sgS (lkS ρ) (nI u) 3) 2) p).1 = true))), (0, .ref (a 3)), (1, .int 2), (2, .int 2)] hC dX1_readPart_23 (by decide) rfl ?_
    have loop_25 : ∀ (n : Nat) (x : Res) (i : Nat) (f70 : Rw) (i71 i72 : Int32), i + n = 1 → GR (nN (ρ 5)) p x → COut (ν 70) L x f70 i71 i72 → (lvS (lkS ρ) (sgS (lkS ρ) (nI u) 3) 3) p = lpS (lkS ρ) (lvS (lkS ρ) (sgS (lkS ρ) (nI u) 3) 2) 2 n x → V X (wX k g a σ (va_up (va_up (va_up ν 70 f70) 71 (fun _ => i71)) 72 (fun _ => i72))) [(0, .ref (a 3)), (1, .int 2), (2, .int 2), (3, .int (bI (x.1 = true))), (4, .int 1), (5, .int (nI i))] [] 25 := by
      intro n
      induction n with
      | zero =>
        intro x i f70 i71 i72 hi hg hx hv
        have hxb := hg.2.1
        refine V.iload (pc := 25) 5 hC dX1_readPart_25 rfl ?_
        refine V.iload (pc := 27) 4 hC dX1_readPart_27 rfl ?_
        refine V.icmp_ge (pc := 29) 85 hC dX1_readPart_29 (by decide) (fun c_29 => ?_) (fun c_29 => ?_)
        · have nc_29 : 1 ≤ i := (nle (nl 1) rfl (by omega) (by omega)).mp c_29
          refine V.iload_n (pc := 85) 3 hC dX1_readPart_85 rfl ?_
          exact hR (bI (x.1 = true)) (f70, i71, i72) _ _ dX1_readPart_86 (by first | rfl | exact bI_n _) ⟨by rw [show (lvS (lkS ρ) (sgS (lkS ρ) (nI u) 3) 3) p = x from hv], by rw [show (lvS (lkS ρ) (sgS (lkS ρ) (nI u) 3) 3) p = x from hv]; exact hx⟩
        · have nc_29 : ¬ (1 ≤ i) := fun z => c_29 ((nle (nl 1) rfl (by omega) (by omega)).mpr z)
          exfalso; omega
      | succ n ih =>
        intro x i f70 i71 i72 hi hg hx hv
        have hxb := hg.2.1
        refine V.iload (pc := 25) 5 hC dX1_readPart_25 rfl ?_
        refine V.iload (pc := 27) 4 hC dX1_readPart_27 rfl ?_
        refine V.icmp_ge (pc := 29) 85 hC dX1_readPart_29 (by decide) (fun c_29 => ?_) (fun c_29 => ?_)
        · have nc_29 : 1 ≤ i := (nle (nl 1) rfl (by omega) (by omega)).mp c_29
          exfalso; omega
        · have nc_29 : ¬ (1 ≤ i) := fun z => c_29 ((nle (nl 1) rfl (by omega) (by omega)).mpr z)
          refine V.iload_n (pc := 32) 3 hC dX1_readPart_32 rfl ?_
          refine V.if_eq_b (P := x.1 = true) (pc := 33) 85 hC dX1_readPart_33 (by decide) (fun c_33 => ?_) (fun c_33 => ?_)
          · refine V.iload_n (pc := 85) 3 hC dX1_readPart_85 rfl ?_
            exact hR (bI (x.1 = true)) (f70, i71, i72) _ _ dX1_readPart_86 (by first | rfl | exact bI_n _) ⟨by rw [show (lvS (lkS ρ) (sgS (lkS ρ) (nI u) 3) 3) p = x from hv.trans (lp_no (fun q => c_33 q.1))], by rw [show (lvS (lkS ρ) (sgS (lkS ρ) (nI u) 3) 3) p = x from hv.trans (lp_no (fun q => c_33 q.1))]; exact hx⟩
          · refine V.aload_n (pc := 36) 0 hC dX1_readPart_36 rfl ?_
            refine V.callV0 (pc := 37) (as := []) hC (c_X1_next σ (va_up (va_up (va_up ν 70 f70) 71 (fun _ => i71)) 72 (fun _ => i72)) ρ x.2.1 hT hI hx.1 (by omega)) mu_X1_next ml_X1_52 (by decide) ⟨3, 1, TX1, 5, _, rfl, gx_3⟩ rfl (Nat.le_of_ble_eq_true rfl) dX1_readPart_37 ?_
            rintro _ _ rfl
            show V X (wX k g a σ (va_up (va_up (va_up ν 70 f70) 71 (fun _ => i71)) 72 (fun _ => i72))) [(0, .ref (a 3)), (1, .int 2), (2, .int 2), (3, .int (bI (x.1 = true))), (4, .int 1), (5, .int (nI i))] [.int (lkS ρ x.2.1)] 40
            refine V.callS0 (pc := 40) (as := [.int (lkS ρ x.2.1)]) hC (c_X1_rankOf (lkS ρ x.2.1) ) ms_X1_rankOf ml_X1_56 (by decide) rfl (Nat.le_of_ble_eq_true rfl) dX1_readPart_40 ?_
            rintro _ _ rfl
            show V X (wX k g a σ (va_up (va_up (va_up ν 70 f70) 71 (fun _ => i71)) 72 (fun _ => i72))) [(0, .ref (a 3)), (1, .int 2), (2, .int 2), (3, .int (bI (x.1 = true))), (4, .int 1), (5, .int (nI i))] [.int (nI (rkS (lkS ρ x.2.1)))] 43
            refine V.iload_n (pc := 43) 1 hC dX1_readPart_43 rfl ?_
            refine V.icmp_ne (pc := 44) 85 hC dX1_readPart_44 (by decide) (fun c_44 => ?_) (fun c_44 => ?_)
            · refine V.iload_n (pc := 85) 3 hC dX1_readPart_85 rfl ?_
              exact hR (bI (x.1 = true)) (f70, i71, i72) _ _ dX1_readPart_86 (by first | rfl | exact bI_n _) ⟨by rw [show (lvS (lkS ρ) (sgS (lkS ρ) (nI u) 3) 3) p = x from hv.trans (lp_no (fun q => c_44 ((rk_e (r := 2) (by omega)).mpr q.2)))], by rw [show (lvS (lkS ρ) (sgS (lkS ρ) (nI u) 3) 3) p = x from hv.trans (lp_no (fun q => c_44 ((rk_e (r := 2) (by omega)).mpr q.2)))]; exact hx⟩
            · have hok := c_33
              have hgx := hg.2.2 hok
              have hrk : rkS (lkS ρ x.2.1) = 2 := (rk_e (r := 2) (by omega)).mp c_44
              have hlt : x.2.1 < nN (ρ 5) := tok_lt lk_tok (rk_op hrk (by omega)).2
              have hgy := (lv_g (lk_tok (ρ := ρ)) (sg_g (u := nI u) (lk_tok (ρ := ρ)) 3) 2) (x.2.1 + 1) hlt
              refine V.aload_n (pc := 47) 0 hC dX1_readPart_47 rfl ?_
              refine V.callV0 (pc := 48) (as := []) hC (c_X1_next σ (va_up (va_up (va_up ν 70 f70) 71 (fun _ => i71)) 72 (fun _ => i72)) ρ x.2.1 hT hI hx.1 (by omega)) mu_X1_next ml_X1_52 (by decide) ⟨3, 1, TX1, 5, _, rfl, gx_3⟩ rfl (Nat.le_of_ble_eq_true rfl) dX1_readPart_48 ?_
              rintro _ _ rfl
              show V X (wX k g a σ (va_up (va_up (va_up ν 70 f70) 71 (fun _ => i71)) 72 (fun _ => i72))) [(0, .ref (a 3)), (1, .int 2), (2, .int 2), (3, .int (bI (x.1 = true))), (4, .int 1), (5, .int (nI i))] [.int (lkS ρ x.2.1)] 51
              refine V.istore (pc := 51) [(6, .int (lkS ρ x.2.1)), (0, .ref (a 3)), (1, .int 2), (2, .int 2), (3, .int (bI (x.1 = true))), (4, .int 1), (5, .int (nI i))] hC dX1_readPart_51 (by decide) rfl ?_
              refine V.aload_n (pc := 53) 1 hC dX1_readPart_53 rfl ?_
              refine V.dup (pc := 54) hC dX1_readPart_54 rfl ?_
              refine V.get (pc := 55) (v := .int i72) hC cf_X1 3 3 fl_X1_29 (by decide) gx_3 rfl dX1_readPart_55 ?_
              refine V.iconst (pc := 58) 1 hC dX1_readPart_58 (by decide) ?_
              refine V.iadd (pc := 59) hC dX1_readPart_59 ?_
              refine V.put (pc := 60) (v := .int (i72 + 1)) hC cf_X1 3 3 (wX k g a σ (va_up (va_up (va_up ν 70 f70) 71 (fun _ => i71)) 72 (fun _ => i72 + 1))) fl_X1_29 (by decide) gx_3 rfl rfl rfl (Nat.le_of_ble_eq_true rfl) rfl dX1_readPart_60 ?_
              refine V.aload_n (pc := 63) 1 hC dX1_readPart_63 rfl ?_
              refine V.iload_n (pc := 64) 2 hC dX1_readPart_64 rfl ?_
              refine V.iconst (pc := 65) 1 hC dX1_readPart_65 (by decide) ?_
              refine V.iadd (pc := 66) hC dX1_readPart_66 ?_
              refine V.eqi (y := 3) (by decide) ?_
              refine V.iload_n (pc := 67) 3 hC dX1_readPart_67 rfl ?_
              refine V.callV0 (pc := 68) (as := [.int 3, .int 2]) hC (c_X1_side_3_2 σ (va_up (va_up (va_up ν 70 f70) 71 (fun _ => i71)) 72 (fun _ => i72 + 1)) ρ u (L + x.2.2.length) (x.2.1 + 1) hT hI hu2 ⟨hP.1, (hx.2.2 hok).1, nadd hx.1 (nl 1), by omega, hlt⟩) mu_X1_readSide ml_X1_49 (by decide) ⟨3, 1, TX1, 5, _, rfl, gx_3⟩ rfl (Nat.le_of_ble_eq_true rfl) dX1_readPart_68 ?_
              rintro _ ⟨f68_0, i68_1, i68_2⟩ ⟨rfl, hu68_0⟩
              have hu68_0 : COut (f70) (L + x.2.2.length) ((lvS (lkS ρ) (sgS (lkS ρ) (nI u) 3) 2) (x.2.1 + 1)) f68_0 i68_1 i68_2 := hu68_0
              show V X (wX k g a σ (va_up (va_up (va_up ν 70 f68_0) 71 (fun _ => i68_1)) 72 (fun _ => i68_2))) [(6, .int (lkS ρ x.2.1)), (0, .ref (a 3)), (1, .int 2), (2, .int 2), (3, .int (bI (x.1 = true))), (4, .int 1), (5, .int (nI i))] [.int (bI (((lvS (lkS ρ) (sgS (lkS ρ) (nI u) 3) 2) (x.2.1 + 1)).1 = true))] 71
              refine V.istore_n (pc := 71) [(3, .int (bI (((lvS (lkS ρ) (sgS (lkS ρ) (nI u) 3) 2) (x.2.1 + 1)).1 = true))), (6, .int (lkS ρ x.2.1)), (0, .ref (a 3)), (1, .int 2), (2, .int 2), (4, .int 1), (5, .int (nI i))] hC dX1_readPart_71 (by decide) rfl ?_
              refine V.aload_n (pc := 72) 2 hC dX1_readPart_72 rfl ?_
              refine V.iload (pc := 73) 1 hC dX1_readPart_73 rfl ?_
              refine V.ineg (pc := 75) hC dX1_readPart_75 ?_
              refine V.callV0 (pc := 76) (as := [.int (-(lkS ρ x.2.1))]) hC (c_X1_write σ (va_up (va_up (va_up ν 70 f68_0) 71 (fun _ => i68_1)) 72 (fun _ => i68_2)) (-(lkS ρ x.2.1)) hu68_0.2.1) mu_X1_write ml_X1_60 (by decide) ⟨3, 1, TX1, 5, _, rfl, gx_3⟩ rfl (Nat.le_of_ble_eq_true rfl) dX1_readPart_76 ?_
              rintro _ ⟨f76_0, i76_1⟩ ⟨rfl, hu76_0⟩
              have hu76_0 : WtF (f68_0) (i68_1) (-(lkS ρ x.2.1)) f76_0 i76_1 := hu76_0
              show V X (wX k g a σ (va_up (va_up (va_up ν 70 f76_0) 71 (fun _ => i76_1)) 72 (fun _ => i68_2))) [(3, .int (bI (((lvS (lkS ρ) (sgS (lkS ρ) (nI u) 3) 2) (x.2.1 + 1)).1 = true))), (6, .int (lkS ρ x.2.1)), (0, .ref (a 3)), (1, .int 2), (2, .int 2), (4, .int 1), (5, .int (nI i))] [] 79
              refine V.iinc (pc := 79) 6 (nI (i + 1)) [(5, .int (nI (i + 1))), (3, .int (bI (((lvS (lkS ρ) (sgS (lkS ρ) (nI u) 3) 2) (x.2.1 + 1)).1 = true))), (6, .int (lkS ρ x.2.1)), (0, .ref (a 3)), (1, .int 2), (2, .int 2), (4, .int 1)] hC dX1_readPart_79 rfl (ncast (nadd rfl (nl 1)) (by omega)) (by decide) rfl ?_
              refine V.goto (pc := 82) 25 hC dX1_readPart_82 (by decide) ?_
              exact V.sub [3, 4, 5, 1, 6, 0] rfl (ih (appS x ((lvS (lkS ρ) (sgS (lkS ρ) (nI u) 3) 2) (x.2.1 + 1)) (lkS ρ x.2.1)) (i + 1) f76_0 i76_1 i68_2 (by omega) (hg.app hok hgy (rk_op hrk (by omega)).1) (CO_app hx hok hu68_0 (cd_op1 (rk_op hrk (by omega)).1).symm hu76_0 (fun q => by have := hgy.2.2 q; have := hgy.2.1; omega)) (hv.trans (lp_yes ⟨hok, hrk⟩)))
    exact V.sub [3, 4, 5, 2, 1, 0] rfl (loop_25 1 ((lvS (lkS ρ) (sgS (lkS ρ) (nI u) 3) 2) p) 0 f5_0 i5_1 i5_2 (by omega) ((lv_g (lk_tok (ρ := ρ)) (sg_g (u := nI u) (lk_tok (ρ := ρ)) 3) 2) p (by omega)) hu5_0 rfl)
set_option maxHeartbeats 4000000 in
set_option maxRecDepth 100000 in
theorem c_X1_side_2_2 {l : Launch} {D : va_G} {k : Nat → ClassId} {g a : Nat → Nat} (σ ν : St) (ρ : Rw) (u L p : Nat) (hT : RT σ ρ) (hI : Inv ρ) (hu2 : u < 2) (hP : CIn (nN (ρ 5)) (ν 71 0) (ν 72 0) (ν 73 0) u L p) : Ct l D k g yX1_readSide cX1_readSide 3 (some .boolean) 47 1110 [.ref (a 3), .int 2, .int 2] (S := Rw × Int32 × Int32) (wX k g a σ ν) (fun uu => wX k g a σ (va_up (va_up (va_up ν 70 uu.1) 71 (fun _ => uu.2.1)) 72 (fun _ => uu.2.2))) (fun vv uu => vv = some (.int (bI (((lvS (lkS ρ) (sgS (lkS ρ) (nI u) 3) 3) p).1 = true))) ∧ COut (ν 70) L ((lvS (lkS ρ) (sgS (lkS ρ) (nI u) 3) 3) p) uu.1 uu.2.1 uu.2.2) := by
  refine Ct.ofI RX1 rfl (by decide +kernel) (Nat.le_of_ble_eq_true rfl) (fun X hC hR => ?_)
  have hb60 := hI.bb; have hle := hP.2.2.2
  show V X (wX k g a σ ν) [(0, .ref (a 3)), (1, .int 2), (2, .int 2)] [] 0
  refine V.iload_n (pc := 0) 1 hC dX1_readSide_0 rfl ?_
  refine V.iconst (pc := 1) 5 hC dX1_readSide_1 (by decide) ?_
  refine V.icmp_ge (pc := 2) 14 hC dX1_readSide_2 (by decide) (fun c_2 => ?_) (fun c_2 => ?_)
  · have nc_2 : 5 ≤ 2 := (nle (nl 5) (nl 2) (by omega) (by omega)).mp c_2
    exact absurd c_2 (by decide)
  · have nc_2 : ¬ (5 ≤ 2) := fun z => c_2 ((nle (nl 5) (nl 2) (by omega) (by omega)).mpr z)
    refine V.aload_n (pc := 5) 0 hC dX1_readSide_5 rfl ?_
    refine V.iload_n (pc := 6) 1 hC dX1_readSide_6 rfl ?_
    refine V.iload_n (pc := 7) 2 hC dX1_readSide_7 rfl ?_
    refine V.callV0 (pc := 8) (as := [.int 2, .int 2]) hC (c_X1_part_2_2 σ ν ρ u L p hT hI hu2 hP) mu_X1_readPart ml_X1_36 (by decide) ⟨3, 1, TX1, 5, _, rfl, gx_3⟩ rfl (Nat.le_of_ble_eq_true rfl) dX1_readSide_8 ?_
    rintro _ ⟨f8_0, i8_1, i8_2⟩ ⟨rfl, hu8_0⟩
    have hu8_0 : COut (ν 70) L ((lvS (lkS ρ) (sgS (lkS ρ) (nI u) 3) 3) p) f8_0 i8_1 i8_2 := hu8_0
    show V X (wX k g a σ (va_up (va_up (va_up ν 70 f8_0) 71 (fun _ => i8_1)) 72 (fun _ => i8_2))) [(0, .ref (a 3)), (1, .int 2), (2, .int 2)] [.int (bI (((lvS (lkS ρ) (sgS (lkS ρ) (nI u) 3) 3) p).1 = true))] 11
    refine V.goto (pc := 11) 19 hC dX1_readSide_11 (by decide) ?_
    exact hR (bI (((lvS (lkS ρ) (sgS (lkS ρ) (nI u) 3) 3) p).1 = true)) (f8_0, i8_1, i8_2) _ _ dX1_readSide_19 (by first | rfl | exact bI_n _) ⟨rfl, hu8_0⟩
set_option maxHeartbeats 4000000 in
set_option maxRecDepth 100000 in
theorem c_X1_part_1_2 {l : Launch} {D : va_G} {k : Nat → ClassId} {g a : Nat → Nat} (σ ν : St) (ρ : Rw) (u L p : Nat) (hT : RT σ ρ) (hI : Inv ρ) (hu2 : u < 2) (hP : CIn (nN (ρ 5)) (ν 71 0) (ν 72 0) (ν 73 0) u L p) : Ct l D k g yX1_readPart cX1_readPart 7 (some .boolean) 48 1132 [.ref (a 3), .int 1, .int 2] (S := Rw × Int32 × Int32) (wX k g a σ ν) (fun uu => wX k g a σ (va_up (va_up (va_up ν 70 uu.1) 71 (fun _ => uu.2.1)) 72 (fun _ => uu.2.2))) (fun vv uu => vv = some (.int (bI (((lvS (lkS ρ) (sgS (lkS ρ) (nI u) 3) 4) p).1 = true))) ∧ COut (ν 70) L ((lvS (lkS ρ) (sgS (lkS ρ) (nI u) 3) 4) p) uu.1 uu.2.1 uu.2.2) := by
  refine Ct.ofI RX1 rfl (by decide +kernel) (Nat.le_of_ble_eq_true rfl) (fun X hC hR => ?_)
  have hb60 := hI.bb; have hle := hP.2.2.2
  show V X (wX k g a σ ν) [(0, .ref (a 3)), (1, .int 1), (2, .int 2)] [] 0
  refine V.aload_n (pc := 0) 0 hC dX1_readPart_0 rfl ?_
  refine V.iload_n (pc := 1) 1 hC dX1_readPart_1 rfl ?_
  refine V.iconst (pc := 2) 1 hC dX1_readPart_2 (by decide) ?_
  refine V.iadd (pc := 3) hC dX1_readPart_3 ?_
  refine V.eqi (y := 2) (by decide) ?_
  refine V.iload_n (pc := 4) 2 hC dX1_readPart_4 rfl ?_
  refine V.callV0 (pc := 5) (as := [.int 2, .int 2]) hC (c_X1_side_2_2 σ ν ρ u L p hT hI hu2 hP) mu_X1_readSide ml_X1_49 (by decide) ⟨3, 1, TX1, 5, _, rfl, gx_3⟩ rfl (Nat.le_of_ble_eq_true rfl) dX1_readPart_5 ?_
  rintro _ ⟨f5_0, i5_1, i5_2⟩ ⟨rfl, hu5_0⟩
  have hu5_0 : COut (ν 70) L ((lvS (lkS ρ) (sgS (lkS ρ) (nI u) 3) 3) p) f5_0 i5_1 i5_2 := hu5_0
  show V X (wX k g a σ (va_up (va_up (va_up ν 70 f5_0) 71 (fun _ => i5_1)) 72 (fun _ => i5_2))) [(0, .ref (a 3)), (1, .int 1), (2, .int 2)] [.int (bI (((lvS (lkS ρ) (sgS (lkS ρ) (nI u) 3) 3) p).1 = true))] 8
  refine V.istore_n (pc := 8) [(3, .int (bI (((lvS (lkS ρ) (sgS (lkS ρ) (nI u) 3) 3) p).1 = true))), (0, .ref (a 3)), (1, .int 1), (2, .int 2)] hC dX1_readPart_8 (by decide) rfl ?_
  refine V.iload_n (pc := 9) 2 hC dX1_readPart_9 rfl ?_
  refine V.iconst (pc := 10) 2 hC dX1_readPart_10 (by decide) ?_
  refine V.icmp_ne (pc := 11) 18 hC dX1_readPart_11 (by decide) (fun c_11 => ?_) (fun c_11 => ?_)
  · have nc_11 : ¬ (1 = 2) := fun z => c_11 ((neq (nl 1) (nl 2) (by omega) (by omega)).mpr z)
    refine V.bipush (pc := 18) 60 hC dX1_readPart_18 (by decide) ?_
    refine V.istore (pc := 20) [(4, .int 60), (3, .int (bI (((lvS (lkS ρ) (sgS (lkS ρ) (nI u) 3) 3) p).1 = true))), (0, .ref (a 3)), (1, .int 1), (2, .int 2)] hC dX1_readPart_20 (by decide) rfl ?_
    refine V.iconst (pc := 22) 0 hC dX1_readPart_22 (by decide) ?_
    refine V.istore (pc := 23) [(5, .int 0), (4, .int 60), (3, .int (bI (((lvS (lkS ρ) (sgS (lkS ρ) (nI u) 3) 3) p).1 = true))), (0, .ref (a 3)), (1, .int 1), (2, .int 2)] hC dX1_readPart_23 (by decide) rfl ?_
    have loop_25 : ∀ (n : Nat) (x : Res) (i : Nat) (f70 : Rw) (i71 i72 : Int32), i + n = 60 → GR (nN (ρ 5)) p x → COut (ν 70) L x f70 i71 i72 → (lvS (lkS ρ) (sgS (lkS ρ) (nI u) 3) 4) p = lpS (lkS ρ) (lvS (lkS ρ) (sgS (lkS ρ) (nI u) 3) 3) 1 n x → V X (wX k g a σ (va_up (va_up (va_up ν 70 f70) 71 (fun _ => i71)) 72 (fun _ => i72))) [(0, .ref (a 3)), (1, .int 1), (2, .int 2), (3, .int (bI (x.1 = true))), (4, .int 60), (5, .int (nI i))] [] 25 := by
      intro n
      induction n with
      | zero =>
        intro x i f70 i71 i72 hi hg hx hv
        have hxb := hg.2.1
        refine V.iload (pc := 25) 5 hC dX1_readPart_25 rfl ?_
        refine V.iload (pc := 27) 4 hC dX1_readPart_27 rfl ?_
        refine V.icmp_ge (pc := 29) 85 hC dX1_readPart_29 (by decide) (fun c_29 => ?_) (fun c_29 => ?_)
        · have nc_29 : 60 ≤ i := (nle (nl 60) rfl (by omega) (by omega)).mp c_29
          refine V.iload_n (pc := 85) 3 hC dX1_readPart_85 rfl ?_
          exact hR (bI (x.1 = true)) (f70, i71, i72) _ _ dX1_readPart_86 (by first | rfl | exact bI_n _) ⟨by rw [show (lvS (lkS ρ) (sgS (lkS ρ) (nI u) 3) 4) p = x from hv], by rw [show (lvS (lkS ρ) (sgS (lkS ρ) (nI u) 3) 4) p = x from hv]; exact hx⟩
        · have nc_29 : ¬ (60 ≤ i) := fun z => c_29 ((nle (nl 60) rfl (by omega) (by omega)).mpr z)
          exfalso; omega
      | succ n ih =>
        intro x i f70 i71 i72 hi hg hx hv
        have hxb := hg.2.1
        refine V.iload (pc := 25) 5 hC dX1_readPart_25 rfl ?_
        refine V.iload (pc := 27) 4 hC dX1_readPart_27 rfl ?_
        refine V.icmp_ge (pc := 29) 85 hC dX1_readPart_29 (by decide) (fun c_29 => ?_) (fun c_29 => ?_)
        · have nc_29 : 60 ≤ i := (nle (nl 60) rfl (by omega) (by omega)).mp c_29
          exfalso; omega
        · have nc_29 : ¬ (60 ≤ i) := fun z => c_29 ((nle (nl 60) rfl (by omega) (by omega)).mpr z)
          refine V.iload_n (pc := 32) 3 hC dX1_readPart_32 rfl ?_
          refine V.if_eq_b (P := x.1 = true) (pc := 33) 85 hC dX1_readPart_33 (by decide) (fun c_33 => ?_) (fun c_33 => ?_)
          · refine V.iload_n (pc := 85) 3 hC dX1_readPart_85 rfl ?_
            exact hR (bI (x.1 = true)) (f70, i71, i72) _ _ dX1_readPart_86 (by first | rfl | exact bI_n _) ⟨by rw [show (lvS (lkS ρ) (sgS (lkS ρ) (nI u) 3) 4) p = x from hv.trans (lp_no (fun q => c_33 q.1))], by rw [show (lvS (lkS ρ) (sgS (lkS ρ) (nI u) 3) 4) p = x from hv.trans (lp_no (fun q => c_33 q.1))]; exact hx⟩
          · refine V.aload_n (pc := 36) 0 hC dX1_readPart_36 rfl ?_
            refine V.callV0 (pc := 37) (as := []) hC (c_X1_next σ (va_up (va_up (va_up ν 70 f70) 71 (fun _ => i71)) 72 (fun _ => i72)) ρ x.2.1 hT hI hx.1 (by omega)) mu_X1_next ml_X1_52 (by decide) ⟨3, 1, TX1, 5, _, rfl, gx_3⟩ rfl (Nat.le_of_ble_eq_true rfl) dX1_readPart_37 ?_
            rintro _ _ rfl
            show V X (wX k g a σ (va_up (va_up (va_up ν 70 f70) 71 (fun _ => i71)) 72 (fun _ => i72))) [(0, .ref (a 3)), (1, .int 1), (2, .int 2), (3, .int (bI (x.1 = true))), (4, .int 60), (5, .int (nI i))] [.int (lkS ρ x.2.1)] 40
            refine V.callS0 (pc := 40) (as := [.int (lkS ρ x.2.1)]) hC (c_X1_rankOf (lkS ρ x.2.1) ) ms_X1_rankOf ml_X1_56 (by decide) rfl (Nat.le_of_ble_eq_true rfl) dX1_readPart_40 ?_
            rintro _ _ rfl
            show V X (wX k g a σ (va_up (va_up (va_up ν 70 f70) 71 (fun _ => i71)) 72 (fun _ => i72))) [(0, .ref (a 3)), (1, .int 1), (2, .int 2), (3, .int (bI (x.1 = true))), (4, .int 60), (5, .int (nI i))] [.int (nI (rkS (lkS ρ x.2.1)))] 43
            refine V.iload_n (pc := 43) 1 hC dX1_readPart_43 rfl ?_
            refine V.icmp_ne (pc := 44) 85 hC dX1_readPart_44 (by decide) (fun c_44 => ?_) (fun c_44 => ?_)
            · refine V.iload_n (pc := 85) 3 hC dX1_readPart_85 rfl ?_
              exact hR (bI (x.1 = true)) (f70, i71, i72) _ _ dX1_readPart_86 (by first | rfl | exact bI_n _) ⟨by rw [show (lvS (lkS ρ) (sgS (lkS ρ) (nI u) 3) 4) p = x from hv.trans (lp_no (fun q => c_44 ((rk_e (r := 1) (by omega)).mpr q.2)))], by rw [show (lvS (lkS ρ) (sgS (lkS ρ) (nI u) 3) 4) p = x from hv.trans (lp_no (fun q => c_44 ((rk_e (r := 1) (by omega)).mpr q.2)))]; exact hx⟩
            · have hok := c_33
              have hgx := hg.2.2 hok
              have hrk : rkS (lkS ρ x.2.1) = 1 := (rk_e (r := 1) (by omega)).mp c_44
              have hlt : x.2.1 < nN (ρ 5) := tok_lt lk_tok (rk_op hrk (by omega)).2
              have hgy := (lv_g (lk_tok (ρ := ρ)) (sg_g (u := nI u) (lk_tok (ρ := ρ)) 3) 3) (x.2.1 + 1) hlt
              refine V.aload_n (pc := 47) 0 hC dX1_readPart_47 rfl ?_
              refine V.callV0 (pc := 48) (as := []) hC (c_X1_next σ (va_up (va_up (va_up ν 70 f70) 71 (fun _ => i71)) 72 (fun _ => i72)) ρ x.2.1 hT hI hx.1 (by omega)) mu_X1_next ml_X1_52 (by decide) ⟨3, 1, TX1, 5, _, rfl, gx_3⟩ rfl (Nat.le_of_ble_eq_true rfl) dX1_readPart_48 ?_
              rintro _ _ rfl
              show V X (wX k g a σ (va_up (va_up (va_up ν 70 f70) 71 (fun _ => i71)) 72 (fun _ => i72))) [(0, .ref (a 3)), (1, .int 1), (2, .int 2), (3, .int (bI (x.1 = true))), (4, .int 60), (5, .int (nI i))] [.int (lkS ρ x.2.1)] 51
              refine V.istore (pc := 51) [(6, .int (lkS ρ x.2.1)), (0, .ref (a 3)), (1, .int 1), (2, .int 2), (3, .int (bI (x.1 = true))), (4, .int 60), (5, .int (nI i))] hC dX1_readPart_51 (by decide) rfl ?_
              refine V.aload_n (pc := 53) 1 hC dX1_readPart_53 rfl ?_
              refine V.dup (pc := 54) hC dX1_readPart_54 rfl ?_
              refine V.get (pc := 55) (v := .int i72) hC cf_X1 3 3 fl_X1_29 (by decide) gx_3 rfl dX1_readPart_55 ?_
              refine V.iconst (pc := 58) 1 hC dX1_readPart_58 (by decide) ?_
              refine V.iadd (pc := 59) hC dX1_readPart_59 ?_
              refine V.put (pc := 60) (v := .int (i72 + 1)) hC cf_X1 3 3 (wX k g a σ (va_up (va_up (va_up ν 70 f70) 71 (fun _ => i71)) 72 (fun _ => i72 + 1))) fl_X1_29 (by decide) gx_3 rfl rfl rfl (Nat.le_of_ble_eq_true rfl) rfl dX1_readPart_60 ?_
              refine V.aload_n (pc := 63) 1 hC dX1_readPart_63 rfl ?_
              refine V.iload_n (pc := 64) 2 hC dX1_readPart_64 rfl ?_
              refine V.iconst (pc := 65) 1 hC dX1_readPart_65 (by decide) ?_
              refine V.iadd (pc := 66) hC dX1_readPart_66 ?_
              refine V.eqi (y := 2) (by decide) ?_
              refine V.iload_n (pc := 67) 3 hC dX1_readPart_67 rfl ?_
              refine V.callV0 (pc := 68) (as := [.int 2, .int 2]) hC (c_X1_side_2_2 σ (va_up (va_up (va_up ν 70 f70) 71 (fun _ => i71)) 72 (fun _ => i72 + 1)) ρ u (L + x.2.2.length) (x.2.1 + 1) hT hI hu2 ⟨hP.1, (hx.2.2 hok).1, nadd hx.1 (nl 1), by omega, hlt⟩) mu_X1_readSide ml_X1_49 (by decide) ⟨3, 1, TX1, 5, _, rfl, gx_3⟩ rfl (Nat.le_of_ble_eq_true rfl) dX1_readPart_68 ?_
              rintro _ ⟨f68_0, i68_1, i68_2⟩ ⟨rfl, hu68_0⟩
              have hu68_0 : COut (f70) (L + x.2.2.length) ((lvS (lkS ρ) (sgS (lkS ρ) (nI u) 3) 3) (x.2.1 + 1)) f68_0 i68_1 i68_2 := hu68_0
              show V X (wX k g a σ (va_up (va_up (va_up ν 70 f68_0) 71 (fun _ => i68_1)) 72 (fun _ => i68_2))) [(6, .int (lkS ρ x.2.1)), (0, .ref (a 3)), (1, .int 1), (2, .int 2), (3, .int (bI (x.1 = true))), (4, .int 60), (5, .int (nI i))] [.int (bI (((lvS (lkS ρ) (sgS (lkS ρ) (nI u) 3) 3) (x.2.1 + 1)).1 = true))] 71
              refine V.istore_n (pc := 71) [(3, .int (bI (((lvS (lkS ρ) (sgS (lkS ρ) (nI u) 3) 3) (x.2.1 + 1)).1 = true))), (6, .int (lkS ρ x.2.1)), (0, .ref (a 3)), (1, .int 1), (2, .int 2), (4, .int 60), (5, .int (nI i))] hC dX1_readPart_71 (by decide) rfl ?_
              refine V.aload_n (pc := 72) 2 hC dX1_readPart_72 rfl ?_
              refine V.iload (pc := 73) 1 hC dX1_readPart_73 rfl ?_
              refine V.ineg (pc := 75) hC dX1_readPart_75 ?_
              refine V.callV0 (pc := 76) (as := [.int (-(lkS ρ x.2.1))]) hC (c_X1_write σ (va_up (va_up (va_up ν 70 f68_0) 71 (fun _ => i68_1)) 72 (fun _ => i68_2)) (-(lkS ρ x.2.1)) hu68_0.2.1) mu_X1_write ml_X1_60 (by decide) ⟨3, 1, TX1, 5, _, rfl, gx_3⟩ rfl (Nat.le_of_ble_eq_true rfl) dX1_readPart_76 ?_
              rintro _ ⟨f76_0, i76_1⟩ ⟨rfl, hu76_0⟩
              have hu76_0 : WtF (f68_0) (i68_1) (-(lkS ρ x.2.1)) f76_0 i76_1 := hu76_0
              show V X (wX k g a σ (va_up (va_up (va_up ν 70 f76_0) 71 (fun _ => i76_1)) 72 (fun _ => i68_2))) [(3, .int (bI (((lvS (lkS ρ) (sgS (lkS ρ) (nI u) 3) 3) (x.2.1 + 1)).1 = true))), (6, .int (lkS ρ x.2.1)), (0, .ref (a 3)), (1, .int 1), (2, .int 2), (4, .int 60), (5, .int (nI i))] [] 79
              refine V.iinc (pc := 79) 6 (nI (i + 1)) [(5, .int (nI (i + 1))), (3, .int (bI (((lvS (lkS ρ) (sgS (lkS ρ) (nI u) 3) 3) (x.2.1 + 1)).1 = true))), (6, .int (lkS ρ x.2.1)), (0, .ref (a 3)), (1, .int 1), (2, .int 2), (4, .int 60)] hC dX1_readPart_79 rfl (ncast (nadd rfl (nl 1)) (by omega)) (by decide) rfl ?_
              refine V.goto (pc := 82) 25 hC dX1_readPart_82 (by decide) ?_
              exact V.sub [3, 4, 5, 1, 6, 0] rfl (ih (appS x ((lvS (lkS ρ) (sgS (lkS ρ) (nI u) 3) 3) (x.2.1 + 1)) (lkS ρ x.2.1)) (i + 1) f76_0 i76_1 i68_2 (by omega) (hg.app hok hgy (rk_op hrk (by omega)).1) (CO_app hx hok hu68_0 (cd_op1 (rk_op hrk (by omega)).1).symm hu76_0 (fun q => by have := hgy.2.2 q; have := hgy.2.1; omega)) (hv.trans (lp_yes ⟨hok, hrk⟩)))
    exact V.sub [3, 4, 5, 2, 1, 0] rfl (loop_25 60 ((lvS (lkS ρ) (sgS (lkS ρ) (nI u) 3) 3) p) 0 f5_0 i5_1 i5_2 (by omega) ((lv_g (lk_tok (ρ := ρ)) (sg_g (u := nI u) (lk_tok (ρ := ρ)) 3) 3) p (by omega)) hu5_0 rfl)
  · have nc_11 : 1 = 2 := (neq (nl 1) (nl 2) (by omega) (by omega)).mp c_11
    exact absurd c_11 (by decide)
set_option maxHeartbeats 4000000 in
set_option maxRecDepth 100000 in
theorem c_X1_side_1_2 {l : Launch} {D : va_G} {k : Nat → ClassId} {g a : Nat → Nat} (σ ν : St) (ρ : Rw) (u L p : Nat) (hT : RT σ ρ) (hI : Inv ρ) (hu2 : u < 2) (hP : CIn (nN (ρ 5)) (ν 71 0) (ν 72 0) (ν 73 0) u L p) : Ct l D k g yX1_readSide cX1_readSide 3 (some .boolean) 49 1158 [.ref (a 3), .int 1, .int 2] (S := Rw × Int32 × Int32) (wX k g a σ ν) (fun uu => wX k g a σ (va_up (va_up (va_up ν 70 uu.1) 71 (fun _ => uu.2.1)) 72 (fun _ => uu.2.2))) (fun vv uu => vv = some (.int (bI (((lvS (lkS ρ) (sgS (lkS ρ) (nI u) 3) 4) p).1 = true))) ∧ COut (ν 70) L ((lvS (lkS ρ) (sgS (lkS ρ) (nI u) 3) 4) p) uu.1 uu.2.1 uu.2.2) := by
  refine Ct.ofI RX1 rfl (by decide +kernel) (Nat.le_of_ble_eq_true rfl) (fun X hC hR => ?_)
  have hb60 := hI.bb; have hle := hP.2.2.2
  show V X (wX k g a σ ν) [(0, .ref (a 3)), (1, .int 1), (2, .int 2)] [] 0
  refine V.iload_n (pc := 0) 1 hC dX1_readSide_0 rfl ?_
  refine V.iconst (pc := 1) 5 hC dX1_readSide_1 (by decide) ?_
  refine V.icmp_ge (pc := 2) 14 hC dX1_readSide_2 (by decide) (fun c_2 => ?_) (fun c_2 => ?_)
  · have nc_2 : 5 ≤ 1 := (nle (nl 5) (nl 1) (by omega) (by omega)).mp c_2
    exact absurd c_2 (by decide)
  · have nc_2 : ¬ (5 ≤ 1) := fun z => c_2 ((nle (nl 5) (nl 1) (by omega) (by omega)).mpr z)
    refine V.aload_n (pc := 5) 0 hC dX1_readSide_5 rfl ?_
    refine V.iload_n (pc := 6) 1 hC dX1_readSide_6 rfl ?_
    refine V.iload_n (pc := 7) 2 hC dX1_readSide_7 rfl ?_
    refine V.callV0 (pc := 8) (as := [.int 1, .int 2]) hC (c_X1_part_1_2 σ ν ρ u L p hT hI hu2 hP) mu_X1_readPart ml_X1_36 (by decide) ⟨3, 1, TX1, 5, _, rfl, gx_3⟩ rfl (Nat.le_of_ble_eq_true rfl) dX1_readSide_8 ?_
    rintro _ ⟨f8_0, i8_1, i8_2⟩ ⟨rfl, hu8_0⟩
    have hu8_0 : COut (ν 70) L ((lvS (lkS ρ) (sgS (lkS ρ) (nI u) 3) 4) p) f8_0 i8_1 i8_2 := hu8_0
    show V X (wX k g a σ (va_up (va_up (va_up ν 70 f8_0) 71 (fun _ => i8_1)) 72 (fun _ => i8_2))) [(0, .ref (a 3)), (1, .int 1), (2, .int 2)] [.int (bI (((lvS (lkS ρ) (sgS (lkS ρ) (nI u) 3) 4) p).1 = true))] 11
    refine V.goto (pc := 11) 19 hC dX1_readSide_11 (by decide) ?_
    exact hR (bI (((lvS (lkS ρ) (sgS (lkS ρ) (nI u) 3) 4) p).1 = true)) (f8_0, i8_1, i8_2) _ _ dX1_readSide_19 (by first | rfl | exact bI_n _) ⟨rfl, hu8_0⟩
set_option maxHeartbeats 4000000 in
set_option maxRecDepth 100000 in
theorem c_X1_part_0_2 {l : Launch} {D : va_G} {k : Nat → ClassId} {g a : Nat → Nat} (σ ν : St) (ρ : Rw) (u L p : Nat) (hT : RT σ ρ) (hI : Inv ρ) (hu2 : u < 2) (hP : CIn (nN (ρ 5)) (ν 71 0) (ν 72 0) (ν 73 0) u L p) : Ct l D k g yX1_readPart cX1_readPart 7 (some .boolean) 50 1180 [.ref (a 3), .int 0, .int 2] (S := Rw × Int32 × Int32) (wX k g a σ ν) (fun uu => wX k g a σ (va_up (va_up (va_up ν 70 uu.1) 71 (fun _ => uu.2.1)) 72 (fun _ => uu.2.2))) (fun vv uu => vv = some (.int (bI (((lvS (lkS ρ) (sgS (lkS ρ) (nI u) 3) 5) p).1 = true))) ∧ COut (ν 70) L ((lvS (lkS ρ) (sgS (lkS ρ) (nI u) 3) 5) p) uu.1 uu.2.1 uu.2.2) := by
  refine Ct.ofI RX1 rfl (by decide +kernel) (Nat.le_of_ble_eq_true rfl) (fun X hC hR => ?_)
  have hb60 := hI.bb; have hle := hP.2.2.2
  show V X (wX k g a σ ν) [(0, .ref (a 3)), (1, .int 0), (2, .int 2)] [] 0
  refine V.aload_n (pc := 0) 0 hC dX1_readPart_0 rfl ?_
  refine V.iload_n (pc := 1) 1 hC dX1_readPart_1 rfl ?_
  refine V.iconst (pc := 2) 1 hC dX1_readPart_2 (by decide) ?_
  refine V.iadd (pc := 3) hC dX1_readPart_3 ?_
  refine V.eqi (y := 1) (by decide) ?_
  refine V.iload_n (pc := 4) 2 hC dX1_readPart_4 rfl ?_
  refine V.callV0 (pc := 5) (as := [.int 1, .int 2]) hC (c_X1_side_1_2 σ ν ρ u L p hT hI hu2 hP) mu_X1_readSide ml_X1_49 (by decide) ⟨3, 1, TX1, 5, _, rfl, gx_3⟩ rfl (Nat.le_of_ble_eq_true rfl) dX1_readPart_5 ?_
  rintro _ ⟨f5_0, i5_1, i5_2⟩ ⟨rfl, hu5_0⟩
  have hu5_0 : COut (ν 70) L ((lvS (lkS ρ) (sgS (lkS ρ) (nI u) 3) 4) p) f5_0 i5_1 i5_2 := hu5_0
  show V X (wX k g a σ (va_up (va_up (va_up ν 70 f5_0) 71 (fun _ => i5_1)) 72 (fun _ => i5_2))) [(0, .ref (a 3)), (1, .int 0), (2, .int 2)] [.int (bI (((lvS (lkS ρ) (sgS (lkS ρ) (nI u) 3) 4) p).1 = true))] 8
  refine V.istore_n (pc := 8) [(3, .int (bI (((lvS (lkS ρ) (sgS (lkS ρ) (nI u) 3) 4) p).1 = true))), (0, .ref (a 3)), (1, .int 0), (2, .int 2)] hC dX1_readPart_8 (by decide) rfl ?_
  refine V.iload_n (pc := 9) 2 hC dX1_readPart_9 rfl ?_
  refine V.iconst (pc := 10) 2 hC dX1_readPart_10 (by decide) ?_
  refine V.icmp_ne (pc := 11) 18 hC dX1_readPart_11 (by decide) (fun c_11 => ?_) (fun c_11 => ?_)
  · have nc_11 : ¬ (0 = 2) := fun z => c_11 ((neq (nl 0) (nl 2) (by omega) (by omega)).mpr z)
    refine V.bipush (pc := 18) 60 hC dX1_readPart_18 (by decide) ?_
    refine V.istore (pc := 20) [(4, .int 60), (3, .int (bI (((lvS (lkS ρ) (sgS (lkS ρ) (nI u) 3) 4) p).1 = true))), (0, .ref (a 3)), (1, .int 0), (2, .int 2)] hC dX1_readPart_20 (by decide) rfl ?_
    refine V.iconst (pc := 22) 0 hC dX1_readPart_22 (by decide) ?_
    refine V.istore (pc := 23) [(5, .int 0), (4, .int 60), (3, .int (bI (((lvS (lkS ρ) (sgS (lkS ρ) (nI u) 3) 4) p).1 = true))), (0, .ref (a 3)), (1, .int 0), (2, .int 2)] hC dX1_readPart_23 (by decide) rfl ?_
    have loop_25 : ∀ (n : Nat) (x : Res) (i : Nat) (f70 : Rw) (i71 i72 : Int32), i + n = 60 → GR (nN (ρ 5)) p x → COut (ν 70) L x f70 i71 i72 → (lvS (lkS ρ) (sgS (lkS ρ) (nI u) 3) 5) p = lpS (lkS ρ) (lvS (lkS ρ) (sgS (lkS ρ) (nI u) 3) 4) 0 n x → V X (wX k g a σ (va_up (va_up (va_up ν 70 f70) 71 (fun _ => i71)) 72 (fun _ => i72))) [(0, .ref (a 3)), (1, .int 0), (2, .int 2), (3, .int (bI (x.1 = true))), (4, .int 60), (5, .int (nI i))] [] 25 := by
      intro n
      induction n with
      | zero =>
        intro x i f70 i71 i72 hi hg hx hv
        have hxb := hg.2.1
        refine V.iload (pc := 25) 5 hC dX1_readPart_25 rfl ?_
        refine V.iload (pc := 27) 4 hC dX1_readPart_27 rfl ?_
        refine V.icmp_ge (pc := 29) 85 hC dX1_readPart_29 (by decide) (fun c_29 => ?_) (fun c_29 => ?_)
        · have nc_29 : 60 ≤ i := (nle (nl 60) rfl (by omega) (by omega)).mp c_29
          refine V.iload_n (pc := 85) 3 hC dX1_readPart_85 rfl ?_
          exact hR (bI (x.1 = true)) (f70, i71, i72) _ _ dX1_readPart_86 (by first | rfl | exact bI_n _) ⟨by rw [show (lvS (lkS ρ) (sgS (lkS ρ) (nI u) 3) 5) p = x from hv], by rw [show (lvS (lkS ρ) (sgS (lkS ρ) (nI u) 3) 5) p = x from hv]; exact hx⟩
        · have nc_29 : ¬ (60 ≤ i) := fun z => c_29 ((nle (nl 60) rfl (by omega) (by omega)).mpr z)
          exfalso; omega
      | succ n ih =>
        intro x i f70 i71 i72 hi hg hx hv
        have hxb := hg.2.1
        refine V.iload (pc := 25) 5 hC dX1_readPart_25 rfl ?_
        refine V.iload (pc := 27) 4 hC dX1_readPart_27 rfl ?_
        refine V.icmp_ge (pc := 29) 85 hC dX1_readPart_29 (by decide) (fun c_29 => ?_) (fun c_29 => ?_)
        · have nc_29 : 60 ≤ i := (nle (nl 60) rfl (by omega) (by omega)).mp c_29
          exfalso; omega
        · have nc_29 : ¬ (60 ≤ i) := fun z => c_29 ((nle (nl 60) rfl (by omega) (by omega)).mpr z)
          refine V.iload_n (pc := 32) 3 hC dX1_readPart_32 rfl ?_
          refine V.if_eq_b (P := x.1 = true) (pc := 33) 85 hC dX1_readPart_33 (by decide) (fun c_33 => ?_) (fun c_33 => ?_)
          · refine V.iload_n (pc := 85) 3 hC dX1_readPart_85 rfl ?_
            exact hR (bI (x.1 = true)) (f70, i71, i72) _ _ dX1_readPart_86 (by first | rfl | exact bI_n _) ⟨by rw [show (lvS (lkS ρ) (sgS (lkS ρ) (nI u) 3) 5) p = x from hv.trans (lp_no (fun q => c_33 q.1))], by rw [show (lvS (lkS ρ) (sgS (lkS ρ) (nI u) 3) 5) p = x from hv.trans (lp_no (fun q => c_33 q.1))]; exact hx⟩
          · refine V.aload_n (pc := 36) 0 hC dX1_readPart_36 rfl ?_
            refine V.callV0 (pc := 37) (as := []) hC (c_X1_next σ (va_up (va_up (va_up ν 70 f70) 71 (fun _ => i71)) 72 (fun _ => i72)) ρ x.2.1 hT hI hx.1 (by omega)) mu_X1_next ml_X1_52 (by decide) ⟨3, 1, TX1, 5, _, rfl, gx_3⟩ rfl (Nat.le_of_ble_eq_true rfl) dX1_readPart_37 ?_
            rintro _ _ rfl
            show V X (wX k g a σ (va_up (va_up (va_up ν 70 f70) 71 (fun _ => i71)) 72 (fun _ => i72))) [(0, .ref (a 3)), (1, .int 0), (2, .int 2), (3, .int (bI (x.1 = true))), (4, .int 60), (5, .int (nI i))] [.int (lkS ρ x.2.1)] 40
            refine V.callS0 (pc := 40) (as := [.int (lkS ρ x.2.1)]) hC (c_X1_rankOf (lkS ρ x.2.1) ) ms_X1_rankOf ml_X1_56 (by decide) rfl (Nat.le_of_ble_eq_true rfl) dX1_readPart_40 ?_
            rintro _ _ rfl
            show V X (wX k g a σ (va_up (va_up (va_up ν 70 f70) 71 (fun _ => i71)) 72 (fun _ => i72))) [(0, .ref (a 3)), (1, .int 0), (2, .int 2), (3, .int (bI (x.1 = true))), (4, .int 60), (5, .int (nI i))] [.int (nI (rkS (lkS ρ x.2.1)))] 43
            refine V.iload_n (pc := 43) 1 hC dX1_readPart_43 rfl ?_
            refine V.icmp_ne (pc := 44) 85 hC dX1_readPart_44 (by decide) (fun c_44 => ?_) (fun c_44 => ?_)
            · refine V.iload_n (pc := 85) 3 hC dX1_readPart_85 rfl ?_
              exact hR (bI (x.1 = true)) (f70, i71, i72) _ _ dX1_readPart_86 (by first | rfl | exact bI_n _) ⟨by rw [show (lvS (lkS ρ) (sgS (lkS ρ) (nI u) 3) 5) p = x from hv.trans (lp_no (fun q => c_44 ((rk_e (r := 0) (by omega)).mpr q.2)))], by rw [show (lvS (lkS ρ) (sgS (lkS ρ) (nI u) 3) 5) p = x from hv.trans (lp_no (fun q => c_44 ((rk_e (r := 0) (by omega)).mpr q.2)))]; exact hx⟩
            · have hok := c_33
              have hgx := hg.2.2 hok
              have hrk : rkS (lkS ρ x.2.1) = 0 := (rk_e (r := 0) (by omega)).mp c_44
              have hlt : x.2.1 < nN (ρ 5) := tok_lt lk_tok (rk_op hrk (by omega)).2
              have hgy := (lv_g (lk_tok (ρ := ρ)) (sg_g (u := nI u) (lk_tok (ρ := ρ)) 3) 4) (x.2.1 + 1) hlt
              refine V.aload_n (pc := 47) 0 hC dX1_readPart_47 rfl ?_
              refine V.callV0 (pc := 48) (as := []) hC (c_X1_next σ (va_up (va_up (va_up ν 70 f70) 71 (fun _ => i71)) 72 (fun _ => i72)) ρ x.2.1 hT hI hx.1 (by omega)) mu_X1_next ml_X1_52 (by decide) ⟨3, 1, TX1, 5, _, rfl, gx_3⟩ rfl (Nat.le_of_ble_eq_true rfl) dX1_readPart_48 ?_
              rintro _ _ rfl
              show V X (wX k g a σ (va_up (va_up (va_up ν 70 f70) 71 (fun _ => i71)) 72 (fun _ => i72))) [(0, .ref (a 3)), (1, .int 0), (2, .int 2), (3, .int (bI (x.1 = true))), (4, .int 60), (5, .int (nI i))] [.int (lkS ρ x.2.1)] 51
              refine V.istore (pc := 51) [(6, .int (lkS ρ x.2.1)), (0, .ref (a 3)), (1, .int 0), (2, .int 2), (3, .int (bI (x.1 = true))), (4, .int 60), (5, .int (nI i))] hC dX1_readPart_51 (by decide) rfl ?_
              refine V.aload_n (pc := 53) 1 hC dX1_readPart_53 rfl ?_
              refine V.dup (pc := 54) hC dX1_readPart_54 rfl ?_
              refine V.get (pc := 55) (v := .int i72) hC cf_X1 3 3 fl_X1_29 (by decide) gx_3 rfl dX1_readPart_55 ?_
              refine V.iconst (pc := 58) 1 hC dX1_readPart_58 (by decide) ?_
              refine V.iadd (pc := 59) hC dX1_readPart_59 ?_
              refine V.put (pc := 60) (v := .int (i72 + 1)) hC cf_X1 3 3 (wX k g a σ (va_up (va_up (va_up ν 70 f70) 71 (fun _ => i71)) 72 (fun _ => i72 + 1))) fl_X1_29 (by decide) gx_3 rfl rfl rfl (Nat.le_of_ble_eq_true rfl) rfl dX1_readPart_60 ?_
              refine V.aload_n (pc := 63) 1 hC dX1_readPart_63 rfl ?_
              refine V.iload_n (pc := 64) 2 hC dX1_readPart_64 rfl ?_
              refine V.iconst (pc := 65) 1 hC dX1_readPart_65 (by decide) ?_
              refine V.iadd (pc := 66) hC dX1_readPart_66 ?_
              refine V.eqi (y := 1) (by decide) ?_
              refine V.iload_n (pc := 67) 3 hC dX1_readPart_67 rfl ?_
              refine V.callV0 (pc := 68) (as := [.int 1, .int 2]) hC (c_X1_side_1_2 σ (va_up (va_up (va_up ν 70 f70) 71 (fun _ => i71)) 72 (fun _ => i72 + 1)) ρ u (L + x.2.2.length) (x.2.1 + 1) hT hI hu2 ⟨hP.1, (hx.2.2 hok).1, nadd hx.1 (nl 1), by omega, hlt⟩) mu_X1_readSide ml_X1_49 (by decide) ⟨3, 1, TX1, 5, _, rfl, gx_3⟩ rfl (Nat.le_of_ble_eq_true rfl) dX1_readPart_68 ?_
              rintro _ ⟨f68_0, i68_1, i68_2⟩ ⟨rfl, hu68_0⟩
              have hu68_0 : COut (f70) (L + x.2.2.length) ((lvS (lkS ρ) (sgS (lkS ρ) (nI u) 3) 4) (x.2.1 + 1)) f68_0 i68_1 i68_2 := hu68_0
              show V X (wX k g a σ (va_up (va_up (va_up ν 70 f68_0) 71 (fun _ => i68_1)) 72 (fun _ => i68_2))) [(6, .int (lkS ρ x.2.1)), (0, .ref (a 3)), (1, .int 0), (2, .int 2), (3, .int (bI (x.1 = true))), (4, .int 60), (5, .int (nI i))] [.int (bI (((lvS (lkS ρ) (sgS (lkS ρ) (nI u) 3) 4) (x.2.1 + 1)).1 = true))] 71
              refine V.istore_n (pc := 71) [(3, .int (bI (((lvS (lkS ρ) (sgS (lkS ρ) (nI u) 3) 4) (x.2.1 + 1)).1 = true))), (6, .int (lkS ρ x.2.1)), (0, .ref (a 3)), (1, .int 0), (2, .int 2), (4, .int 60), (5, .int (nI i))] hC dX1_readPart_71 (by decide) rfl ?_
              refine V.aload_n (pc := 72) 2 hC dX1_readPart_72 rfl ?_
              refine V.iload (pc := 73) 1 hC dX1_readPart_73 rfl ?_
              refine V.ineg (pc := 75) hC dX1_readPart_75 ?_
              refine V.callV0 (pc := 76) (as := [.int (-(lkS ρ x.2.1))]) hC (c_X1_write σ (va_up (va_up (va_up ν 70 f68_0) 71 (fun _ => i68_1)) 72 (fun _ => i68_2)) (-(lkS ρ x.2.1)) hu68_0.2.1) mu_X1_write ml_X1_60 (by decide) ⟨3, 1, TX1, 5, _, rfl, gx_3⟩ rfl (Nat.le_of_ble_eq_true rfl) dX1_readPart_76 ?_
              rintro _ ⟨f76_0, i76_1⟩ ⟨rfl, hu76_0⟩
              have hu76_0 : WtF (f68_0) (i68_1) (-(lkS ρ x.2.1)) f76_0 i76_1 := hu76_0
              show V X (wX k g a σ (va_up (va_up (va_up ν 70 f76_0) 71 (fun _ => i76_1)) 72 (fun _ => i68_2))) [(3, .int (bI (((lvS (lkS ρ) (sgS (lkS ρ) (nI u) 3) 4) (x.2.1 + 1)).1 = true))), (6, .int (lkS ρ x.2.1)), (0, .ref (a 3)), (1, .int 0), (2, .int 2), (4, .int 60), (5, .int (nI i))] [] 79
              refine V.iinc (pc := 79) 6 (nI (i + 1)) [(5, .int (nI (i + 1))), (3, .int (bI (((lvS (lkS ρ) (sgS (lkS ρ) (nI u) 3) 4) (x.2.1 + 1)).1 = true))), (6, .int (lkS ρ x.2.1)), (0, .ref (a 3)), (1, .int 0), (2, .int 2), (4, .int 60)] hC dX1_readPart_79 rfl (ncast (nadd rfl (nl 1)) (by omega)) (by decide) rfl ?_
              refine V.goto (pc := 82) 25 hC dX1_readPart_82 (by decide) ?_
              exact V.sub [3, 4, 5, 1, 6, 0] rfl (ih (appS x ((lvS (lkS ρ) (sgS (lkS ρ) (nI u) 3) 4) (x.2.1 + 1)) (lkS ρ x.2.1)) (i + 1) f76_0 i76_1 i68_2 (by omega) (hg.app hok hgy (rk_op hrk (by omega)).1) (CO_app hx hok hu68_0 (cd_op1 (rk_op hrk (by omega)).1).symm hu76_0 (fun q => by have := hgy.2.2 q; have := hgy.2.1; omega)) (hv.trans (lp_yes ⟨hok, hrk⟩)))
    exact V.sub [3, 4, 5, 2, 1, 0] rfl (loop_25 60 ((lvS (lkS ρ) (sgS (lkS ρ) (nI u) 3) 4) p) 0 f5_0 i5_1 i5_2 (by omega) ((lv_g (lk_tok (ρ := ρ)) (sg_g (u := nI u) (lk_tok (ρ := ρ)) 3) 4) p (by omega)) hu5_0 rfl)
  · have nc_11 : 0 = 2 := (neq (nl 0) (nl 2) (by omega) (by omega)).mp c_11
    exact absurd c_11 (by decide)
set_option maxHeartbeats 4000000 in
set_option maxRecDepth 100000 in
theorem c_X1_not_2 {l : Launch} {D : va_G} {k : Nat → ClassId} {g a : Nat → Nat} (σ ν : St) (ρ : Rw) (u L p : Nat) (hT : RT σ ρ) (hI : Inv ρ) (hu2 : u < 2) (hP : CIn (nN (ρ 5)) (ν 71 0) (ν 72 0) (ν 73 0) u L p) (hLp : L < p) : Ct l D k g yX1_readNot cX1_readNot 3 (some .boolean) 41 966 [.ref (a 3), .int 2] (S := Rw × Int32 × Int32) (wX k g a σ ν) (fun uu => wX k g a σ (va_up (va_up (va_up ν 70 uu.1) 71 (fun _ => uu.2.1)) 72 (fun _ => uu.2.2))) (fun vv uu => vv = some (.int (bI (((sgS (lkS ρ) (nI u) 3) p).1 = true))) ∧ COut (ν 70) L (((sgS (lkS ρ) (nI u) 3) p).1, ((sgS (lkS ρ) (nI u) 3) p).2.1, ((sgS (lkS ρ) (nI u) 3) p).2.2 ++ [(3, 0)]) uu.1 uu.2.1 uu.2.2) := by
  refine Ct.ofI RX1 rfl (by decide +kernel) (Nat.le_of_ble_eq_true rfl) (fun X hC hR => ?_)
  have hb60 := hI.bb; have hle := hP.2.2.2
  show V X (wX k g a σ ν) [(0, .ref (a 3)), (1, .int 2)] [] 0
  refine V.aload_n (pc := 0) 0 hC dX1_readNot_0 rfl ?_
  refine V.iload_n (pc := 1) 1 hC dX1_readNot_1 rfl ?_
  refine V.callV0 (pc := 2) (as := [.int 2]) hC (c_X1_single_2 σ ν ρ u L p hT hI hu2 hP) mu_X1_readSingle ml_X1_64 (by decide) ⟨3, 1, TX1, 5, _, rfl, gx_3⟩ rfl (Nat.le_of_ble_eq_true rfl) dX1_readNot_2 ?_
  rintro _ ⟨f2_0, i2_1, i2_2⟩ ⟨rfl, hu2_0⟩
  have hu2_0 : COut (ν 70) L ((sgS (lkS ρ) (nI u) 3) p) f2_0 i2_1 i2_2 := hu2_0
  show V X (wX k g a σ (va_up (va_up (va_up ν 70 f2_0) 71 (fun _ => i2_1)) 72 (fun _ => i2_2))) [(0, .ref (a 3)), (1, .int 2)] [.int (bI (((sgS (lkS ρ) (nI u) 3) p).1 = true))] 5
  refine V.istore_n (pc := 5) [(2, .int (bI (((sgS (lkS ρ) (nI u) 3) p).1 = true))), (0, .ref (a 3)), (1, .int 2)] hC dX1_readNot_5 (by decide) rfl ?_
  refine V.aload_n (pc := 6) 1 hC dX1_readNot_6 rfl ?_
  refine V.bipush (pc := 7) (-33) hC dX1_readNot_7 (by decide) ?_
  refine V.callV0 (pc := 9) (as := [.int (-33)]) hC (c_X1_write σ (va_up (va_up (va_up ν 70 f2_0) 71 (fun _ => i2_1)) 72 (fun _ => i2_2)) (-33) hu2_0.2.1) mu_X1_write ml_X1_60 (by decide) ⟨3, 1, TX1, 5, _, rfl, gx_3⟩ rfl (Nat.le_of_ble_eq_true rfl) dX1_readNot_9 ?_
  rintro _ ⟨f9_0, i9_1⟩ ⟨rfl, hu9_0⟩
  have hu9_0 : WtF (f2_0) (i2_1) (-33) f9_0 i9_1 := hu9_0
  show V X (wX k g a σ (va_up (va_up (va_up ν 70 f9_0) 71 (fun _ => i9_1)) 72 (fun _ => i2_2))) [(2, .int (bI (((sgS (lkS ρ) (nI u) 3) p).1 = true))), (0, .ref (a 3)), (1, .int 2)] [] 12
  refine V.iload_n (pc := 12) 0 hC dX1_readNot_12 rfl ?_
  exact hR (bI (((sgS (lkS ρ) (nI u) 3) p).1 = true)) (f9_0, i9_1, i2_2) _ _ dX1_readNot_13 (by first | rfl | exact bI_n _) ⟨rfl, CO_add hu2_0 (w := (3, 0)) rfl hu9_0 (fun q => by have := ((sg_g (u := nI u) (lk_tok (ρ := ρ)) 3) p (by omega)).2.2 q; have := ((sg_g (u := nI u) (lk_tok (ρ := ρ)) 3) p (by omega)).2.1; have := hLp; omega)⟩
set_option maxHeartbeats 4000000 in
set_option maxRecDepth 100000 in
theorem c_X1_br_2 {l : Launch} {D : va_G} {k : Nat → ClassId} {g a : Nat → Nat} (σ ν : St) (ρ : Rw) (u L p : Nat) (hT : RT σ ρ) (hI : Inv ρ) (hu2 : u < 2) (hP : CIn (nN (ρ 5)) (ν 71 0) (ν 72 0) (ν 73 0) u L p) : Ct l D k g yX1_readBracket cX1_readBracket 2 (some .boolean) 51 1206 [.ref (a 3), .int 2] (S := Rw × Int32 × Int32) (wX k g a σ ν) (fun uu => wX k g a σ (va_up (va_up (va_up ν 70 uu.1) 71 (fun _ => uu.2.1)) 72 (fun _ => uu.2.2))) (fun vv uu => vv = some (.int (bI ((if ((lvS (lkS ρ) (sgS (lkS ρ) (nI u) 3) 5) p).1 = true ∧ lkS ρ ((lvS (lkS ρ) (sgS (lkS ρ) (nI u) 3) 5) p).2.1 = 41 then (true, ((lvS (lkS ρ) (sgS (lkS ρ) (nI u) 3) 5) p).2.1 + 1, ((lvS (lkS ρ) (sgS (lkS ρ) (nI u) 3) 5) p).2.2) else (false, ((lvS (lkS ρ) (sgS (lkS ρ) (nI u) 3) 5) p).2.1, ((lvS (lkS ρ) (sgS (lkS ρ) (nI u) 3) 5) p).2.2) : Res).1 = true))) ∧ COut (ν 70) L (if ((lvS (lkS ρ) (sgS (lkS ρ) (nI u) 3) 5) p).1 = true ∧ lkS ρ ((lvS (lkS ρ) (sgS (lkS ρ) (nI u) 3) 5) p).2.1 = 41 then (true, ((lvS (lkS ρ) (sgS (lkS ρ) (nI u) 3) 5) p).2.1 + 1, ((lvS (lkS ρ) (sgS (lkS ρ) (nI u) 3) 5) p).2.2) else (false, ((lvS (lkS ρ) (sgS (lkS ρ) (nI u) 3) 5) p).2.1, ((lvS (lkS ρ) (sgS (lkS ρ) (nI u) 3) 5) p).2.2) : Res) uu.1 uu.2.1 uu.2.2) := by
  refine Ct.ofI RX1 rfl (by decide +kernel) (Nat.le_of_ble_eq_true rfl) (fun X hC hR => ?_)
  have hb60 := hI.bb; have hle := hP.2.2.2
  show V X (wX k g a σ ν) [(0, .ref (a 3)), (1, .int 2)] [] 0
  refine V.aload_n (pc := 0) 0 hC dX1_readBracket_0 rfl ?_
  refine V.iconst (pc := 1) 0 hC dX1_readBracket_1 (by decide) ?_
  refine V.iload_n (pc := 2) 1 hC dX1_readBracket_2 rfl ?_
  refine V.callV0 (pc := 3) (as := [.int 0, .int 2]) hC (c_X1_part_0_2 σ ν ρ u L p hT hI hu2 hP) mu_X1_readPart ml_X1_36 (by decide) ⟨3, 1, TX1, 5, _, rfl, gx_3⟩ rfl (Nat.le_of_ble_eq_true rfl) dX1_readBracket_3 ?_
  rintro _ ⟨f3_0, i3_1, i3_2⟩ ⟨rfl, hu3_0⟩
  have hu3_0 : COut (ν 70) L ((lvS (lkS ρ) (sgS (lkS ρ) (nI u) 3) 5) p) f3_0 i3_1 i3_2 := hu3_0
  show V X (wX k g a σ (va_up (va_up (va_up ν 70 f3_0) 71 (fun _ => i3_1)) 72 (fun _ => i3_2))) [(0, .ref (a 3)), (1, .int 2)] [.int (bI (((lvS (lkS ρ) (sgS (lkS ρ) (nI u) 3) 5) p).1 = true))] 6
  refine V.if_eq_b (P := ((lvS (lkS ρ) (sgS (lkS ρ) (nI u) 3) 5) p).1 = true) (pc := 6) 18 hC dX1_readBracket_6 (by decide) (fun c_6 => ?_) (fun c_6 => ?_)
  · refine V.iconst (pc := 18) 0 hC dX1_readBracket_18 (by decide) ?_
    exact hR 0 (f3_0, i3_1, i3_2) _ _ dX1_readBracket_19 (by first | rfl | exact bI_n _) ⟨rb0 (by rw [if_neg (fun z => c_6 z.1)]; exact fun z => absurd (show false = true from z) (by decide)), by rw [if_neg (fun z => c_6 z.1)]; exact CO_bad hu3_0.1 hu3_0.2.1⟩
  · refine V.aload_n (pc := 9) 0 hC dX1_readBracket_9 rfl ?_
    refine V.callV0 (pc := 10) (as := []) hC (c_X1_next σ (va_up (va_up (va_up ν 70 f3_0) 71 (fun _ => i3_1)) 72 (fun _ => i3_2)) ρ (((lvS (lkS ρ) (sgS (lkS ρ) (nI u) 3) 5) p).2.1) hT hI hu3_0.1 (by have := ((lv_g (lk_tok (ρ := ρ)) (sg_g (u := nI u) (lk_tok (ρ := ρ)) 3) 5) p (by omega)).2.1; omega)) mu_X1_next ml_X1_52 (by decide) ⟨3, 1, TX1, 5, _, rfl, gx_3⟩ rfl (Nat.le_of_ble_eq_true rfl) dX1_readBracket_10 ?_
    rintro _ _ rfl
    show V X (wX k g a σ (va_up (va_up (va_up ν 70 f3_0) 71 (fun _ => i3_1)) 72 (fun _ => i3_2))) [(0, .ref (a 3)), (1, .int 2)] [.int (lkS ρ (((lvS (lkS ρ) (sgS (lkS ρ) (nI u) 3) 5) p).2.1))] 13
    refine V.bipush (pc := 13) 41 hC dX1_readBracket_13 (by decide) ?_
    refine V.icmp_eq (pc := 15) 20 hC dX1_readBracket_15 (by decide) (fun c_15 => ?_) (fun c_15 => ?_)
    · refine V.aload_n (pc := 20) 0 hC dX1_readBracket_20 rfl ?_
      refine V.dup (pc := 21) hC dX1_readBracket_21 rfl ?_
      refine V.get (pc := 22) (v := .int i3_2) hC cf_X1 3 3 fl_X1_29 (by decide) gx_3 rfl dX1_readBracket_22 ?_
      refine V.iconst (pc := 25) 1 hC dX1_readBracket_25 (by decide) ?_
      refine V.iadd (pc := 26) hC dX1_readBracket_26 ?_
      refine V.put (pc := 27) (v := .int (i3_2 + 1)) hC cf_X1 3 3 (wX k g a σ (va_up (va_up (va_up ν 70 f3_0) 71 (fun _ => i3_1)) 72 (fun _ => i3_2 + 1))) fl_X1_29 (by decide) gx_3 rfl rfl rfl (Nat.le_of_ble_eq_true rfl) rfl dX1_readBracket_27 ?_
      refine V.iconst (pc := 30) 1 hC dX1_readBracket_30 (by decide) ?_
      exact hR 1 (f3_0, i3_1, i3_2 + 1) _ _ dX1_readBracket_31 (by first | rfl | exact bI_n _) ⟨rb1 (by rw [if_pos ⟨c_6, c_15⟩]), by rw [if_pos ⟨c_6, c_15⟩]; exact ⟨nadd hu3_0.1 (nl 1), hu3_0.2.1, fun _ => hu3_0.2.2 c_6⟩⟩
    · refine V.iconst (pc := 18) 0 hC dX1_readBracket_18 (by decide) ?_
      exact hR 0 (f3_0, i3_1, i3_2) _ _ dX1_readBracket_19 (by first | rfl | exact bI_n _) ⟨rb0 (by rw [if_neg (fun z => c_15 z.2)]; exact fun z => absurd (show false = true from z) (by decide)), by rw [if_neg (fun z => c_15 z.2)]; exact CO_bad hu3_0.1 hu3_0.2.1⟩
