set_option maxHeartbeats 4000000 in
set_option maxRecDepth 100000 in
theorem c_X7_works {l : Launch} {D : va_G} {k : Nat → ClassId} {g b : Nat → Nat} (μ ν : St) (w : Nat) (hI : Inv (μ 0)) (hw : w < 2) (hpos : 0 < nN (μ 0 (133 + 121 * w))) : Ct l D k g yX7_works cX7_works 5 (some .int) 1 22 [.ref (b 20), .int (nI (133 + 121 * w))] (S := Rw) (wM k b μ ν) (fun uu => wM k b μ (va_up ν 11 uu)) (fun vv uu => vv = some (.int (ev (acS (μ 0) w) (wiS (μ 0) w) (ν 10) (nN (μ 0 (133 + 121 * w))) 0 []))) := by
  refine Ct.ofI RX7 rfl (by decide +kernel) (Nat.le_of_ble_eq_true rfl) (fun X hC hR => ?_)
  have hb60 := hI.lb hw
  show V X (wM k b μ ν) [(0, .ref (b 20)), (1, .int (nI (133 + 121 * w)))] [] 0
  refine V.iconst (pc := 0) 0 hC dX7_works_0 (by decide) ?_
  refine V.istore_n (pc := 1) [(2, .int 0), (0, .ref (b 20)), (1, .int (nI (133 + 121 * w)))] hC dX7_works_1 (by decide) rfl ?_
  refine V.iconst (pc := 2) 0 hC dX7_works_2 (by decide) ?_
  refine V.istore_n (pc := 3) [(3, .int 0), (2, .int 0), (0, .ref (b 20)), (1, .int (nI (133 + 121 * w)))] hC dX7_works_3 (by decide) rfl ?_
  have loop_4 : ∀ (n : Nat) (i : Nat) (sk : List Int32) (f : Rw), i + n = nN (μ 0 (133 + 121 * w)) → sk.length ≤ i → pileOf f sk → wfC (acS (μ 0) w) (wiS (μ 0) w) n i sk.length → ev (acS (μ 0) w) (wiS (μ 0) w) (ν 10) (nN (μ 0 (133 + 121 * w))) 0 [] = ev (acS (μ 0) w) (wiS (μ 0) w) (ν 10) n i sk → V X (wM k b μ (va_up ν 11 f)) [(0, .ref (b 20)), (1, .int (nI (133 + 121 * w))), (2, .int (nI sk.length)), (3, .int (nI i))] [] 4 := by
    intro n
    induction n with
    | zero =>
      intro i sk f hi hl hp hf hv
      refine V.iload_n (pc := 4) 3 hC dX7_works_4 rfl ?_
      refine V.aload_n (pc := 5) 0 hC dX7_works_5 rfl ?_
      refine V.get (pc := 6) (v := .ref (b 0)) hC cf_X7 0 0 fl_X7_9 (by decide) gm_0 rfl dX7_works_6 ?_
      refine V.iload_n (pc := 9) 1 hC dX7_works_9 rfl ?_
      refine V.iald (pc := 10) (f := μ 0) hC 1 (133 + 121 * w) gm_1 rfl (by omega) (by decide) dX7_works_10 ?_
      refine V.icmp_ge (pc := 11) 155 hC dX7_works_11 (by decide) (fun c_11 => ?_) (fun c_11 => ?_)
      · have nc_11 : nN (μ 0 (133 + 121 * w)) ≤ i := (nle (hI.ln hw) rfl (by omega) (by omega)).mp c_11
        refine V.aload_n (pc := 155) 0 hC dX7_works_155 rfl ?_
        refine V.get (pc := 156) (v := .ref (b 11)) hC cf_X7 0 11 fl_X7_40 (by decide) gm_0 rfl dX7_works_156 ?_
        refine V.iconst (pc := 159) 0 hC dX7_works_159 (by decide) ?_
        refine V.iald (pc := 160) (f := f) hC 11 0 gm_11 (nl 0) (by omega) (by decide) dX7_works_160 ?_
        exact hR (f 0) (f) _ _ dX7_works_161 rfl (ri (ev_end hf hp hv))
      · have nc_11 : ¬ (nN (μ 0 (133 + 121 * w)) ≤ i) := fun z => c_11 ((nle (hI.ln hw) rfl (by omega) (by omega)).mpr z)
        exfalso; omega
    | succ n ih =>
      intro i sk f hi hl hp hf hv
      refine V.iload_n (pc := 4) 3 hC dX7_works_4 rfl ?_
      refine V.aload_n (pc := 5) 0 hC dX7_works_5 rfl ?_
      refine V.get (pc := 6) (v := .ref (b 0)) hC cf_X7 0 0 fl_X7_9 (by decide) gm_0 rfl dX7_works_6 ?_
      refine V.iload_n (pc := 9) 1 hC dX7_works_9 rfl ?_
      refine V.iald (pc := 10) (f := μ 0) hC 1 (133 + 121 * w) gm_1 rfl (by omega) (by decide) dX7_works_10 ?_
      refine V.icmp_ge (pc := 11) 155 hC dX7_works_11 (by decide) (fun c_11 => ?_) (fun c_11 => ?_)
      · have nc_11 : nN (μ 0 (133 + 121 * w)) ≤ i := (nle (hI.ln hw) rfl (by omega) (by omega)).mp c_11
        exfalso; omega
      · have nc_11 : ¬ (nN (μ 0 (133 + 121 * w)) ≤ i) := fun z => c_11 ((nle (hI.ln hw) rfl (by omega) (by omega)).mpr z)
        refine V.aload_n (pc := 14) 0 hC dX7_works_14 rfl ?_
        refine V.get (pc := 15) (v := .ref (b 0)) hC cf_X7 0 0 fl_X7_9 (by decide) gm_0 rfl dX7_works_15 ?_
        refine V.iload_n (pc := 18) 1 hC dX7_works_18 rfl ?_
        refine V.iconst (pc := 19) 1 hC dX7_works_19 (by decide) ?_
        refine V.iadd (pc := 20) hC dX7_works_20 ?_
        refine V.iload_n (pc := 21) 3 hC dX7_works_21 rfl ?_
        refine V.iadd (pc := 22) hC dX7_works_22 ?_
        refine V.iald (pc := 23) (f := μ 0) hC 1 (134 + 121 * w + i) gm_1 (ncast (b := 134 + 121 * w + i) (nadd (nadd rfl (nl 1)) rfl) (by omega)) (by omega) (by decide) dX7_works_23 ?_
        refine V.istore (pc := 24) [(4, .int (μ 0 (134 + 121 * w + i))), (0, .ref (b 20)), (1, .int (nI (133 + 121 * w))), (2, .int (nI sk.length)), (3, .int (nI i))] hC dX7_works_24 (by decide) rfl ?_
        refine V.iload (pc := 26) 0 hC dX7_works_26 rfl ?_
        refine V.iconst (pc := 28) 1 hC dX7_works_28 (by decide) ?_
        refine V.icmp_eq (pc := 29) 38 hC dX7_works_29 (by decide) (fun c_29 => ?_) (fun c_29 => ?_)
        · refine V.aload_n (pc := 38) 1 hC dX7_works_38 rfl ?_
          refine V.get (pc := 39) (v := .ref (b 11)) hC cf_X7 0 11 fl_X7_40 (by decide) gm_0 rfl dX7_works_39 ?_
          refine V.iload_n (pc := 42) 3 hC dX7_works_42 rfl ?_
          refine V.iload (pc := 43) 0 hC dX7_works_43 rfl ?_
          refine V.iconst (pc := 45) 1 hC dX7_works_45 (by decide) ?_
          refine V.icmp_ne (pc := 46) 63 hC dX7_works_46 (by decide) (fun c_46 => ?_) (fun c_46 => ?_)
          · exact absurd c_29 c_46
          · refine V.aload_n (pc := 49) 1 hC dX7_works_49 rfl ?_
            refine V.get (pc := 50) (v := .ref (b 0)) hC cf_X7 0 0 fl_X7_9 (by decide) gm_0 rfl dX7_works_50 ?_
            refine V.iload_n (pc := 53) 2 hC dX7_works_53 rfl ?_
            refine V.bipush (pc := 54) 61 hC dX7_works_54 (by decide) ?_
            refine V.iadd (pc := 56) hC dX7_works_56 ?_
            refine V.iload_n (pc := 57) 4 hC dX7_works_57 rfl ?_
            refine V.iadd (pc := 58) hC dX7_works_58 ?_
            refine V.iald (pc := 59) (f := μ 0) hC 1 (194 + 121 * w + i) gm_1 (ncast (b := 194 + 121 * w + i) (nadd (nadd rfl (nl 61)) rfl) (by omega)) (by omega) (by decide) dX7_works_59 ?_
            refine V.goto (pc := 60) 79 hC dX7_works_60 (by decide) ?_
            refine V.iast (pc := 79) (f := f) hC 11 sk.length (wM k b μ (va_up ν 11 (upd f sk.length (μ 0 (194 + 121 * w + i))))) gm_11 rfl (by omega) (by decide) rfl dX7_works_79 ?_
            refine V.iinc (pc := 80) 3 (nI (sk.length + 1)) [(2, .int (nI (sk.length + 1))), (4, .int (μ 0 (134 + 121 * w + i))), (0, .ref (b 20)), (1, .int (nI (133 + 121 * w))), (3, .int (nI i))] hC dX7_works_80 rfl (ncast (nadd rfl (nl 1)) (by omega)) (by decide) rfl ?_
            refine V.goto (pc := 83) 149 hC dX7_works_83 (by decide) ?_
            refine V.iinc (pc := 149) 4 (nI (i + 1)) [(3, .int (nI (i + 1))), (2, .int (nI (sk.length + 1))), (4, .int (μ 0 (134 + 121 * w + i))), (0, .ref (b 20)), (1, .int (nI (133 + 121 * w)))] hC dX7_works_149 rfl (ncast (nadd rfl (nl 1)) (by omega)) (by decide) rfl ?_
            refine V.goto (pc := 152) 4 hC dX7_works_152 (by decide) ?_
            exact V.sub [3, 4, 1, 0] rfl (ih (i + 1) ((wiS (μ 0) w) i :: sk) (upd f sk.length (μ 0 (194 + 121 * w + i))) (by omega) (by simp only [List.length_cons]; omega) (pileOf_push rfl hp) (wf_push hf c_29) (hv.trans (ev_push c_29)))
        · refine V.iload (pc := 32) 0 hC dX7_works_32 rfl ?_
          refine V.iconst (pc := 34) 2 hC dX7_works_34 (by decide) ?_
          refine V.icmp_ne (pc := 35) 86 hC dX7_works_35 (by decide) (fun c_35 => ?_) (fun c_35 => ?_)
          · refine V.iload (pc := 86) 0 hC dX7_works_86 rfl ?_
            refine V.iconst (pc := 88) 3 hC dX7_works_88 (by decide) ?_
            refine V.icmp_ne (pc := 89) 119 hC dX7_works_89 (by decide) (fun c_89 => ?_) (fun c_89 => ?_)
            · obtain ⟨y9, x9, r9, e9⟩ := len_2 (wf_op hf c_29 c_35 c_89).2.1
              have hlen : sk.length = r9.length + 2 := by rw [e9]; rfl
              refine V.iinc (pc := 119) 3 (nI (r9.length + 1)) [(2, .int (nI (r9.length + 1))), (4, .int (μ 0 (134 + 121 * w + i))), (0, .ref (b 20)), (1, .int (nI (133 + 121 * w))), (3, .int (nI i))] hC dX7_works_119 rfl (by rw [hlen]; exact pk_m1 (r9.length + 1)) (by decide) rfl ?_
              refine V.aload_n (pc := 122) 2 hC dX7_works_122 rfl ?_
              refine V.get (pc := 123) (v := .ref (b 11)) hC cf_X7 0 11 fl_X7_40 (by decide) gm_0 rfl dX7_works_123 ?_
              refine V.iload_n (pc := 126) 0 hC dX7_works_126 rfl ?_
              refine V.iconst (pc := 127) 1 hC dX7_works_127 (by decide) ?_
              refine V.isub (pc := 128) hC dX7_works_128 ?_
              refine V.iload (pc := 129) 1 hC dX7_works_129 rfl ?_
              refine V.aload_n (pc := 131) 2 hC dX7_works_131 rfl ?_
              refine V.get (pc := 132) (v := .ref (b 11)) hC cf_X7 0 11 fl_X7_40 (by decide) gm_0 rfl dX7_works_132 ?_
              refine V.iload_n (pc := 135) 0 hC dX7_works_135 rfl ?_
              refine V.iconst (pc := 136) 1 hC dX7_works_136 (by decide) ?_
              refine V.isub (pc := 137) hC dX7_works_137 ?_
              refine V.iald (pc := 138) (f := f) hC 11 r9.length gm_11 (ncast (nsub rfl (nl 1) (by omega)) (by omega)) (by omega) (by decide) dX7_works_138 ?_
              refine V.aload_n (pc := 139) 2 hC dX7_works_139 rfl ?_
              refine V.get (pc := 140) (v := .ref (b 11)) hC cf_X7 0 11 fl_X7_40 (by decide) gm_0 rfl dX7_works_140 ?_
              refine V.iload_n (pc := 143) 0 hC dX7_works_143 rfl ?_
              refine V.iald (pc := 144) (f := f) hC 11 (r9.length + 1) gm_11 rfl (by omega) (by decide) dX7_works_144 ?_
              refine V.callS0 (pc := 145) (as := [.int (μ 0 (134 + 121 * w + i)), .int (f r9.length), .int (f (r9.length + 1))]) hC (c_X7_twoOf (μ 0 (134 + 121 * w + i)) (f r9.length) (f (r9.length + 1)) (wf_op hf c_29 c_35 c_89).1) ms_X7_twoOf ml_X7_174 (by decide) rfl (Nat.le_of_ble_eq_true rfl) dX7_works_145 ?_
              rintro _ _ rfl
              show V X (wM k b μ (va_up ν 11 f)) [(2, .int (nI (r9.length + 1))), (4, .int (μ 0 (134 + 121 * w + i))), (0, .ref (b 20)), (1, .int (nI (133 + 121 * w))), (3, .int (nI i))] [.int (twoS (μ 0 (134 + 121 * w + i)) (f r9.length) (f (r9.length + 1))), .int ((nI (r9.length + 1)) - 1), .ref (b 11)] 148
              refine V.iast (pc := 148) (f := f) hC 11 r9.length (wM k b μ (va_up ν 11 (upd f r9.length (twoS (μ 0 (134 + 121 * w + i)) (f r9.length) (f (r9.length + 1)))))) gm_11 (ncast (nsub rfl (nl 1) (by omega)) (by omega)) (by omega) (by decide) rfl dX7_works_148 ?_
              refine V.iinc (pc := 149) 4 (nI (i + 1)) [(3, .int (nI (i + 1))), (2, .int (nI (r9.length + 1))), (4, .int (μ 0 (134 + 121 * w + i))), (0, .ref (b 20)), (1, .int (nI (133 + 121 * w)))] hC dX7_works_149 rfl (ncast (nadd rfl (nl 1)) (by omega)) (by decide) rfl ?_
              refine V.goto (pc := 152) 4 hC dX7_works_152 (by decide) ?_
              subst e9
              exact V.sub [3, 4, 1, 0] rfl (ih (i + 1) (twoS ((acS (μ 0) w) i) x9 y9 :: r9) (upd f r9.length (twoS (μ 0 (134 + 121 * w + i)) (f r9.length) (f (r9.length + 1)))) (by omega) (by simp only [List.length_cons] at hl ⊢; omega) (by rw [← hp.1, ← hp.2.1]; exact pileOf_push rfl hp.2.2) (wf_op hf c_29 c_35 c_89).2.2 (hv.trans (ev_op c_29 c_35 c_89)))
            · obtain ⟨x9, r9, e9⟩ := len_1 (wf_dny hf c_89).1
              have hlen : sk.length = r9.length + 1 := by rw [e9]; rfl
              refine V.aload_n (pc := 92) 1 hC dX7_works_92 rfl ?_
              refine V.get (pc := 93) (v := .ref (b 11)) hC cf_X7 0 11 fl_X7_40 (by decide) gm_0 rfl dX7_works_93 ?_
              refine V.iload_n (pc := 96) 3 hC dX7_works_96 rfl ?_
              refine V.iconst (pc := 97) 1 hC dX7_works_97 (by decide) ?_
              refine V.isub (pc := 98) hC dX7_works_98 ?_
              refine V.aload_n (pc := 99) 1 hC dX7_works_99 rfl ?_
              refine V.get (pc := 100) (v := .ref (b 11)) hC cf_X7 0 11 fl_X7_40 (by decide) gm_0 rfl dX7_works_100 ?_
              refine V.iload_n (pc := 103) 3 hC dX7_works_103 rfl ?_
              refine V.iconst (pc := 104) 1 hC dX7_works_104 (by decide) ?_
              refine V.isub (pc := 105) hC dX7_works_105 ?_
              refine V.iald (pc := 106) (f := f) hC 11 r9.length gm_11 (ncast (nsub rfl (nl 1) (by omega)) (by omega)) (by omega) (by decide) dX7_works_106 ?_
              refine V.if_ne (pc := 107) 114 hC dX7_works_107 (by decide) (fun c_107 => ?_) (fun c_107 => ?_)
              · refine V.iconst (pc := 114) 0 hC dX7_works_114 (by decide) ?_
                refine V.iast (pc := 115) (f := f) hC 11 r9.length (wM k b μ (va_up ν 11 (upd f r9.length 0))) gm_11 (ncast (nsub rfl (nl 1) (by omega)) (by omega)) (by omega) (by decide) rfl dX7_works_115 ?_
                refine V.goto (pc := 116) 149 hC dX7_works_116 (by decide) ?_
                refine V.iinc (pc := 149) 4 (nI (i + 1)) [(3, .int (nI (i + 1))), (4, .int (μ 0 (134 + 121 * w + i))), (0, .ref (b 20)), (1, .int (nI (133 + 121 * w))), (2, .int (nI sk.length))] hC dX7_works_149 rfl (ncast (nadd rfl (nl 1)) (by omega)) (by decide) rfl ?_
                refine V.goto (pc := 152) 4 hC dX7_works_152 (by decide) ?_
                subst e9
                exact V.sub [2, 3, 4, 0] rfl (ih (i + 1) (dnyS x9 :: r9) (upd f r9.length 0) (by omega) (by simp only [List.length_cons] at hl ⊢; omega) (by rw [show dnyS x9 = 0 from by rw [dnyS, if_neg (fun z => c_107 (hp.1.trans z))]]; exact pileOf_push rfl hp.2) (wf_dny hf c_89).2 (hv.trans (ev_dny c_89)))
              · refine V.iconst (pc := 110) 1 hC dX7_works_110 (by decide) ?_
                refine V.goto (pc := 111) 115 hC dX7_works_111 (by decide) ?_
                refine V.iast (pc := 115) (f := f) hC 11 r9.length (wM k b μ (va_up ν 11 (upd f r9.length 1))) gm_11 (ncast (nsub rfl (nl 1) (by omega)) (by omega)) (by omega) (by decide) rfl dX7_works_115 ?_
                refine V.goto (pc := 116) 149 hC dX7_works_116 (by decide) ?_
                refine V.iinc (pc := 149) 4 (nI (i + 1)) [(3, .int (nI (i + 1))), (4, .int (μ 0 (134 + 121 * w + i))), (0, .ref (b 20)), (1, .int (nI (133 + 121 * w))), (2, .int (nI sk.length))] hC dX7_works_149 rfl (ncast (nadd rfl (nl 1)) (by omega)) (by decide) rfl ?_
                refine V.goto (pc := 152) 4 hC dX7_works_152 (by decide) ?_
                subst e9
                exact V.sub [2, 3, 4, 0] rfl (ih (i + 1) (dnyS x9 :: r9) (upd f r9.length 1) (by omega) (by simp only [List.length_cons] at hl ⊢; omega) (by rw [show dnyS x9 = 1 from by rw [dnyS, if_pos (hp.1.symm.trans c_107)]]; exact pileOf_push rfl hp.2) (wf_dny hf c_89).2 (hv.trans (ev_dny c_89)))
          · refine V.aload_n (pc := 38) 1 hC dX7_works_38 rfl ?_
            refine V.get (pc := 39) (v := .ref (b 11)) hC cf_X7 0 11 fl_X7_40 (by decide) gm_0 rfl dX7_works_39 ?_
            refine V.iload_n (pc := 42) 3 hC dX7_works_42 rfl ?_
            refine V.iload (pc := 43) 0 hC dX7_works_43 rfl ?_
            refine V.iconst (pc := 45) 1 hC dX7_works_45 (by decide) ?_
            refine V.icmp_ne (pc := 46) 63 hC dX7_works_46 (by decide) (fun c_46 => ?_) (fun c_46 => ?_)
            · refine V.aload_n (pc := 63) 1 hC dX7_works_63 rfl ?_
              refine V.get (pc := 64) (v := .ref (b 10)) hC cf_X7 0 10 fl_X7_37 (by decide) gm_0 rfl dX7_works_64 ?_
              refine V.aload_n (pc := 67) 1 hC dX7_works_67 rfl ?_
              refine V.get (pc := 68) (v := .ref (b 0)) hC cf_X7 0 0 fl_X7_9 (by decide) gm_0 rfl dX7_works_68 ?_
              refine V.iload_n (pc := 71) 2 hC dX7_works_71 rfl ?_
              refine V.bipush (pc := 72) 61 hC dX7_works_72 (by decide) ?_
              refine V.iadd (pc := 74) hC dX7_works_74 ?_
              refine V.iload_n (pc := 75) 4 hC dX7_works_75 rfl ?_
              refine V.iadd (pc := 76) hC dX7_works_76 ?_
              refine V.iald (pc := 77) (f := μ 0) hC 1 (194 + 121 * w + i) gm_1 (ncast (b := 194 + 121 * w + i) (nadd (nadd rfl (nl 61)) rfl) (by omega)) (by omega) (by decide) dX7_works_77 ?_
              refine V.iald (pc := 78) (f := ν 10) hC 10 (nN (μ 0 (194 + 121 * w + i))) gm_10 ((wf_nam hf c_35).1.1) (by have := (wf_nam hf c_35).1.2; exact Nat.lt_succ_of_le this) (by decide) dX7_works_78 ?_
              refine V.iast (pc := 79) (f := f) hC 11 sk.length (wM k b μ (va_up ν 11 (upd f sk.length (ν 10 (nN (μ 0 (194 + 121 * w + i))))))) gm_11 rfl (by omega) (by decide) rfl dX7_works_79 ?_
              refine V.iinc (pc := 80) 3 (nI (sk.length + 1)) [(2, .int (nI (sk.length + 1))), (4, .int (μ 0 (134 + 121 * w + i))), (0, .ref (b 20)), (1, .int (nI (133 + 121 * w))), (3, .int (nI i))] hC dX7_works_80 rfl (ncast (nadd rfl (nl 1)) (by omega)) (by decide) rfl ?_
              refine V.goto (pc := 83) 149 hC dX7_works_83 (by decide) ?_
              refine V.iinc (pc := 149) 4 (nI (i + 1)) [(3, .int (nI (i + 1))), (2, .int (nI (sk.length + 1))), (4, .int (μ 0 (134 + 121 * w + i))), (0, .ref (b 20)), (1, .int (nI (133 + 121 * w)))] hC dX7_works_149 rfl (ncast (nadd rfl (nl 1)) (by omega)) (by decide) rfl ?_
              refine V.goto (pc := 152) 4 hC dX7_works_152 (by decide) ?_
              exact V.sub [3, 4, 1, 0] rfl (ih (i + 1) (ν 10 (nN ((wiS (μ 0) w) i)) :: sk) (upd f sk.length (ν 10 (nN (μ 0 (194 + 121 * w + i))))) (by omega) (by simp only [List.length_cons]; omega) (pileOf_push rfl hp) (wf_nam hf c_35).2 (hv.trans (ev_nam c_35)))
            · exact absurd c_46 c_29
  exact V.sub [2, 3, 1, 0] rfl (loop_4 (nN (μ 0 (133 + 121 * w))) 0 [] (ν 11) (by omega) (Nat.le_refl 0) trivial (hI.lw hw hpos) rfl)
set_option maxHeartbeats 4000000 in
set_option maxRecDepth 100000 in
theorem c_X7_gives {l : Launch} {D : va_G} {k : Nat → ClassId} {g b : Nat → Nat} (μ ν : St) (w : Nat) (x y z : Int32) (hI : Inv (μ 0)) (hw : w < 2) : Ct l D k g yX7_gives cX7_gives 7 (some .int) 2 46 [.ref (b 20), .int (nI w), .int x, .int y, .int z] (S := Rw × Rw) (wM k b μ ν) (fun uu => wM k b μ (va_up (va_up ν 10 uu.1) 11 uu.2)) (fun vv uu => vv = some (.int (givesS (μ 0) w x y z))) := by
  refine Ct.ofI RX7 rfl (by decide +kernel) (Nat.le_of_ble_eq_true rfl) (fun X hC hR => ?_)
  have hb60 := hI.lb hw
  show V X (wM k b μ ν) [(0, .ref (b 20)), (1, .int (nI w)), (2, .int x), (3, .int y), (4, .int z)] [] 0
  refine V.sipush (pc := 0) 133 hC dX7_gives_0 (by decide) ?_
  refine V.bipush (pc := 3) 121 hC dX7_gives_3 (by decide) ?_
  refine V.iload_n (pc := 5) 1 hC dX7_gives_5 rfl ?_
  refine V.imul (pc := 6) hC dX7_gives_6 ?_
  refine V.iadd (pc := 7) hC dX7_gives_7 ?_
  refine V.istore (pc := 8) [(5, .int (133 + (121 * (nI w)))), (0, .ref (b 20)), (1, .int (nI w)), (2, .int x), (3, .int y), (4, .int z)] hC dX7_gives_8 (by decide) rfl ?_
  refine V.aload_n (pc := 10) 1 hC dX7_gives_10 rfl ?_
  refine V.get (pc := 11) (v := .ref (b 10)) hC cf_X7 0 10 fl_X7_37 (by decide) gm_0 rfl dX7_gives_11 ?_
  refine V.iconst (pc := 14) 0 hC dX7_gives_14 (by decide) ?_
  refine V.iload_n (pc := 15) 3 hC dX7_gives_15 rfl ?_
  refine V.iast (pc := 16) (f := ν 10) hC 10 0 (wM k b μ (va_up ν 10 (upd (ν 10) 0 x))) gm_10 (nl 0) (by omega) (by decide) rfl dX7_gives_16 ?_
  refine V.aload_n (pc := 17) 1 hC dX7_gives_17 rfl ?_
  refine V.get (pc := 18) (v := .ref (b 10)) hC cf_X7 0 10 fl_X7_37 (by decide) gm_0 rfl dX7_gives_18 ?_
  refine V.iconst (pc := 21) 1 hC dX7_gives_21 (by decide) ?_
  refine V.iload_n (pc := 22) 4 hC dX7_gives_22 rfl ?_
  refine V.iast (pc := 23) (f := upd (ν 10) 0 x) hC 10 1 (wM k b μ (va_up ν 10 (upd (upd (ν 10) 0 x) 1 y))) gm_10 (nl 1) (by omega) (by decide) rfl dX7_gives_23 ?_
  refine V.aload_n (pc := 24) 1 hC dX7_gives_24 rfl ?_
  refine V.get (pc := 25) (v := .ref (b 10)) hC cf_X7 0 10 fl_X7_37 (by decide) gm_0 rfl dX7_gives_25 ?_
  refine V.iconst (pc := 28) 2 hC dX7_gives_28 (by decide) ?_
  refine V.iload (pc := 29) 5 hC dX7_gives_29 rfl ?_
  refine V.iast (pc := 31) (f := upd (upd (ν 10) 0 x) 1 y) hC 10 2 (wM k b μ (va_up ν 10 (upd (upd (upd (ν 10) 0 x) 1 y) 2 z))) gm_10 (nl 2) (by omega) (by decide) rfl dX7_gives_31 ?_
  refine V.aload_n (pc := 32) 1 hC dX7_gives_32 rfl ?_
  refine V.get (pc := 33) (v := .ref (b 0)) hC cf_X7 0 0 fl_X7_9 (by decide) gm_0 rfl dX7_gives_33 ?_
  refine V.iload (pc := 36) 0 hC dX7_gives_36 rfl ?_
  refine V.iald (pc := 38) (f := μ 0) hC 1 (133 + 121 * w) gm_1 (ncast (b := 133 + 121 * w) (nadd (nl 133) (nmul (nl 121) rfl)) (by omega)) (by omega) (by decide) dX7_gives_38 ?_
  refine V.if_le (pc := 39) 51 hC dX7_gives_39 (by decide) (fun c_39 => ?_) (fun c_39 => ?_)
  · have nc_39 : nN (μ 0 (133 + 121 * w)) ≤ 0 := (nle (hI.ln hw) (nl 0) (by omega) (by omega)).mp c_39
    refine V.iload_n (pc := 51) 2 hC dX7_gives_51 rfl ?_
    refine V.if_ne (pc := 52) 61 hC dX7_gives_52 (by decide) (fun c_52 => ?_) (fun c_52 => ?_)
    · have nc_52 : ¬ (w = 0) := fun z => c_52 ((neq rfl (nl 0) (by omega) (by omega)).mpr z)
      refine V.bipush (pc := 61) 10 hC dX7_gives_61 (by decide) ?_
      refine V.iload_n (pc := 63) 3 hC dX7_gives_63 rfl ?_
      refine V.imul (pc := 64) hC dX7_gives_64 ?_
      refine V.iload_n (pc := 65) 4 hC dX7_gives_65 rfl ?_
      refine V.isub (pc := 66) hC dX7_gives_66 ?_
      refine V.istore (pc := 67) [(6, .int ((10 * x) - y)), (5, .int (133 + (121 * (nI w)))), (0, .ref (b 20)), (1, .int (nI w)), (2, .int x), (3, .int y), (4, .int z)] hC dX7_gives_67 (by decide) rfl ?_
      refine V.iload_n (pc := 69) 3 hC dX7_gives_69 rfl ?_
      refine V.if_ne (pc := 70) 84 hC dX7_gives_70 (by decide) (fun c_70 => ?_) (fun c_70 => ?_)
      · have nc_70 : ¬ (w = 0) := fun z => c_70 ((neq rfl (nl 0) (by omega) (by omega)).mpr z)
        refine V.iload (pc := 84) 0 hC dX7_gives_84 rfl ?_
        refine V.sipush (pc := 86) (-999) hC dX7_gives_86 (by decide) ?_
        refine V.sipush (pc := 89) 999 hC dX7_gives_89 (by decide) ?_
        refine V.callS0 (pc := 92) (as := [.int ((10 * x) - y), .int (-999), .int 999]) hC (c_X7_held ((10 * x) - y) (-999) 999 ) ms_X7_held ml_X7_180 (by decide) rfl (Nat.le_of_ble_eq_true rfl) dX7_gives_92 ?_
        rintro _ _ rfl
        show V X (wM k b μ (va_up ν 10 (upd (upd (upd (ν 10) 0 x) 1 y) 2 z))) [(6, .int ((10 * x) - y)), (5, .int (133 + (121 * (nI w)))), (0, .ref (b 20)), (1, .int (nI w)), (2, .int x), (3, .int y), (4, .int z)] [.int (heldS ((10 * x) - y) (-999) 999)] 95
        exact hR (heldS ((10 * x) - y) (-999) 999) (upd (upd (upd (ν 10) 0 x) 1 y) 2 z, ν 11) _ _ dX7_gives_95 rfl (ri (by rw [givesS, if_neg nc_70, rawS, if_neg (i_ge c_39), if_neg nc_52]))
      · have nc_70 : w = 0 := (neq rfl (nl 0) (by omega) (by omega)).mp c_70
        exact absurd c_70 c_52
    · have nc_52 : w = 0 := (neq rfl (nl 0) (by omega) (by omega)).mp c_52
      refine V.iload_n (pc := 55) 3 hC dX7_gives_55 rfl ?_
      refine V.iconst (pc := 56) 3 hC dX7_gives_56 (by decide) ?_
      refine V.idiv (pc := 57) hC dX7_gives_57 (by decide) ?_
      refine V.goto (pc := 58) 67 hC dX7_gives_58 (by decide) ?_
      refine V.istore (pc := 67) [(6, .int (x / 3)), (5, .int (133 + (121 * (nI w)))), (0, .ref (b 20)), (1, .int (nI w)), (2, .int x), (3, .int y), (4, .int z)] hC dX7_gives_67 (by decide) rfl ?_
      refine V.iload_n (pc := 69) 3 hC dX7_gives_69 rfl ?_
      refine V.if_ne (pc := 70) 84 hC dX7_gives_70 (by decide) (fun c_70 => ?_) (fun c_70 => ?_)
      · have nc_70 : ¬ (w = 0) := fun z => c_70 ((neq rfl (nl 0) (by omega) (by omega)).mpr z)
        exact absurd c_52 c_70
      · have nc_70 : w = 0 := (neq rfl (nl 0) (by omega) (by omega)).mp c_70
        refine V.iload (pc := 73) 0 hC dX7_gives_73 rfl ?_
        refine V.iconst (pc := 75) 0 hC dX7_gives_75 (by decide) ?_
        refine V.bipush (pc := 76) 30 hC dX7_gives_76 (by decide) ?_
        refine V.callS0 (pc := 78) (as := [.int (x / 3), .int 0, .int 30]) hC (c_X7_held (x / 3) 0 30 ) ms_X7_held ml_X7_180 (by decide) rfl (Nat.le_of_ble_eq_true rfl) dX7_gives_78 ?_
        rintro _ _ rfl
        show V X (wM k b μ (va_up ν 10 (upd (upd (upd (ν 10) 0 x) 1 y) 2 z))) [(6, .int (x / 3)), (5, .int (133 + (121 * (nI w)))), (0, .ref (b 20)), (1, .int (nI w)), (2, .int x), (3, .int y), (4, .int z)] [.int (heldS (x / 3) 0 30)] 81
        refine V.goto (pc := 81) 95 hC dX7_gives_81 (by decide) ?_
        exact hR (heldS (x / 3) 0 30) (upd (upd (upd (ν 10) 0 x) 1 y) 2 z, ν 11) _ _ dX7_gives_95 rfl (ri (by rw [givesS, if_pos nc_70, rawS, if_neg (i_ge c_39), if_pos nc_52]))
  · have nc_39 : ¬ (nN (μ 0 (133 + 121 * w)) ≤ 0) := fun z => c_39 ((nle (hI.ln hw) (nl 0) (by omega) (by omega)).mpr z)
    refine V.aload_n (pc := 42) 1 hC dX7_gives_42 rfl ?_
    refine V.iload (pc := 43) 0 hC dX7_gives_43 rfl ?_
    refine V.sts (st' := [.int (nI (133 + 121 * w)), .ref (b 20)]) (stc (ncast (b := (133 + 121 * w)) (nadd (nl 133) (nmul (nl 121) rfl)) (by omega)) (stk rfl)) ?_
    refine V.callV0 (pc := 45) (as := [.int (nI (133 + 121 * w))]) hC (c_X7_works μ (va_up ν 10 (upd (upd (upd (ν 10) 0 x) 1 y) 2 z)) w hI hw (by omega)) mu_X7_works ml_X7_177 (by decide) ⟨0, 7, TX7, 20, _, rfl, gm_0⟩ rfl (Nat.le_of_ble_eq_true rfl) dX7_gives_45 ?_
    rintro _ f45_0 rfl
    show V X (wM k b μ (va_up (va_up ν 10 (upd (upd (upd (ν 10) 0 x) 1 y) 2 z)) 11 f45_0)) [(5, .int (133 + (121 * (nI w)))), (0, .ref (b 20)), (1, .int (nI w)), (2, .int x), (3, .int y), (4, .int z)] [.int (ev (acS (μ 0) w) (wiS (μ 0) w) ((upd (upd (upd (ν 10) 0 x) 1 y) 2 z)) (nN (μ 0 (133 + 121 * w))) 0 [])] 48
    refine V.goto (pc := 48) 67 hC dX7_gives_48 (by decide) ?_
    refine V.istore (pc := 67) [(6, .int (ev (acS (μ 0) w) (wiS (μ 0) w) ((upd (upd (upd (ν 10) 0 x) 1 y) 2 z)) (nN (μ 0 (133 + 121 * w))) 0 [])), (5, .int (133 + (121 * (nI w)))), (0, .ref (b 20)), (1, .int (nI w)), (2, .int x), (3, .int y), (4, .int z)] hC dX7_gives_67 (by decide) rfl ?_
    refine V.iload_n (pc := 69) 3 hC dX7_gives_69 rfl ?_
    refine V.if_ne (pc := 70) 84 hC dX7_gives_70 (by decide) (fun c_70 => ?_) (fun c_70 => ?_)
    · have nc_70 : ¬ (w = 0) := fun z => c_70 ((neq rfl (nl 0) (by omega) (by omega)).mpr z)
      refine V.iload (pc := 84) 0 hC dX7_gives_84 rfl ?_
      refine V.sipush (pc := 86) (-999) hC dX7_gives_86 (by decide) ?_
      refine V.sipush (pc := 89) 999 hC dX7_gives_89 (by decide) ?_
      refine V.callS0 (pc := 92) (as := [.int (ev (acS (μ 0) w) (wiS (μ 0) w) ((upd (upd (upd (ν 10) 0 x) 1 y) 2 z)) (nN (μ 0 (133 + 121 * w))) 0 []), .int (-999), .int 999]) hC (c_X7_held (ev (acS (μ 0) w) (wiS (μ 0) w) ((upd (upd (upd (ν 10) 0 x) 1 y) 2 z)) (nN (μ 0 (133 + 121 * w))) 0 []) (-999) 999 ) ms_X7_held ml_X7_180 (by decide) rfl (Nat.le_of_ble_eq_true rfl) dX7_gives_92 ?_
      rintro _ _ rfl
      show V X (wM k b μ (va_up (va_up ν 10 (upd (upd (upd (ν 10) 0 x) 1 y) 2 z)) 11 f45_0)) [(6, .int (ev (acS (μ 0) w) (wiS (μ 0) w) ((upd (upd (upd (ν 10) 0 x) 1 y) 2 z)) (nN (μ 0 (133 + 121 * w))) 0 [])), (5, .int (133 + (121 * (nI w)))), (0, .ref (b 20)), (1, .int (nI w)), (2, .int x), (3, .int y), (4, .int z)] [.int (heldS (ev (acS (μ 0) w) (wiS (μ 0) w) ((upd (upd (upd (ν 10) 0 x) 1 y) 2 z)) (nN (μ 0 (133 + 121 * w))) 0 []) (-999) 999)] 95
      exact hR (heldS (ev (acS (μ 0) w) (wiS (μ 0) w) ((upd (upd (upd (ν 10) 0 x) 1 y) 2 z)) (nN (μ 0 (133 + 121 * w))) 0 []) (-999) 999) (upd (upd (upd (ν 10) 0 x) 1 y) 2 z, f45_0) _ _ dX7_gives_95 rfl (ri (by rw [givesS, if_neg nc_70, rawS, if_pos (i_nle c_39), ev_fc fct3 _ _ 0 _ (hI.lw hw (by omega))]))
    · have nc_70 : w = 0 := (neq rfl (nl 0) (by omega) (by omega)).mp c_70
      refine V.iload (pc := 73) 0 hC dX7_gives_73 rfl ?_
      refine V.iconst (pc := 75) 0 hC dX7_gives_75 (by decide) ?_
      refine V.bipush (pc := 76) 30 hC dX7_gives_76 (by decide) ?_
      refine V.callS0 (pc := 78) (as := [.int (ev (acS (μ 0) w) (wiS (μ 0) w) ((upd (upd (upd (ν 10) 0 x) 1 y) 2 z)) (nN (μ 0 (133 + 121 * w))) 0 []), .int 0, .int 30]) hC (c_X7_held (ev (acS (μ 0) w) (wiS (μ 0) w) ((upd (upd (upd (ν 10) 0 x) 1 y) 2 z)) (nN (μ 0 (133 + 121 * w))) 0 []) 0 30 ) ms_X7_held ml_X7_180 (by decide) rfl (Nat.le_of_ble_eq_true rfl) dX7_gives_78 ?_
      rintro _ _ rfl
      show V X (wM k b μ (va_up (va_up ν 10 (upd (upd (upd (ν 10) 0 x) 1 y) 2 z)) 11 f45_0)) [(6, .int (ev (acS (μ 0) w) (wiS (μ 0) w) ((upd (upd (upd (ν 10) 0 x) 1 y) 2 z)) (nN (μ 0 (133 + 121 * w))) 0 [])), (5, .int (133 + (121 * (nI w)))), (0, .ref (b 20)), (1, .int (nI w)), (2, .int x), (3, .int y), (4, .int z)] [.int (heldS (ev (acS (μ 0) w) (wiS (μ 0) w) ((upd (upd (upd (ν 10) 0 x) 1 y) 2 z)) (nN (μ 0 (133 + 121 * w))) 0 []) 0 30)] 81
      refine V.goto (pc := 81) 95 hC dX7_gives_81 (by decide) ?_
      exact hR (heldS (ev (acS (μ 0) w) (wiS (μ 0) w) ((upd (upd (upd (ν 10) 0 x) 1 y) 2 z)) (nN (μ 0 (133 + 121 * w))) 0 []) 0 30) (upd (upd (upd (ν 10) 0 x) 1 y) 2 z, f45_0) _ _ dX7_gives_95 rfl (ri (by rw [givesS, if_pos nc_70, rawS, if_pos (i_nle c_39), ev_fc fct3 _ _ 0 _ (hI.lw hw (by omega))]))
set_option maxHeartbeats 4000000 in
set_option maxRecDepth 100000 in
theorem c_X7_worthOf {l : Launch} {D : va_G} {k : Nat → ClassId} {g b : Nat → Nat} (μ ν : St) (h : Nat) (t : Int32) (hI : Inv (μ 0)) (hh : h < nN (μ 0 3)) : Ct l D k g yX7_worthOf cX7_worthOf 3 (some .int) 3 72 [.ref (b 20), .int (nI h), .int t] (S := Rw × Rw) (wM k b μ ν) (fun uu => wM k b μ (va_up (va_up ν 10 uu.1) 11 uu.2)) (fun vv uu => vv = some (.int (worthS (μ 0) h t))) := by
  refine Ct.ofI RX7 rfl (by decide +kernel) (Nat.le_of_ble_eq_true rfl) (fun X hC hR => ?_)
  have hb8 := hI.mb
  show V X (wM k b μ ν) [(0, .ref (b 20)), (1, .int (nI h)), (2, .int t)] [] 0
  refine V.aload_n (pc := 0) 0 hC dX7_worthOf_0 rfl ?_
  refine V.iconst (pc := 1) 1 hC dX7_worthOf_1 (by decide) ?_
  refine V.aload_n (pc := 2) 0 hC dX7_worthOf_2 rfl ?_
  refine V.get (pc := 3) (v := .ref (b 0)) hC cf_X7 0 0 fl_X7_9 (by decide) gm_0 rfl dX7_worthOf_3 ?_
  refine V.bipush (pc := 6) 15 hC dX7_worthOf_6 (by decide) ?_
  refine V.iconst (pc := 8) 2 hC dX7_worthOf_8 (by decide) ?_
  refine V.iload_n (pc := 9) 1 hC dX7_worthOf_9 rfl ?_
  refine V.imul (pc := 10) hC dX7_worthOf_10 ?_
  refine V.iadd (pc := 11) hC dX7_worthOf_11 ?_
  refine V.iconst (pc := 12) 1 hC dX7_worthOf_12 (by decide) ?_
  refine V.iadd (pc := 13) hC dX7_worthOf_13 ?_
  refine V.iald (pc := 14) (f := μ 0) hC 1 (16 + 2 * h) gm_1 (ncast (b := 16 + 2 * h) (nadd (nadd (nl 15) (nmul (nl 2) rfl)) (nl 1)) (by omega)) (by omega) (by decide) dX7_worthOf_14 ?_
  refine V.aload_n (pc := 15) 0 hC dX7_worthOf_15 rfl ?_
  refine V.aload_n (pc := 16) 0 hC dX7_worthOf_16 rfl ?_
  refine V.get (pc := 17) (v := .ref (b 0)) hC cf_X7 0 0 fl_X7_9 (by decide) gm_0 rfl dX7_worthOf_17 ?_
  refine V.bipush (pc := 20) 15 hC dX7_worthOf_20 (by decide) ?_
  refine V.iconst (pc := 22) 2 hC dX7_worthOf_22 (by decide) ?_
  refine V.iload_n (pc := 23) 1 hC dX7_worthOf_23 rfl ?_
  refine V.imul (pc := 24) hC dX7_worthOf_24 ?_
  refine V.iadd (pc := 25) hC dX7_worthOf_25 ?_
  refine V.iald (pc := 26) (f := μ 0) hC 1 (15 + 2 * h) gm_1 (ncast (b := 15 + 2 * h) (nadd (nl 15) (nmul (nl 2) rfl)) (by omega)) (by omega) (by decide) dX7_worthOf_26 ?_
  refine V.iload_n (pc := 27) 2 hC dX7_worthOf_27 rfl ?_
  refine V.sts (st' := [.int t, .int (nI (nN (μ 0 (15 + 2 * h)))), .ref (b 20), .int (μ 0 (16 + 2 * h)), .int 1, .ref (b 20)]) (stk (stc (hI.rn hh) (stk (stk (stk (stk rfl)))))) ?_
  refine V.callV0 (pc := 28) (as := [.int (nI (nN (μ 0 (15 + 2 * h)))), .int t]) hC (c_X7_markOf μ ν (nN (μ 0 (15 + 2 * h))) t hI (hI.rb hh)) mu_X7_markOf ml_X7_51 (by decide) ⟨0, 7, TX7, 20, _, rfl, gm_0⟩ rfl (Nat.le_of_ble_eq_true rfl) dX7_worthOf_28 ?_
  rintro _ _ rfl
  show V X (wM k b μ ν) [(0, .ref (b 20)), (1, .int (nI h)), (2, .int t)] [.int (markS (μ 0) (nN (μ 0 (15 + 2 * h))) t), .int (μ 0 (16 + 2 * h)), .int 1, .ref (b 20)] 31
  refine V.iload_n (pc := 31) 1 hC dX7_worthOf_31 rfl ?_
  refine V.sts (st' := [.int (nI h), .int (markS (μ 0) (nN (μ 0 (15 + 2 * h))) t), .int (μ 0 (16 + 2 * h)), .int (nI 1), .ref (b 20)]) (stk (stk (stk (stc (nl 1) (stk rfl))))) ?_
  refine V.callV0 (pc := 32) (as := [.int (nI 1), .int (μ 0 (16 + 2 * h)), .int (markS (μ 0) (nN (μ 0 (15 + 2 * h))) t), .int (nI h)]) hC (c_X7_gives μ ν 1 (μ 0 (16 + 2 * h)) (markS (μ 0) (nN (μ 0 (15 + 2 * h))) t) (nI h) hI (by omega)) mu_X7_gives ml_X7_68 (by decide) ⟨0, 7, TX7, 20, _, rfl, gm_0⟩ rfl (Nat.le_of_ble_eq_true rfl) dX7_worthOf_32 ?_
  rintro _ ⟨f32_0, f32_1⟩ rfl
  show V X (wM k b μ (va_up (va_up ν 10 f32_0) 11 f32_1)) [(0, .ref (b 20)), (1, .int (nI h)), (2, .int t)] [.int (givesS (μ 0) 1 (μ 0 (16 + 2 * h)) (markS (μ 0) (nN (μ 0 (15 + 2 * h))) t) (nI h))] 35
  exact hR (givesS (μ 0) 1 (μ 0 (16 + 2 * h)) (markS (μ 0) (nN (μ 0 (15 + 2 * h))) t) (nI h)) (f32_0, f32_1) _ _ dX7_worthOf_35 rfl rfl
set_option maxHeartbeats 4000000 in
set_option maxRecDepth 100000 in
theorem c_X7_leapsOf {l : Launch} {D : va_G} {k : Nat → ClassId} {g b : Nat → Nat} (μ ν : St) (p : Nat) (t : Int32) (hI : Inv (μ 0)) (hp : p < 6) : Ct l D k g yX7_leapsOf cX7_leapsOf 5 (some .int) 3 72 [.ref (b 20), .int (nI p), .int t] (S := Rw × Rw) (wM k b μ ν) (fun uu => wM k b μ (va_up (va_up ν 10 uu.1) 11 uu.2)) (fun vv uu => vv = some (.int (leapsS (μ 0) p t))) := by
  refine Ct.ofI RX7 rfl (by decide +kernel) (Nat.le_of_ble_eq_true rfl) (fun X hC hR => ?_)
  show V X (wM k b μ ν) [(0, .ref (b 20)), (1, .int (nI p)), (2, .int t)] [] 0
  refine V.aload_n (pc := 0) 0 hC dX7_leapsOf_0 rfl ?_
  refine V.iload_n (pc := 1) 1 hC dX7_leapsOf_1 rfl ?_
  refine V.iconst (pc := 2) 1 hC dX7_leapsOf_2 (by decide) ?_
  refine V.sts (st' := [.int (nI 1), .int (nI p), .ref (b 20)]) (stc (nl 1) (stk (stk rfl))) ?_
  refine V.callV0 (pc := 3) (as := [.int (nI p), .int (nI 1)]) hC (c_X7_of μ ν p 1 hp (by omega)) mu_X7_of ml_X7_72 (by decide) ⟨0, 7, TX7, 20, _, rfl, gm_0⟩ rfl (Nat.le_of_ble_eq_true rfl) dX7_leapsOf_3 ?_
  rintro _ _ rfl
  show V X (wM k b μ ν) [(0, .ref (b 20)), (1, .int (nI p)), (2, .int t)] [.int (μ 0 (31 + 3 * p + 1))] 6
  refine V.eqi (y := μ 0 (32 + 3 * p)) (congrArg (μ 0) (by omega)) ?_
  refine V.istore_n (pc := 6) [(3, .int (μ 0 (32 + 3 * p))), (0, .ref (b 20)), (1, .int (nI p)), (2, .int t)] hC dX7_leapsOf_6 (by decide) rfl ?_
  refine V.aload_n (pc := 7) 1 hC dX7_leapsOf_7 rfl ?_
  refine V.iconst (pc := 8) 0 hC dX7_leapsOf_8 (by decide) ?_
  refine V.iload_n (pc := 9) 0 hC dX7_leapsOf_9 rfl ?_
  refine V.iload_n (pc := 10) 3 hC dX7_leapsOf_10 rfl ?_
  refine V.aload_n (pc := 11) 1 hC dX7_leapsOf_11 rfl ?_
  refine V.get (pc := 12) (v := .ref (b 0)) hC cf_X7 0 0 fl_X7_9 (by decide) gm_0 rfl dX7_leapsOf_12 ?_
  refine V.iconst (pc := 15) 3 hC dX7_leapsOf_15 (by decide) ?_
  refine V.iald (pc := 16) (f := μ 0) hC 1 3 gm_1 (nl 3) (by omega) (by decide) dX7_leapsOf_16 ?_
  refine V.sts (st' := [.int (μ 0 3), .int t, .int (μ 0 (32 + 3 * p)), .int (nI 0), .ref (b 20)]) (stk (stk (stk (stc (nl 0) (stk rfl))))) ?_
  refine V.callV0 (pc := 17) (as := [.int (nI 0), .int (μ 0 (32 + 3 * p)), .int t, .int (μ 0 3)]) hC (c_X7_gives μ ν 0 (μ 0 (32 + 3 * p)) t (μ 0 3) hI (by omega)) mu_X7_gives ml_X7_68 (by decide) ⟨0, 7, TX7, 20, _, rfl, gm_0⟩ rfl (Nat.le_of_ble_eq_true rfl) dX7_leapsOf_17 ?_
  rintro _ ⟨f17_0, f17_1⟩ rfl
  show V X (wM k b μ (va_up (va_up ν 10 f17_0) 11 f17_1)) [(3, .int (μ 0 (32 + 3 * p))), (0, .ref (b 20)), (1, .int (nI p)), (2, .int t)] [.int (givesS (μ 0) 0 (μ 0 (32 + 3 * p)) t (μ 0 3))] 20
  refine V.istore (pc := 20) [(4, .int (givesS (μ 0) 0 (μ 0 (32 + 3 * p)) t (μ 0 3))), (3, .int (μ 0 (32 + 3 * p))), (0, .ref (b 20)), (1, .int (nI p)), (2, .int t)] hC dX7_leapsOf_20 (by decide) rfl ?_
  refine V.aload_n (pc := 22) 2 hC dX7_leapsOf_22 rfl ?_
  refine V.iload_n (pc := 23) 3 hC dX7_leapsOf_23 rfl ?_
  refine V.iconst (pc := 24) 0 hC dX7_leapsOf_24 (by decide) ?_
  refine V.sts (st' := [.int (nI 0), .int (nI p), .ref (b 20)]) (stc (nl 0) (stk (stk rfl))) ?_
  refine V.callV0 (pc := 25) (as := [.int (nI p), .int (nI 0)]) hC (c_X7_of μ (va_up (va_up ν 10 f17_0) 11 f17_1) p 0 hp (by omega)) mu_X7_of ml_X7_72 (by decide) ⟨0, 7, TX7, 20, _, rfl, gm_0⟩ rfl (Nat.le_of_ble_eq_true rfl) dX7_leapsOf_25 ?_
  rintro _ _ rfl
  show V X (wM k b μ (va_up (va_up ν 10 f17_0) 11 f17_1)) [(4, .int (givesS (μ 0) 0 (μ 0 (32 + 3 * p)) t (μ 0 3))), (3, .int (μ 0 (32 + 3 * p))), (0, .ref (b 20)), (1, .int (nI p)), (2, .int t)] [.int (μ 0 (31 + 3 * p + 0))] 28
  refine V.eqi (y := μ 0 (31 + 3 * p)) (congrArg (μ 0) (by omega)) ?_
  by_cases s_28_1 : μ 0 (31 + 3 * p) = 1
  · refine V.tableIn (pc := 28) 68 hC dX7_leapsOf_28 (by rw [s_28_1]; decide) (by rw [s_28_1]; decide) (by rw [s_28_1]; rfl) (by decide) ?_
    refine V.iload (pc := 68) 0 hC dX7_leapsOf_68 rfl ?_
    refine V.iconst (pc := 70) 1 hC dX7_leapsOf_70 (by decide) ?_
    refine V.iadd (pc := 71) hC dX7_leapsOf_71 ?_
    exact hR ((givesS (μ 0) 0 (μ 0 (32 + 3 * p)) t (μ 0 3)) + 1) (f17_0, f17_1) _ _ dX7_leapsOf_72 rfl (ri (by simp [leapsS, leapV, irm, s_28_1]))
  by_cases s_28_2 : μ 0 (31 + 3 * p) = 2
  · refine V.tableIn (pc := 28) 73 hC dX7_leapsOf_28 (by rw [s_28_2]; decide) (by rw [s_28_2]; decide) (by rw [s_28_2]; rfl) (by decide) ?_
    refine V.iload (pc := 73) 0 hC dX7_leapsOf_73 rfl ?_
    refine V.iconst (pc := 75) 2 hC dX7_leapsOf_75 (by decide) ?_
    refine V.idiv (pc := 76) hC dX7_leapsOf_76 (by decide) ?_
    exact hR ((givesS (μ 0) 0 (μ 0 (32 + 3 * p)) t (μ 0 3)) / 2) (f17_0, f17_1) _ _ dX7_leapsOf_77 rfl (ri (by simp [leapsS, leapV, irm, s_28_2]))
  by_cases s_28_3 : μ 0 (31 + 3 * p) = 3
  · refine V.tableIn (pc := 28) 78 hC dX7_leapsOf_28 (by rw [s_28_3]; decide) (by rw [s_28_3]; decide) (by rw [s_28_3]; rfl) (by decide) ?_
    refine V.iload_n (pc := 78) 4 hC dX7_leapsOf_78 rfl ?_
    refine V.iconst (pc := 79) 2 hC dX7_leapsOf_79 (by decide) ?_
    refine V.irem (pc := 80) hC dX7_leapsOf_80 (by decide) ?_
    refine V.if_ne (pc := 81) 91 hC dX7_leapsOf_81 (by decide) (fun c_81 => ?_) (fun c_81 => ?_)
    · refine V.iload (pc := 91) 0 hC dX7_leapsOf_91 rfl ?_
      exact hR (givesS (μ 0) 0 (μ 0 (32 + 3 * p)) t (μ 0 3)) (f17_0, f17_1) _ _ dX7_leapsOf_93 rfl (ri (by simp [leapsS, leapV, irm, s_28_3, c_81]))
    · refine V.iload (pc := 84) 0 hC dX7_leapsOf_84 rfl ?_
      refine V.iconst (pc := 86) 2 hC dX7_leapsOf_86 (by decide) ?_
      refine V.iadd (pc := 87) hC dX7_leapsOf_87 ?_
      refine V.goto (pc := 88) 93 hC dX7_leapsOf_88 (by decide) ?_
      exact hR ((givesS (μ 0) 0 (μ 0 (32 + 3 * p)) t (μ 0 3)) + 2) (f17_0, f17_1) _ _ dX7_leapsOf_93 rfl (ri (by simp [leapsS, leapV, irm, s_28_3, c_81]))
  by_cases s_28_4 : μ 0 (31 + 3 * p) = 4
  · refine V.tableIn (pc := 28) 94 hC dX7_leapsOf_28 (by rw [s_28_4]; decide) (by rw [s_28_4]; decide) (by rw [s_28_4]; rfl) (by decide) ?_
    refine V.iload (pc := 94) 0 hC dX7_leapsOf_94 rfl ?_
    refine V.iconst (pc := 96) 1 hC dX7_leapsOf_96 (by decide) ?_
    refine V.iadd (pc := 97) hC dX7_leapsOf_97 ?_
    refine V.iload_n (pc := 98) 1 hC dX7_leapsOf_98 rfl ?_
    refine V.iadd (pc := 99) hC dX7_leapsOf_99 ?_
    exact hR (((givesS (μ 0) 0 (μ 0 (32 + 3 * p)) t (μ 0 3)) + 1) + (μ 0 (32 + 3 * p))) (f17_0, f17_1) _ _ dX7_leapsOf_100 rfl (ri (by simp [leapsS, leapV, irm, s_28_4]))
  by_cases s_28_5 : μ 0 (31 + 3 * p) = 5
  · refine V.tableIn (pc := 28) 101 hC dX7_leapsOf_28 (by rw [s_28_5]; decide) (by rw [s_28_5]; decide) (by rw [s_28_5]; rfl) (by decide) ?_
    refine V.iload (pc := 101) 0 hC dX7_leapsOf_101 rfl ?_
    refine V.iconst (pc := 103) 2 hC dX7_leapsOf_103 (by decide) ?_
    refine V.idiv (pc := 104) hC dX7_leapsOf_104 (by decide) ?_
    refine V.iload_n (pc := 105) 1 hC dX7_leapsOf_105 rfl ?_
    refine V.iadd (pc := 106) hC dX7_leapsOf_106 ?_
    exact hR (((givesS (μ 0) 0 (μ 0 (32 + 3 * p)) t (μ 0 3)) / 2) + (μ 0 (32 + 3 * p))) (f17_0, f17_1) _ _ dX7_leapsOf_107 rfl (ri (by simp [leapsS, leapV, irm, s_28_5]))
  by_cases s_28_6 : μ 0 (31 + 3 * p) = 6
  · refine V.tableIn (pc := 28) 108 hC dX7_leapsOf_28 (by rw [s_28_6]; decide) (by rw [s_28_6]; decide) (by rw [s_28_6]; rfl) (by decide) ?_
    refine V.bipush (pc := 108) 30 hC dX7_leapsOf_108 (by decide) ?_
    exact hR 30 (f17_0, f17_1) _ _ dX7_leapsOf_110 rfl (ri (by simp [leapsS, leapV, irm, s_28_6]))
  refine V.tableOut (pc := 28) 111 hC dX7_leapsOf_28 (by have ts_28_1 : ¬ (μ 0 (31 + 3 * p)).toInt = 1 := fun q => s_28_1 (Int32.toInt_inj.mp q); have ts_28_2 : ¬ (μ 0 (31 + 3 * p)).toInt = 2 := fun q => s_28_2 (Int32.toInt_inj.mp q); have ts_28_3 : ¬ (μ 0 (31 + 3 * p)).toInt = 3 := fun q => s_28_3 (Int32.toInt_inj.mp q); have ts_28_4 : ¬ (μ 0 (31 + 3 * p)).toInt = 4 := fun q => s_28_4 (Int32.toInt_inj.mp q); have ts_28_5 : ¬ (μ 0 (31 + 3 * p)).toInt = 5 := fun q => s_28_5 (Int32.toInt_inj.mp q); have ts_28_6 : ¬ (μ 0 (31 + 3 * p)).toInt = 6 := fun q => s_28_6 (Int32.toInt_inj.mp q); omega) (by decide) ?_
  refine V.iload (pc := 111) 0 hC dX7_leapsOf_111 rfl ?_
  exact hR (givesS (μ 0) 0 (μ 0 (32 + 3 * p)) t (μ 0 3)) (f17_0, f17_1) _ _ dX7_leapsOf_113 rfl (ri (by simp [leapsS, leapV, irm, s_28_1, s_28_2, s_28_3, s_28_4, s_28_5, s_28_6]))
set_option maxHeartbeats 4000000 in
set_option maxRecDepth 100000 in
theorem c_X7_isInReach {l : Launch} {D : va_G} {k : Nat → ClassId} {g b : Nat → Nat} (μ ν : St) (p x y : Nat) (t lp : Int32) (hI : Inv (μ 0)) (hp : p < 6) (hx : x < nN (μ 0 3)) (hy : y < nN (μ 0 3)) : Ct l D k g yX7_isInReach cX7_isInReach 8 (some .boolean) 2 47 [.ref (b 20), .int (nI p), .int (nI x), .int (nI y), .int t, .int lp] (S := Unit) (wM k b μ ν) (fun _ => wM k b μ ν) (fun vv _ => vv = some (.int (bI (reachS (μ 0) p x y t lp)))) := by
  refine Ct.ofI RX7 rfl (by decide +kernel) (Nat.le_of_ble_eq_true rfl) (fun X hC hR => ?_)
  have hb8 := hI.mb
  show V X (wM k b μ ν) [(0, .ref (b 20)), (1, .int (nI p)), (2, .int (nI x)), (3, .int (nI y)), (4, .int t), (5, .int lp)] [] 0
  refine V.aload_n (pc := 0) 0 hC dX7_isInReach_0 rfl ?_
  refine V.get (pc := 1) (v := .ref (b 0)) hC cf_X7 0 0 fl_X7_9 (by decide) gm_0 rfl dX7_isInReach_1 ?_
  refine V.bipush (pc := 4) 15 hC dX7_isInReach_4 (by decide) ?_
  refine V.iconst (pc := 6) 2 hC dX7_isInReach_6 (by decide) ?_
  refine V.iload_n (pc := 7) 2 hC dX7_isInReach_7 rfl ?_
  refine V.imul (pc := 8) hC dX7_isInReach_8 ?_
  refine V.iadd (pc := 9) hC dX7_isInReach_9 ?_
  refine V.iconst (pc := 10) 1 hC dX7_isInReach_10 (by decide) ?_
  refine V.iadd (pc := 11) hC dX7_isInReach_11 ?_
  refine V.iald (pc := 12) (f := μ 0) hC 1 (16 + 2 * x) gm_1 (ncast (b := 16 + 2 * x) (nadd (nadd (nl 15) (nmul (nl 2) rfl)) (nl 1)) (by omega)) (by omega) (by decide) dX7_isInReach_12 ?_
  refine V.aload_n (pc := 13) 0 hC dX7_isInReach_13 rfl ?_
  refine V.get (pc := 14) (v := .ref (b 0)) hC cf_X7 0 0 fl_X7_9 (by decide) gm_0 rfl dX7_isInReach_14 ?_
  refine V.bipush (pc := 17) 15 hC dX7_isInReach_17 (by decide) ?_
  refine V.iconst (pc := 19) 2 hC dX7_isInReach_19 (by decide) ?_
  refine V.iload_n (pc := 20) 3 hC dX7_isInReach_20 rfl ?_
  refine V.imul (pc := 21) hC dX7_isInReach_21 ?_
  refine V.iadd (pc := 22) hC dX7_isInReach_22 ?_
  refine V.iconst (pc := 23) 1 hC dX7_isInReach_23 (by decide) ?_
  refine V.iadd (pc := 24) hC dX7_isInReach_24 ?_
  refine V.iald (pc := 25) (f := μ 0) hC 1 (16 + 2 * y) gm_1 (ncast (b := 16 + 2 * y) (nadd (nadd (nl 15) (nmul (nl 2) rfl)) (nl 1)) (by omega)) (by omega) (by decide) dX7_isInReach_25 ?_
  refine V.isub (pc := 26) hC dX7_isInReach_26 ?_
  refine V.istore (pc := 27) [(6, .int ((μ 0 (16 + 2 * x)) - (μ 0 (16 + 2 * y)))), (0, .ref (b 20)), (1, .int (nI p)), (2, .int (nI x)), (3, .int (nI y)), (4, .int t), (5, .int lp)] hC dX7_isInReach_27 (by decide) rfl ?_
  refine V.iload (pc := 29) 0 hC dX7_isInReach_29 rfl ?_
  refine V.if_ge (pc := 31) 40 hC dX7_isInReach_31 (by decide) (fun c_31 => ?_) (fun c_31 => ?_)
  · refine V.iload (pc := 40) 0 hC dX7_isInReach_40 rfl ?_
    refine V.aload_n (pc := 42) 1 hC dX7_isInReach_42 rfl ?_
    refine V.iload_n (pc := 43) 2 hC dX7_isInReach_43 rfl ?_
    refine V.callV0 (pc := 44) (as := [.int (nI p)]) hC (c_X7_spansOf μ ν p hp) mu_X7_spansOf ml_X7_87 (by decide) ⟨0, 7, TX7, 20, _, rfl, gm_0⟩ rfl (Nat.le_of_ble_eq_true rfl) dX7_isInReach_44 ?_
    rintro _ _ rfl
    show V X (wM k b μ ν) [(6, .int ((μ 0 (16 + 2 * x)) - (μ 0 (16 + 2 * y)))), (0, .ref (b 20)), (1, .int (nI p)), (2, .int (nI x)), (3, .int (nI y)), (4, .int t), (5, .int lp)] [.int (spansS (μ 0) p), .int ((μ 0 (16 + 2 * x)) - (μ 0 (16 + 2 * y)))] 47
    refine V.icmp_gt (pc := 47) 54 hC dX7_isInReach_47 (by decide) (fun c_47 => ?_) (fun c_47 => ?_)
    · refine V.iconst (pc := 54) 0 hC dX7_isInReach_54 (by decide) ?_
      refine V.istore (pc := 55) [(7, .int 0), (6, .int ((μ 0 (16 + 2 * x)) - (μ 0 (16 + 2 * y)))), (0, .ref (b 20)), (1, .int (nI p)), (2, .int (nI x)), (3, .int (nI y)), (4, .int t), (5, .int lp)] hC dX7_isInReach_55 (by decide) rfl ?_
      refine V.iload (pc := 57) 0 hC dX7_isInReach_57 rfl ?_
      refine V.if_eq (pc := 59) 99 hC dX7_isInReach_59 (by decide) (fun c_59 => ?_) (fun c_59 => ?_)
      · have nc_59 : 0 = 0 := (neq (nl 0) (nl 0) (by omega) (by omega)).mp c_59
        refine V.iconst (pc := 99) 0 hC dX7_isInReach_99 (by decide) ?_
        exact hR 0 () _ _ dX7_isInReach_100 (by first | rfl | exact bI_n _) (rb0 (fun h => by have h1 := h.1; rw [absS, if_neg (i_ge c_31)] at h1; exact i_ge h1 c_47))
      · have nc_59 : ¬ (0 = 0) := fun z => c_59 ((neq (nl 0) (nl 0) (by omega) (by omega)).mpr z)
        exact absurd c_59 (by decide)
    · refine V.iconst (pc := 50) 1 hC dX7_isInReach_50 (by decide) ?_
      refine V.goto (pc := 51) 55 hC dX7_isInReach_51 (by decide) ?_
      refine V.istore (pc := 55) [(7, .int 1), (6, .int ((μ 0 (16 + 2 * x)) - (μ 0 (16 + 2 * y)))), (0, .ref (b 20)), (1, .int (nI p)), (2, .int (nI x)), (3, .int (nI y)), (4, .int t), (5, .int lp)] hC dX7_isInReach_55 (by decide) rfl ?_
      refine V.iload (pc := 57) 0 hC dX7_isInReach_57 rfl ?_
      refine V.if_eq (pc := 59) 99 hC dX7_isInReach_59 (by decide) (fun c_59 => ?_) (fun c_59 => ?_)
      · have nc_59 : 1 = 0 := (neq (nl 1) (nl 0) (by omega) (by omega)).mp c_59
        exact absurd c_59 (by decide)
      · have nc_59 : ¬ (1 = 0) := fun z => c_59 ((neq (nl 1) (nl 0) (by omega) (by omega)).mpr z)
        refine V.aload_n (pc := 62) 2 hC dX7_isInReach_62 rfl ?_
        refine V.aload_n (pc := 63) 2 hC dX7_isInReach_63 rfl ?_
        refine V.get (pc := 64) (v := .ref (b 0)) hC cf_X7 0 0 fl_X7_9 (by decide) gm_0 rfl dX7_isInReach_64 ?_
        refine V.bipush (pc := 67) 15 hC dX7_isInReach_67 (by decide) ?_
        refine V.iconst (pc := 69) 2 hC dX7_isInReach_69 (by decide) ?_
        refine V.iload_n (pc := 70) 4 hC dX7_isInReach_70 rfl ?_
        refine V.imul (pc := 71) hC dX7_isInReach_71 ?_
        refine V.iadd (pc := 72) hC dX7_isInReach_72 ?_
        refine V.iald (pc := 73) (f := μ 0) hC 1 (15 + 2 * x) gm_1 (ncast (b := 15 + 2 * x) (nadd (nl 15) (nmul (nl 2) rfl)) (by omega)) (by omega) (by decide) dX7_isInReach_73 ?_
        refine V.aload_n (pc := 74) 2 hC dX7_isInReach_74 rfl ?_
        refine V.get (pc := 75) (v := .ref (b 0)) hC cf_X7 0 0 fl_X7_9 (by decide) gm_0 rfl dX7_isInReach_75 ?_
        refine V.bipush (pc := 78) 15 hC dX7_isInReach_78 (by decide) ?_
        refine V.iconst (pc := 80) 2 hC dX7_isInReach_80 (by decide) ?_
        refine V.iload_n (pc := 81) 5 hC dX7_isInReach_81 rfl ?_
        refine V.imul (pc := 82) hC dX7_isInReach_82 ?_
        refine V.iadd (pc := 83) hC dX7_isInReach_83 ?_
        refine V.iald (pc := 84) (f := μ 0) hC 1 (15 + 2 * y) gm_1 (ncast (b := 15 + 2 * y) (nadd (nl 15) (nmul (nl 2) rfl)) (by omega)) (by omega) (by decide) dX7_isInReach_84 ?_
        refine V.iload (pc := 85) 6 hC dX7_isInReach_85 rfl ?_
        refine V.sts (st' := [.int t, .int (nI (nN (μ 0 (15 + 2 * y)))), .int (nI (nN (μ 0 (15 + 2 * x)))), .ref (b 20)]) (stk (stc (hI.rn hy) (stc (hI.rn hx) (stk rfl)))) ?_
        refine V.callV0 (pc := 87) (as := [.int (nI (nN (μ 0 (15 + 2 * x)))), .int (nI (nN (μ 0 (15 + 2 * y)))), .int t]) hC (c_X7_apart μ ν (nN (μ 0 (15 + 2 * x))) (nN (μ 0 (15 + 2 * y))) t hI (hI.rb hx) (hI.rb hy)) mu_X7_apart ml_X7_90 (by decide) ⟨0, 7, TX7, 20, _, rfl, gm_0⟩ rfl (Nat.le_of_ble_eq_true rfl) dX7_isInReach_87 ?_
        rintro _ _ rfl
        show V X (wM k b μ ν) [(7, .int 1), (6, .int ((μ 0 (16 + 2 * x)) - (μ 0 (16 + 2 * y)))), (0, .ref (b 20)), (1, .int (nI p)), (2, .int (nI x)), (3, .int (nI y)), (4, .int t), (5, .int lp)] [.int (apartS (μ 0) (nN (μ 0 (15 + 2 * x))) (nN (μ 0 (15 + 2 * y))) t)] 90
        refine V.iload (pc := 90) 7 hC dX7_isInReach_90 rfl ?_
        refine V.icmp_gt (pc := 92) 99 hC dX7_isInReach_92 (by decide) (fun c_92 => ?_) (fun c_92 => ?_)
        · refine V.iconst (pc := 99) 0 hC dX7_isInReach_99 (by decide) ?_
          exact hR 0 () _ _ dX7_isInReach_100 (by first | rfl | exact bI_n _) (rb0 (fun h => i_ge h.2 c_92))
        · refine V.iconst (pc := 95) 1 hC dX7_isInReach_95 (by decide) ?_
          refine V.goto (pc := 96) 100 hC dX7_isInReach_96 (by decide) ?_
          exact hR 1 () _ _ dX7_isInReach_100 (by first | rfl | exact bI_n _) (rb1 ⟨by rw [absS, if_neg (i_ge c_31)]; exact i_nlt c_47, i_nlt c_92⟩)
  · refine V.iload (pc := 34) 0 hC dX7_isInReach_34 rfl ?_
    refine V.ineg (pc := 36) hC dX7_isInReach_36 ?_
    refine V.goto (pc := 37) 42 hC dX7_isInReach_37 (by decide) ?_
    refine V.aload_n (pc := 42) 1 hC dX7_isInReach_42 rfl ?_
    refine V.iload_n (pc := 43) 2 hC dX7_isInReach_43 rfl ?_
    refine V.callV0 (pc := 44) (as := [.int (nI p)]) hC (c_X7_spansOf μ ν p hp) mu_X7_spansOf ml_X7_87 (by decide) ⟨0, 7, TX7, 20, _, rfl, gm_0⟩ rfl (Nat.le_of_ble_eq_true rfl) dX7_isInReach_44 ?_
    rintro _ _ rfl
    show V X (wM k b μ ν) [(6, .int ((μ 0 (16 + 2 * x)) - (μ 0 (16 + 2 * y)))), (0, .ref (b 20)), (1, .int (nI p)), (2, .int (nI x)), (3, .int (nI y)), (4, .int t), (5, .int lp)] [.int (spansS (μ 0) p), .int (-((μ 0 (16 + 2 * x)) - (μ 0 (16 + 2 * y))))] 47
    refine V.icmp_gt (pc := 47) 54 hC dX7_isInReach_47 (by decide) (fun c_47 => ?_) (fun c_47 => ?_)
    · refine V.iconst (pc := 54) 0 hC dX7_isInReach_54 (by decide) ?_
      refine V.istore (pc := 55) [(7, .int 0), (6, .int ((μ 0 (16 + 2 * x)) - (μ 0 (16 + 2 * y)))), (0, .ref (b 20)), (1, .int (nI p)), (2, .int (nI x)), (3, .int (nI y)), (4, .int t), (5, .int lp)] hC dX7_isInReach_55 (by decide) rfl ?_
      refine V.iload (pc := 57) 0 hC dX7_isInReach_57 rfl ?_
      refine V.if_eq (pc := 59) 99 hC dX7_isInReach_59 (by decide) (fun c_59 => ?_) (fun c_59 => ?_)
      · have nc_59 : 0 = 0 := (neq (nl 0) (nl 0) (by omega) (by omega)).mp c_59
        refine V.iconst (pc := 99) 0 hC dX7_isInReach_99 (by decide) ?_
        exact hR 0 () _ _ dX7_isInReach_100 (by first | rfl | exact bI_n _) (rb0 (fun h => by have h1 := h.1; rw [absS, if_pos (i_nle c_31)] at h1; exact i_ge h1 c_47))
      · have nc_59 : ¬ (0 = 0) := fun z => c_59 ((neq (nl 0) (nl 0) (by omega) (by omega)).mpr z)
        exact absurd c_59 (by decide)
    · refine V.iconst (pc := 50) 1 hC dX7_isInReach_50 (by decide) ?_
      refine V.goto (pc := 51) 55 hC dX7_isInReach_51 (by decide) ?_
      refine V.istore (pc := 55) [(7, .int 1), (6, .int ((μ 0 (16 + 2 * x)) - (μ 0 (16 + 2 * y)))), (0, .ref (b 20)), (1, .int (nI p)), (2, .int (nI x)), (3, .int (nI y)), (4, .int t), (5, .int lp)] hC dX7_isInReach_55 (by decide) rfl ?_
      refine V.iload (pc := 57) 0 hC dX7_isInReach_57 rfl ?_
      refine V.if_eq (pc := 59) 99 hC dX7_isInReach_59 (by decide) (fun c_59 => ?_) (fun c_59 => ?_)
      · have nc_59 : 1 = 0 := (neq (nl 1) (nl 0) (by omega) (by omega)).mp c_59
        exact absurd c_59 (by decide)
      · have nc_59 : ¬ (1 = 0) := fun z => c_59 ((neq (nl 1) (nl 0) (by omega) (by omega)).mpr z)
        refine V.aload_n (pc := 62) 2 hC dX7_isInReach_62 rfl ?_
        refine V.aload_n (pc := 63) 2 hC dX7_isInReach_63 rfl ?_
        refine V.get (pc := 64) (v := .ref (b 0)) hC cf_X7 0 0 fl_X7_9 (by decide) gm_0 rfl dX7_isInReach_64 ?_
        refine V.bipush (pc := 67) 15 hC dX7_isInReach_67 (by decide) ?_
        refine V.iconst (pc := 69) 2 hC dX7_isInReach_69 (by decide) ?_
        refine V.iload_n (pc := 70) 4 hC dX7_isInReach_70 rfl ?_
        refine V.imul (pc := 71) hC dX7_isInReach_71 ?_
        refine V.iadd (pc := 72) hC dX7_isInReach_72 ?_
        refine V.iald (pc := 73) (f := μ 0) hC 1 (15 + 2 * x) gm_1 (ncast (b := 15 + 2 * x) (nadd (nl 15) (nmul (nl 2) rfl)) (by omega)) (by omega) (by decide) dX7_isInReach_73 ?_
        refine V.aload_n (pc := 74) 2 hC dX7_isInReach_74 rfl ?_
        refine V.get (pc := 75) (v := .ref (b 0)) hC cf_X7 0 0 fl_X7_9 (by decide) gm_0 rfl dX7_isInReach_75 ?_
        refine V.bipush (pc := 78) 15 hC dX7_isInReach_78 (by decide) ?_
        refine V.iconst (pc := 80) 2 hC dX7_isInReach_80 (by decide) ?_
        refine V.iload_n (pc := 81) 5 hC dX7_isInReach_81 rfl ?_
        refine V.imul (pc := 82) hC dX7_isInReach_82 ?_
        refine V.iadd (pc := 83) hC dX7_isInReach_83 ?_
        refine V.iald (pc := 84) (f := μ 0) hC 1 (15 + 2 * y) gm_1 (ncast (b := 15 + 2 * y) (nadd (nl 15) (nmul (nl 2) rfl)) (by omega)) (by omega) (by decide) dX7_isInReach_84 ?_
        refine V.iload (pc := 85) 6 hC dX7_isInReach_85 rfl ?_
        refine V.sts (st' := [.int t, .int (nI (nN (μ 0 (15 + 2 * y)))), .int (nI (nN (μ 0 (15 + 2 * x)))), .ref (b 20)]) (stk (stc (hI.rn hy) (stc (hI.rn hx) (stk rfl)))) ?_
        refine V.callV0 (pc := 87) (as := [.int (nI (nN (μ 0 (15 + 2 * x)))), .int (nI (nN (μ 0 (15 + 2 * y)))), .int t]) hC (c_X7_apart μ ν (nN (μ 0 (15 + 2 * x))) (nN (μ 0 (15 + 2 * y))) t hI (hI.rb hx) (hI.rb hy)) mu_X7_apart ml_X7_90 (by decide) ⟨0, 7, TX7, 20, _, rfl, gm_0⟩ rfl (Nat.le_of_ble_eq_true rfl) dX7_isInReach_87 ?_
        rintro _ _ rfl
        show V X (wM k b μ ν) [(7, .int 1), (6, .int ((μ 0 (16 + 2 * x)) - (μ 0 (16 + 2 * y)))), (0, .ref (b 20)), (1, .int (nI p)), (2, .int (nI x)), (3, .int (nI y)), (4, .int t), (5, .int lp)] [.int (apartS (μ 0) (nN (μ 0 (15 + 2 * x))) (nN (μ 0 (15 + 2 * y))) t)] 90
        refine V.iload (pc := 90) 7 hC dX7_isInReach_90 rfl ?_
        refine V.icmp_gt (pc := 92) 99 hC dX7_isInReach_92 (by decide) (fun c_92 => ?_) (fun c_92 => ?_)
        · refine V.iconst (pc := 99) 0 hC dX7_isInReach_99 (by decide) ?_
          exact hR 0 () _ _ dX7_isInReach_100 (by first | rfl | exact bI_n _) (rb0 (fun h => i_ge h.2 c_92))
        · refine V.iconst (pc := 95) 1 hC dX7_isInReach_95 (by decide) ?_
          refine V.goto (pc := 96) 100 hC dX7_isInReach_96 (by decide) ?_
          exact hR 1 () _ _ dX7_isInReach_100 (by first | rfl | exact bI_n _) (rb1 ⟨by rw [absS, if_pos (i_nle c_31)]; exact i_nlt c_47, i_nlt c_92⟩)
set_option maxHeartbeats 4000000 in
set_option maxRecDepth 100000 in
theorem c_X7_doesGet {l : Launch} {D : va_G} {k : Nat → ClassId} {g b : Nat → Nat} (μ ν : St) (p x y : Nat) (t : Int32) (hI : Inv (μ 0)) (hp : p < 6) (hx : x < nN (μ 0 3)) (hy : y < nN (μ 0 3)) : Ct l D k g yX7_doesGet cX7_doesGet 5 (some .boolean) 4 96 [.ref (b 20), .int (nI p), .int (nI x), .int (nI y), .int t] (S := Rw × Rw) (wM k b μ ν) (fun uu => wM k b μ (va_up (va_up ν 10 uu.1) 11 uu.2)) (fun vv uu => vv = some (.int (bI (getsS (μ 0) p x y t)))) := by
  refine Ct.ofI RX7 rfl (by decide +kernel) (Nat.le_of_ble_eq_true rfl) (fun X hC hR => ?_)
  show V X (wM k b μ ν) [(0, .ref (b 20)), (1, .int (nI p)), (2, .int (nI x)), (3, .int (nI y)), (4, .int t)] [] 0
  refine V.aload_n (pc := 0) 0 hC dX7_doesGet_0 rfl ?_
  refine V.iload_n (pc := 1) 1 hC dX7_doesGet_1 rfl ?_
  refine V.iload_n (pc := 2) 2 hC dX7_doesGet_2 rfl ?_
  refine V.iload_n (pc := 3) 3 hC dX7_doesGet_3 rfl ?_
  refine V.iload (pc := 4) 4 hC dX7_doesGet_4 rfl ?_
  refine V.aload_n (pc := 6) 0 hC dX7_doesGet_6 rfl ?_
  refine V.iload_n (pc := 7) 1 hC dX7_doesGet_7 rfl ?_
  refine V.iload (pc := 8) 4 hC dX7_doesGet_8 rfl ?_
  refine V.callV0 (pc := 10) (as := [.int (nI p), .int t]) hC (c_X7_leapsOf μ ν p t hI hp) mu_X7_leapsOf ml_X7_94 (by decide) ⟨0, 7, TX7, 20, _, rfl, gm_0⟩ rfl (Nat.le_of_ble_eq_true rfl) dX7_doesGet_10 ?_
  rintro _ ⟨f10_0, f10_1⟩ rfl
  show V X (wM k b μ (va_up (va_up ν 10 f10_0) 11 f10_1)) [(0, .ref (b 20)), (1, .int (nI p)), (2, .int (nI x)), (3, .int (nI y)), (4, .int t)] [.int (leapsS (μ 0) p t), .int t, .int (nI y), .int (nI x), .int (nI p), .ref (b 20)] 13
  refine V.callV0 (pc := 13) (as := [.int (nI p), .int (nI x), .int (nI y), .int t, .int (leapsS (μ 0) p t)]) hC (c_X7_isInReach μ (va_up (va_up ν 10 f10_0) 11 f10_1) p x y t (leapsS (μ 0) p t) hI hp hx hy) mu_X7_isInReach ml_X7_97 (by decide) ⟨0, 7, TX7, 20, _, rfl, gm_0⟩ rfl (Nat.le_of_ble_eq_true rfl) dX7_doesGet_13 ?_
  rintro _ _ rfl
  show V X (wM k b μ (va_up (va_up ν 10 f10_0) 11 f10_1)) [(0, .ref (b 20)), (1, .int (nI p)), (2, .int (nI x)), (3, .int (nI y)), (4, .int t)] [.int (bI (reachS (μ 0) p x y t (leapsS (μ 0) p t)))] 16
  exact hR (bI (reachS (μ 0) p x y t (leapsS (μ 0) p t))) (f10_0, f10_1) _ _ dX7_doesGet_16 (by first | rfl | exact bI_n _) rfl
set_option maxHeartbeats 4000000 in
set_option maxRecDepth 100000 in
theorem c_X7_onward {l : Launch} {D : va_G} {k : Nat → ClassId} {g b : Nat → Nat} (μ ν : St) (p : Nat) (set t : Int32) (hI : Inv (μ 0)) (hp : p < 6) : Ct l D k g yX7_onward cX7_onward 9 (some .int) 4 96 [.ref (b 20), .int (nI p), .int set, .int t] (S := Rw × Rw) (wM k b μ ν) (fun uu => wM k b μ (va_up (va_up ν 10 uu.1) 11 uu.2)) (fun vv uu => vv = some (.int (onwardS (μ 0) p set t))) := by
  refine Ct.ofI RX7 rfl (by decide +kernel) (Nat.le_of_ble_eq_true rfl) (fun X hC hR => ?_)
  have hb8 := hI.mb
  show V X (wM k b μ ν) [(0, .ref (b 20)), (1, .int (nI p)), (2, .int set), (3, .int t)] [] 0
  refine V.aload_n (pc := 0) 0 hC dX7_onward_0 rfl ?_
  refine V.iload_n (pc := 1) 1 hC dX7_onward_1 rfl ?_
  refine V.iload_n (pc := 2) 3 hC dX7_onward_2 rfl ?_
  refine V.callV0 (pc := 3) (as := [.int (nI p), .int t]) hC (c_X7_leapsOf μ ν p t hI hp) mu_X7_leapsOf ml_X7_94 (by decide) ⟨0, 7, TX7, 20, _, rfl, gm_0⟩ rfl (Nat.le_of_ble_eq_true rfl) dX7_onward_3 ?_
  rintro _ ⟨f3_0, f3_1⟩ rfl
  show V X (wM k b μ (va_up (va_up ν 10 f3_0) 11 f3_1)) [(0, .ref (b 20)), (1, .int (nI p)), (2, .int set), (3, .int t)] [.int (leapsS (μ 0) p t)] 6
  refine V.istore (pc := 6) [(4, .int (leapsS (μ 0) p t)), (0, .ref (b 20)), (1, .int (nI p)), (2, .int set), (3, .int t)] hC dX7_onward_6 (by decide) rfl ?_
  refine V.iload_n (pc := 8) 3 hC dX7_onward_8 rfl ?_
  refine V.istore (pc := 9) [(5, .int set), (4, .int (leapsS (μ 0) p t)), (0, .ref (b 20)), (1, .int (nI p)), (2, .int set), (3, .int t)] hC dX7_onward_9 (by decide) rfl ?_
  refine V.iconst (pc := 11) 0 hC dX7_onward_11 (by decide) ?_
  refine V.istore (pc := 12) [(6, .int 0), (5, .int set), (4, .int (leapsS (μ 0) p t)), (0, .ref (b 20)), (1, .int (nI p)), (2, .int set), (3, .int t)] hC dX7_onward_12 (by decide) rfl ?_
  have loop_14 : ∀ (n : Nat) (i : Nat) (s : Int32), i + n = nN (μ 0 3) → onwardS (μ 0) p set t = run (fun x nx => run (onwF (μ 0) p set t (leapsS (μ 0) p t) x) (nN (μ 0 3)) 0 nx) n i s → V X (wM k b μ (va_up (va_up ν 10 f3_0) 11 f3_1)) [(4, .int (leapsS (μ 0) p t)), (0, .ref (b 20)), (1, .int (nI p)), (2, .int set), (3, .int t), (5, .int s), (6, .int (nI i))] [] 14 := by
    intro n
    induction n with
    | zero =>
      intro i s hi hv
      refine V.iload (pc := 14) 6 hC dX7_onward_14 rfl ?_
      refine V.aload_n (pc := 16) 1 hC dX7_onward_16 rfl ?_
      refine V.get (pc := 17) (v := .ref (b 0)) hC cf_X7 0 0 fl_X7_9 (by decide) gm_0 rfl dX7_onward_17 ?_
      refine V.iconst (pc := 20) 3 hC dX7_onward_20 (by decide) ?_
      refine V.iald (pc := 21) (f := μ 0) hC 1 3 gm_1 (nl 3) (by omega) (by decide) dX7_onward_21 ?_
      refine V.icmp_ge (pc := 22) 111 hC dX7_onward_22 (by decide) (fun c_22 => ?_) (fun c_22 => ?_)
      · have nc_22 : nN (μ 0 3) ≤ i := (nle hI.mn rfl (by omega) (by omega)).mp c_22
        refine V.iload (pc := 111) 5 hC dX7_onward_111 rfl ?_
        exact hR s (f3_0, f3_1) _ _ dX7_onward_113 rfl (ri hv.symm)
      · have nc_22 : ¬ (nN (μ 0 3) ≤ i) := fun z => c_22 ((nle hI.mn rfl (by omega) (by omega)).mpr z)
        exfalso; omega
    | succ n ih =>
      intro i s hi hv
      refine V.iload (pc := 14) 6 hC dX7_onward_14 rfl ?_
      refine V.aload_n (pc := 16) 1 hC dX7_onward_16 rfl ?_
      refine V.get (pc := 17) (v := .ref (b 0)) hC cf_X7 0 0 fl_X7_9 (by decide) gm_0 rfl dX7_onward_17 ?_
      refine V.iconst (pc := 20) 3 hC dX7_onward_20 (by decide) ?_
      refine V.iald (pc := 21) (f := μ 0) hC 1 3 gm_1 (nl 3) (by omega) (by decide) dX7_onward_21 ?_
      refine V.icmp_ge (pc := 22) 111 hC dX7_onward_22 (by decide) (fun c_22 => ?_) (fun c_22 => ?_)
      · have nc_22 : nN (μ 0 3) ≤ i := (nle hI.mn rfl (by omega) (by omega)).mp c_22
        exfalso; omega
      · have nc_22 : ¬ (nN (μ 0 3) ≤ i) := fun z => c_22 ((nle hI.mn rfl (by omega) (by omega)).mpr z)
        refine V.iconst (pc := 25) 0 hC dX7_onward_25 (by decide) ?_
        refine V.istore (pc := 26) [(7, .int 0), (4, .int (leapsS (μ 0) p t)), (0, .ref (b 20)), (1, .int (nI p)), (2, .int set), (3, .int t), (5, .int s), (6, .int (nI i))] hC dX7_onward_26 (by decide) rfl ?_
        have loop_28 : ∀ (n : Nat) (j : Nat) (r : Int32), j + n = nN (μ 0 3) → run (onwF (μ 0) p set t (leapsS (μ 0) p t) i) (nN (μ 0 3)) 0 s = run (onwF (μ 0) p set t (leapsS (μ 0) p t) i) n j r → V X (wM k b μ (va_up (va_up ν 10 f3_0) 11 f3_1)) [(4, .int (leapsS (μ 0) p t)), (0, .ref (b 20)), (1, .int (nI p)), (2, .int set), (3, .int t), (6, .int (nI i)), (5, .int r), (7, .int (nI j))] [] 28 := by
          intro n
          induction n with
          | zero =>
            intro j r hj hw
            refine V.iload (pc := 28) 7 hC dX7_onward_28 rfl ?_
            refine V.aload_n (pc := 30) 1 hC dX7_onward_30 rfl ?_
            refine V.get (pc := 31) (v := .ref (b 0)) hC cf_X7 0 0 fl_X7_9 (by decide) gm_0 rfl dX7_onward_31 ?_
            refine V.iconst (pc := 34) 3 hC dX7_onward_34 (by decide) ?_
            refine V.iald (pc := 35) (f := μ 0) hC 1 3 gm_1 (nl 3) (by omega) (by decide) dX7_onward_35 ?_
            refine V.icmp_ge (pc := 36) 105 hC dX7_onward_36 (by decide) (fun c_36 => ?_) (fun c_36 => ?_)
            · have nc_36 : nN (μ 0 3) ≤ j := (nle hI.mn rfl (by omega) (by omega)).mp c_36
              refine V.iinc (pc := 105) 5 (nI (i + 1)) [(6, .int (nI (i + 1))), (4, .int (leapsS (μ 0) p t)), (0, .ref (b 20)), (1, .int (nI p)), (2, .int set), (3, .int t), (5, .int r), (7, .int (nI j))] hC dX7_onward_105 rfl (ncast (nadd rfl (nl 1)) (by omega)) (by decide) rfl ?_
              refine V.goto (pc := 108) 14 hC dX7_onward_108 (by decide) ?_
              exact V.sub [1, 2, 3, 4, 5, 6, 0] rfl (ih (i + 1) r (by omega) (run_next hv hw))
            · have nc_36 : ¬ (nN (μ 0 3) ≤ j) := fun z => c_36 ((nle hI.mn rfl (by omega) (by omega)).mpr z)
              exfalso; omega
          | succ n ih =>
            intro j r hj hw
            refine V.iload (pc := 28) 7 hC dX7_onward_28 rfl ?_
            refine V.aload_n (pc := 30) 1 hC dX7_onward_30 rfl ?_
            refine V.get (pc := 31) (v := .ref (b 0)) hC cf_X7 0 0 fl_X7_9 (by decide) gm_0 rfl dX7_onward_31 ?_
            refine V.iconst (pc := 34) 3 hC dX7_onward_34 (by decide) ?_
            refine V.iald (pc := 35) (f := μ 0) hC 1 3 gm_1 (nl 3) (by omega) (by decide) dX7_onward_35 ?_
            refine V.icmp_ge (pc := 36) 105 hC dX7_onward_36 (by decide) (fun c_36 => ?_) (fun c_36 => ?_)
            · have nc_36 : nN (μ 0 3) ≤ j := (nle hI.mn rfl (by omega) (by omega)).mp c_36
              exfalso; omega
            · have nc_36 : ¬ (nN (μ 0 3) ≤ j) := fun z => c_36 ((nle hI.mn rfl (by omega) (by omega)).mpr z)
              refine V.iload_n (pc := 39) 3 hC dX7_onward_39 rfl ?_
              refine V.iload (pc := 40) 5 hC dX7_onward_40 rfl ?_
              refine V.ishr (pc := 42) hC dX7_onward_42 ?_
              refine V.iconst (pc := 43) 1 hC dX7_onward_43 (by decide) ?_
              refine V.iand (pc := 44) hC dX7_onward_44 ?_
              refine V.iconst (pc := 45) 1 hC dX7_onward_45 (by decide) ?_
              refine V.icmp_ne (pc := 46) 63 hC dX7_onward_46 (by decide) (fun c_46 => ?_) (fun c_46 => ?_)
              · refine V.iconst (pc := 63) 0 hC dX7_onward_63 (by decide) ?_
                refine V.istore (pc := 64) [(8, .int 0), (4, .int (leapsS (μ 0) p t)), (0, .ref (b 20)), (1, .int (nI p)), (2, .int set), (3, .int t), (6, .int (nI i)), (5, .int r), (7, .int (nI j))] hC dX7_onward_64 (by decide) rfl ?_
                refine V.iload (pc := 66) 7 hC dX7_onward_66 rfl ?_
                refine V.iload (pc := 68) 0 hC dX7_onward_68 rfl ?_
                refine V.if_eq (pc := 70) 95 hC dX7_onward_70 (by decide) (fun c_70 => ?_) (fun c_70 => ?_)
                · have nc_70 : 0 = 0 := (neq (nl 0) (nl 0) (by omega) (by omega)).mp c_70
                  refine V.iconst (pc := 95) 0 hC dX7_onward_95 (by decide) ?_
                  refine V.ior (pc := 96) hC dX7_onward_96 ?_
                  refine V.istore (pc := 97) [(5, .int (r ||| 0)), (8, .int 0), (4, .int (leapsS (μ 0) p t)), (0, .ref (b 20)), (1, .int (nI p)), (2, .int set), (3, .int t), (6, .int (nI i)), (7, .int (nI j))] hC dX7_onward_97 (by decide) rfl ?_
                  refine V.iinc (pc := 99) 8 (nI (j + 1)) [(7, .int (nI (j + 1))), (5, .int (r ||| 0)), (8, .int 0), (4, .int (leapsS (μ 0) p t)), (0, .ref (b 20)), (1, .int (nI p)), (2, .int set), (3, .int t), (6, .int (nI i))] hC dX7_onward_99 rfl (ncast (nadd rfl (nl 1)) (by omega)) (by decide) rfl ?_
                  refine V.goto (pc := 102) 28 hC dX7_onward_102 (by decide) ?_
                  exact V.sub [3, 4, 5, 6, 7, 8, 1, 0] rfl (ih (j + 1) (r ||| 0) (by omega) (run_next hw (by show r ||| _ = _; rw [if_neg (fun h => c_46 h.1.1)] <;> rfl)))
                · have nc_70 : ¬ (0 = 0) := fun z => c_70 ((neq (nl 0) (nl 0) (by omega) (by omega)).mpr z)
                  exact absurd c_70 (by decide)
              · refine V.iload (pc := 49) 6 hC dX7_onward_49 rfl ?_
                refine V.iload (pc := 51) 7 hC dX7_onward_51 rfl ?_
                refine V.ishr (pc := 53) hC dX7_onward_53 ?_
                refine V.iconst (pc := 54) 1 hC dX7_onward_54 (by decide) ?_
                refine V.iand (pc := 55) hC dX7_onward_55 ?_
                refine V.if_ne (pc := 56) 63 hC dX7_onward_56 (by decide) (fun c_56 => ?_) (fun c_56 => ?_)
                · refine V.iconst (pc := 63) 0 hC dX7_onward_63 (by decide) ?_
                  refine V.istore (pc := 64) [(8, .int 0), (4, .int (leapsS (μ 0) p t)), (0, .ref (b 20)), (1, .int (nI p)), (2, .int set), (3, .int t), (6, .int (nI i)), (5, .int r), (7, .int (nI j))] hC dX7_onward_64 (by decide) rfl ?_
                  refine V.iload (pc := 66) 7 hC dX7_onward_66 rfl ?_
                  refine V.iload (pc := 68) 0 hC dX7_onward_68 rfl ?_
                  refine V.if_eq (pc := 70) 95 hC dX7_onward_70 (by decide) (fun c_70 => ?_) (fun c_70 => ?_)
                  · have nc_70 : 0 = 0 := (neq (nl 0) (nl 0) (by omega) (by omega)).mp c_70
                    refine V.iconst (pc := 95) 0 hC dX7_onward_95 (by decide) ?_
                    refine V.ior (pc := 96) hC dX7_onward_96 ?_
                    refine V.istore (pc := 97) [(5, .int (r ||| 0)), (8, .int 0), (4, .int (leapsS (μ 0) p t)), (0, .ref (b 20)), (1, .int (nI p)), (2, .int set), (3, .int t), (6, .int (nI i)), (7, .int (nI j))] hC dX7_onward_97 (by decide) rfl ?_
                    refine V.iinc (pc := 99) 8 (nI (j + 1)) [(7, .int (nI (j + 1))), (5, .int (r ||| 0)), (8, .int 0), (4, .int (leapsS (μ 0) p t)), (0, .ref (b 20)), (1, .int (nI p)), (2, .int set), (3, .int t), (6, .int (nI i))] hC dX7_onward_99 rfl (ncast (nadd rfl (nl 1)) (by omega)) (by decide) rfl ?_
                    refine V.goto (pc := 102) 28 hC dX7_onward_102 (by decide) ?_
                    exact V.sub [3, 4, 5, 6, 7, 8, 1, 0] rfl (ih (j + 1) (r ||| 0) (by omega) (run_next hw (by show r ||| _ = _; rw [if_neg (fun h => c_56 h.1.2)] <;> rfl)))
                  · have nc_70 : ¬ (0 = 0) := fun z => c_70 ((neq (nl 0) (nl 0) (by omega) (by omega)).mpr z)
                    exact absurd c_70 (by decide)
                · refine V.iconst (pc := 59) 1 hC dX7_onward_59 (by decide) ?_
                  refine V.goto (pc := 60) 64 hC dX7_onward_60 (by decide) ?_
                  refine V.istore (pc := 64) [(8, .int 1), (4, .int (leapsS (μ 0) p t)), (0, .ref (b 20)), (1, .int (nI p)), (2, .int set), (3, .int t), (6, .int (nI i)), (5, .int r), (7, .int (nI j))] hC dX7_onward_64 (by decide) rfl ?_
                  refine V.iload (pc := 66) 7 hC dX7_onward_66 rfl ?_
                  refine V.iload (pc := 68) 0 hC dX7_onward_68 rfl ?_
                  refine V.if_eq (pc := 70) 95 hC dX7_onward_70 (by decide) (fun c_70 => ?_) (fun c_70 => ?_)
                  · have nc_70 : 1 = 0 := (neq (nl 1) (nl 0) (by omega) (by omega)).mp c_70
                    exact absurd c_70 (by decide)
                  · have nc_70 : ¬ (1 = 0) := fun z => c_70 ((neq (nl 1) (nl 0) (by omega) (by omega)).mpr z)
                    refine V.aload_n (pc := 73) 2 hC dX7_onward_73 rfl ?_
                    refine V.iload_n (pc := 74) 3 hC dX7_onward_74 rfl ?_
                    refine V.iload (pc := 75) 6 hC dX7_onward_75 rfl ?_
                    refine V.iload (pc := 77) 8 hC dX7_onward_77 rfl ?_
                    refine V.iload_n (pc := 79) 5 hC dX7_onward_79 rfl ?_
                    refine V.iload (pc := 80) 1 hC dX7_onward_80 rfl ?_
                    refine V.callV0 (pc := 82) (as := [.int (nI p), .int (nI i), .int (nI j), .int t, .int (leapsS (μ 0) p t)]) hC (c_X7_isInReach μ (va_up (va_up ν 10 f3_0) 11 f3_1) p i j t (leapsS (μ 0) p t) hI hp (by omega) (by omega)) mu_X7_isInReach ml_X7_97 (by decide) ⟨0, 7, TX7, 20, _, rfl, gm_0⟩ rfl (Nat.le_of_ble_eq_true rfl) dX7_onward_82 ?_
                    rintro _ _ rfl
                    show V X (wM k b μ (va_up (va_up ν 10 f3_0) 11 f3_1)) [(8, .int 1), (4, .int (leapsS (μ 0) p t)), (0, .ref (b 20)), (1, .int (nI p)), (2, .int set), (3, .int t), (6, .int (nI i)), (5, .int r), (7, .int (nI j))] [.int (bI (reachS (μ 0) p i j t (leapsS (μ 0) p t))), .int r] 85
                    refine V.if_eq_b (P := reachS (μ 0) p i j t (leapsS (μ 0) p t)) (pc := 85) 95 hC dX7_onward_85 (by decide) (fun c_85 => ?_) (fun c_85 => ?_)
                    · refine V.iconst (pc := 95) 0 hC dX7_onward_95 (by decide) ?_
                      refine V.ior (pc := 96) hC dX7_onward_96 ?_
                      refine V.istore (pc := 97) [(5, .int (r ||| 0)), (8, .int 1), (4, .int (leapsS (μ 0) p t)), (0, .ref (b 20)), (1, .int (nI p)), (2, .int set), (3, .int t), (6, .int (nI i)), (7, .int (nI j))] hC dX7_onward_97 (by decide) rfl ?_
                      refine V.iinc (pc := 99) 8 (nI (j + 1)) [(7, .int (nI (j + 1))), (5, .int (r ||| 0)), (8, .int 1), (4, .int (leapsS (μ 0) p t)), (0, .ref (b 20)), (1, .int (nI p)), (2, .int set), (3, .int t), (6, .int (nI i))] hC dX7_onward_99 rfl (ncast (nadd rfl (nl 1)) (by omega)) (by decide) rfl ?_
                      refine V.goto (pc := 102) 28 hC dX7_onward_102 (by decide) ?_
                      exact V.sub [3, 4, 5, 6, 7, 8, 1, 0] rfl (ih (j + 1) (r ||| 0) (by omega) (run_next hw (by show r ||| _ = _; rw [if_neg (fun h => c_85 h.2)] <;> rfl)))
                    · refine V.iconst (pc := 88) 1 hC dX7_onward_88 (by decide) ?_
                      refine V.iload (pc := 89) 8 hC dX7_onward_89 rfl ?_
                      refine V.ishl (pc := 91) hC dX7_onward_91 ?_
                      refine V.goto (pc := 92) 96 hC dX7_onward_92 (by decide) ?_
                      refine V.ior (pc := 96) hC dX7_onward_96 ?_
                      refine V.istore (pc := 97) [(5, .int (r ||| (1 <<< ((nI j) &&& 31)))), (8, .int 1), (4, .int (leapsS (μ 0) p t)), (0, .ref (b 20)), (1, .int (nI p)), (2, .int set), (3, .int t), (6, .int (nI i)), (7, .int (nI j))] hC dX7_onward_97 (by decide) rfl ?_
                      refine V.iinc (pc := 99) 8 (nI (j + 1)) [(7, .int (nI (j + 1))), (5, .int (r ||| (1 <<< ((nI j) &&& 31)))), (8, .int 1), (4, .int (leapsS (μ 0) p t)), (0, .ref (b 20)), (1, .int (nI p)), (2, .int set), (3, .int t), (6, .int (nI i))] hC dX7_onward_99 rfl (ncast (nadd rfl (nl 1)) (by omega)) (by decide) rfl ?_
                      refine V.goto (pc := 102) 28 hC dX7_onward_102 (by decide) ?_
                      exact V.sub [3, 4, 5, 6, 7, 8, 1, 0] rfl (ih (j + 1) (r ||| (1 <<< ((nI j) &&& 31))) (by omega) (run_next hw (by show r ||| _ = _; rw [if_pos ⟨⟨c_46, c_56⟩, c_85⟩] <;> rfl)))
        exact V.sub [1, 2, 3, 4, 5, 7, 6, 0] rfl (loop_28 (nN (μ 0 3)) 0 s (by omega) rfl)
  exact V.sub [2, 3, 4, 5, 6, 1, 0] rfl (loop_14 (nN (μ 0 3)) 0 set (by omega) rfl)
set_option maxHeartbeats 4000000 in
set_option maxRecDepth 100000 in
theorem c_X7_roomsBy {l : Launch} {D : va_G} {k : Nat → ClassId} {g b : Nat → Nat} (μ ν : St) (p m : Nat) (hI : Inv (μ 0)) (hp : p < 6) (hm : m ≤ 720) : Ct l D k g yX7_roomsBy cX7_roomsBy 5 (some .int) 5 124 [.ref (b 20), .int (nI p), .int (nI m)] (S := Rw × Rw) (wM k b μ ν) (fun uu => wM k b μ (va_up (va_up ν 10 uu.1) 11 uu.2)) (fun vv uu => vv = some (.int (roomsByS (μ 0) p m))) := by
  refine Ct.ofI RX7 rfl (by decide +kernel) (Nat.le_of_ble_eq_true rfl) (fun X hC hR => ?_)
  show V X (wM k b μ ν) [(0, .ref (b 20)), (1, .int (nI p)), (2, .int (nI m))] [] 0
  refine V.iconst (pc := 0) 1 hC dX7_roomsBy_0 (by decide) ?_
  refine V.aload_n (pc := 1) 0 hC dX7_roomsBy_1 rfl ?_
  refine V.iload_n (pc := 2) 1 hC dX7_roomsBy_2 rfl ?_
  refine V.iconst (pc := 3) 2 hC dX7_roomsBy_3 (by decide) ?_
  refine V.sts (st' := [.int (nI 2), .int (nI p), .ref (b 20), .int 1]) (stc (nl 2) (stk (stk (stk rfl)))) ?_
  refine V.callV0 (pc := 4) (as := [.int (nI p), .int (nI 2)]) hC (c_X7_of μ ν p 2 hp (by omega)) mu_X7_of ml_X7_72 (by decide) ⟨0, 7, TX7, 20, _, rfl, gm_0⟩ rfl (Nat.le_of_ble_eq_true rfl) dX7_roomsBy_4 ?_
  rintro _ _ rfl
  show V X (wM k b μ ν) [(0, .ref (b 20)), (1, .int (nI p)), (2, .int (nI m))] [.int (μ 0 (31 + 3 * p + 2)), .int 1] 7
  refine V.eqi (y := μ 0 (33 + 3 * p)) (congrArg (μ 0) (by omega)) ?_
  refine V.ishl (pc := 7) hC dX7_roomsBy_7 ?_
  refine V.istore_n (pc := 8) [(3, .int (1 <<< ((μ 0 (33 + 3 * p)) &&& 31))), (0, .ref (b 20)), (1, .int (nI p)), (2, .int (nI m))] hC dX7_roomsBy_8 (by decide) rfl ?_
  refine V.iconst (pc := 9) 0 hC dX7_roomsBy_9 (by decide) ?_
  refine V.istore (pc := 10) [(4, .int 0), (3, .int (1 <<< ((μ 0 (33 + 3 * p)) &&& 31))), (0, .ref (b 20)), (1, .int (nI p)), (2, .int (nI m))] hC dX7_roomsBy_10 (by decide) rfl ?_
  have loop_12 : ∀ (n : Nat) (i : Nat) (s : Int32) (f h : Rw), i + n = m → roomsByS (μ 0) p m = run (fun i s => onwardS (μ 0) p s (μ 0 0 + nI i)) n i s → V X (wM k b μ (va_up (va_up ν 10 f) 11 h)) [(4, .int (nI i)), (3, .int s), (0, .ref (b 20)), (1, .int (nI p)), (2, .int (nI m))] [] 12 := by
    intro n
    induction n with
    | zero =>
      intro i s f h hi hv
      refine V.iload (pc := 12) 0 hC dX7_roomsBy_12 rfl ?_
      refine V.iload_n (pc := 14) 4 hC dX7_roomsBy_14 rfl ?_
      refine V.icmp_ge (pc := 15) 40 hC dX7_roomsBy_15 (by decide) (fun c_15 => ?_) (fun c_15 => ?_)
      · have nc_15 : m ≤ i := (nle rfl rfl (by omega) (by omega)).mp c_15
        refine V.iload_n (pc := 40) 1 hC dX7_roomsBy_40 rfl ?_
        exact hR s (f, h) _ _ dX7_roomsBy_41 rfl (ri hv.symm)
      · have nc_15 : ¬ (m ≤ i) := fun z => c_15 ((nle rfl rfl (by omega) (by omega)).mpr z)
        exfalso; omega
    | succ n ih =>
      intro i s f h hi hv
      refine V.iload (pc := 12) 0 hC dX7_roomsBy_12 rfl ?_
      refine V.iload_n (pc := 14) 4 hC dX7_roomsBy_14 rfl ?_
      refine V.icmp_ge (pc := 15) 40 hC dX7_roomsBy_15 (by decide) (fun c_15 => ?_) (fun c_15 => ?_)
      · have nc_15 : m ≤ i := (nle rfl rfl (by omega) (by omega)).mp c_15
        exfalso; omega
      · have nc_15 : ¬ (m ≤ i) := fun z => c_15 ((nle rfl rfl (by omega) (by omega)).mpr z)
        refine V.aload_n (pc := 18) 2 hC dX7_roomsBy_18 rfl ?_
        refine V.iload_n (pc := 19) 3 hC dX7_roomsBy_19 rfl ?_
        refine V.iload_n (pc := 20) 1 hC dX7_roomsBy_20 rfl ?_
        refine V.aload_n (pc := 21) 2 hC dX7_roomsBy_21 rfl ?_
        refine V.get (pc := 22) (v := .ref (b 0)) hC cf_X7 0 0 fl_X7_9 (by decide) gm_0 rfl dX7_roomsBy_22 ?_
        refine V.iconst (pc := 25) 0 hC dX7_roomsBy_25 (by decide) ?_
        refine V.iald (pc := 26) (f := μ 0) hC 1 0 gm_1 (nl 0) (by omega) (by decide) dX7_roomsBy_26 ?_
        refine V.iload (pc := 27) 0 hC dX7_roomsBy_27 rfl ?_
        refine V.iadd (pc := 29) hC dX7_roomsBy_29 ?_
        refine V.callV0 (pc := 30) (as := [.int (nI p), .int s, .int ((μ 0 0) + (nI i))]) hC (c_X7_onward μ (va_up (va_up ν 10 f) 11 h) p s ((μ 0 0) + (nI i)) hI hp) mu_X7_onward ml_X7_101 (by decide) ⟨0, 7, TX7, 20, _, rfl, gm_0⟩ rfl (Nat.le_of_ble_eq_true rfl) dX7_roomsBy_30 ?_
        rintro _ ⟨f30_0, f30_1⟩ rfl
        show V X (wM k b μ (va_up (va_up ν 10 f30_0) 11 f30_1)) [(4, .int (nI i)), (3, .int s), (0, .ref (b 20)), (1, .int (nI p)), (2, .int (nI m))] [.int (onwardS (μ 0) p s ((μ 0 0) + (nI i)))] 33
        refine V.istore_n (pc := 33) [(3, .int (onwardS (μ 0) p s ((μ 0 0) + (nI i)))), (4, .int (nI i)), (0, .ref (b 20)), (1, .int (nI p)), (2, .int (nI m))] hC dX7_roomsBy_33 (by decide) rfl ?_
        refine V.iinc (pc := 34) 1 (nI (i + 1)) [(4, .int (nI (i + 1))), (3, .int (onwardS (μ 0) p s ((μ 0 0) + (nI i)))), (0, .ref (b 20)), (1, .int (nI p)), (2, .int (nI m))] hC dX7_roomsBy_34 rfl (ncast (nadd rfl (nl 1)) (by omega)) (by decide) rfl ?_
        refine V.goto (pc := 37) 12 hC dX7_roomsBy_37 (by decide) ?_
        exact V.sub [0, 1, 2, 3, 4] rfl (ih (i + 1) (onwardS (μ 0) p s ((μ 0 0) + (nI i))) f30_0 f30_1 (by omega) (run_next hv rfl))
  exact V.sub [0, 1, 2, 3, 4] rfl (loop_12 m 0 _ (ν 10) (ν 11) (by omega) rfl)
