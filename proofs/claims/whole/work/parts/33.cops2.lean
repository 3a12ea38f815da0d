set_option maxHeartbeats 4000000 in
set_option maxRecDepth 100000 in
theorem c_X6_isUnder {l : Launch} {D : va_G} {k : Nat → ClassId} {g : Nat → Nat} (kd f : Int32) (hk : isN kd 6) : Ct l D k g yX6_isUnder cX6_isUnder 4 (some .boolean) 0 0 [.int kd, .int f] (S := Unit) ([]) (fun _ => []) (fun vv _ => vv = some (.int (bI (asOk f kd)))) := by
  refine Ct.ofI RX6 rfl (by decide +kernel) (Nat.le_of_ble_eq_true rfl) (fun X hC hR => ?_)
  show V X ([]) [(0, .int kd), (1, .int f)] [] 0
  by_cases e0 : kd = 0
  · subst e0
    refine V.iload_n (pc := 0) 0 hC dX6_isUnder_0 rfl ?_
    refine V.istore_n (pc := 1) [(2, .int 0), (0, .int 0), (1, .int f)] hC dX6_isUnder_1 (by decide) rfl ?_
    refine V.iconst (pc := 2) 0 hC dX6_isUnder_2 (by decide) ?_
    refine V.istore_n (pc := 3) [(3, .int 0), (2, .int 0), (0, .int 0), (1, .int f)] hC dX6_isUnder_3 (by decide) rfl ?_
    refine V.iload_n (pc := 4) 0 hC dX6_isUnder_4 rfl ?_
    refine V.getAbove (pc := 5) hC fl_X6_291 dX6_isUnder_5 ?_
    refine V.lenAbove (pc := 8) hC dX6_isUnder_8 ?_
    refine V.icmp_ge (pc := 9) 35 hC dX6_isUnder_9 (by decide) (fun c_9 => ?_) (fun c_9 => ?_)
    · have nc_9 : 7 ≤ 0 := (nle (nl 7) (nl 0) (by omega) (by omega)).mp c_9
      exact absurd c_9 (by decide)
    · have nc_9 : ¬ (7 ≤ 0) := fun z => c_9 ((nle (nl 7) (nl 0) (by omega) (by omega)).mpr z)
      refine V.iload_n (pc := 12) 1 hC dX6_isUnder_12 rfl ?_
      refine V.if_lt (pc := 13) 35 hC dX6_isUnder_13 (by decide) (fun c_13 => ?_) (fun c_13 => ?_)
      · have nc_13 : 0 < 0 := (nlt (nl 0) (nl 0) (by omega) (by omega)).mp c_13
        exact absurd c_13 (by decide)
      · have nc_13 : ¬ (0 < 0) := fun z => c_13 ((nlt (nl 0) (nl 0) (by omega) (by omega)).mpr z)
        refine V.iload_n (pc := 16) 1 hC dX6_isUnder_16 rfl ?_
        refine V.iload_n (pc := 17) 3 hC dX6_isUnder_17 rfl ?_
        refine V.icmp_ne (pc := 18) 23 hC dX6_isUnder_18 (by decide) (fun c_18 => ?_) (fun c_18 => ?_)
        · refine V.getAbove (pc := 23) hC fl_X6_291 dX6_isUnder_23 ?_
          refine V.iload_n (pc := 26) 1 hC dX6_isUnder_26 rfl ?_
          refine V.ldAbove (pc := 27) hC 0 (-1) (nl 0) (by decide) rfl dX6_isUnder_27 ?_
          refine V.istore_n (pc := 28) [(2, .int (-1)), (3, .int 0), (0, .int 0), (1, .int f)] hC dX6_isUnder_28 (by decide) rfl ?_
          refine V.iinc (pc := 29) 1 (nI 1) [(3, .int (nI 1)), (2, .int (-1)), (0, .int 0), (1, .int f)] hC dX6_isUnder_29 rfl (ncast (nadd (nl 0) (nl 1)) (by omega)) (by decide) rfl ?_
          refine V.goto (pc := 32) 4 hC dX6_isUnder_32 (by decide) ?_
          refine V.iload_n (pc := 4) 0 hC dX6_isUnder_4 rfl ?_
          refine V.getAbove (pc := 5) hC fl_X6_291 dX6_isUnder_5 ?_
          refine V.lenAbove (pc := 8) hC dX6_isUnder_8 ?_
          refine V.icmp_ge (pc := 9) 35 hC dX6_isUnder_9 (by decide) (fun c_9_2 => ?_) (fun c_9_2 => ?_)
          · have nc_9_2 : 7 ≤ 1 := (nle (nl 7) rfl (by omega) (by omega)).mp c_9_2
            exact absurd c_9_2 (by decide)
          · have nc_9_2 : ¬ (7 ≤ 1) := fun z => c_9_2 ((nle (nl 7) rfl (by omega) (by omega)).mpr z)
            refine V.iload_n (pc := 12) 1 hC dX6_isUnder_12 rfl ?_
            refine V.if_lt (pc := 13) 35 hC dX6_isUnder_13 (by decide) (fun c_13_2 => ?_) (fun c_13_2 => ?_)
            · refine V.iconst (pc := 35) 0 hC dX6_isUnder_35 (by decide) ?_
              exact hR 0 () _ _ dX6_isUnder_36 (by first | rfl | exact bI_n _) (rb0 (fun q => by rcases q with q | q | ⟨q, r⟩ | ⟨q, r⟩ <;> first | exact c_18 q.symm | exact absurd r (by decide)))
            · exact absurd c_13_2 (by decide)
        · refine V.iconst (pc := 21) 1 hC dX6_isUnder_21 (by decide) ?_
          exact hR 1 () _ _ dX6_isUnder_22 (by first | rfl | exact bI_n _) (rb1 (show asOk f 0 from Or.inl c_18.symm))
  · by_cases e1 : kd = 1
    · subst e1
      refine V.iload_n (pc := 0) 0 hC dX6_isUnder_0 rfl ?_
      refine V.istore_n (pc := 1) [(2, .int 1), (0, .int 1), (1, .int f)] hC dX6_isUnder_1 (by decide) rfl ?_
      refine V.iconst (pc := 2) 0 hC dX6_isUnder_2 (by decide) ?_
      refine V.istore_n (pc := 3) [(3, .int 0), (2, .int 1), (0, .int 1), (1, .int f)] hC dX6_isUnder_3 (by decide) rfl ?_
      refine V.iload_n (pc := 4) 0 hC dX6_isUnder_4 rfl ?_
      refine V.getAbove (pc := 5) hC fl_X6_291 dX6_isUnder_5 ?_
      refine V.lenAbove (pc := 8) hC dX6_isUnder_8 ?_
      refine V.icmp_ge (pc := 9) 35 hC dX6_isUnder_9 (by decide) (fun c_9 => ?_) (fun c_9 => ?_)
      · have nc_9 : 7 ≤ 0 := (nle (nl 7) (nl 0) (by omega) (by omega)).mp c_9
        exact absurd c_9 (by decide)
      · have nc_9 : ¬ (7 ≤ 0) := fun z => c_9 ((nle (nl 7) (nl 0) (by omega) (by omega)).mpr z)
        refine V.iload_n (pc := 12) 1 hC dX6_isUnder_12 rfl ?_
        refine V.if_lt (pc := 13) 35 hC dX6_isUnder_13 (by decide) (fun c_13 => ?_) (fun c_13 => ?_)
        · have nc_13 : 1 < 0 := (nlt (nl 1) (nl 0) (by omega) (by omega)).mp c_13
          exact absurd c_13 (by decide)
        · have nc_13 : ¬ (1 < 0) := fun z => c_13 ((nlt (nl 1) (nl 0) (by omega) (by omega)).mpr z)
          refine V.iload_n (pc := 16) 1 hC dX6_isUnder_16 rfl ?_
          refine V.iload_n (pc := 17) 3 hC dX6_isUnder_17 rfl ?_
          refine V.icmp_ne (pc := 18) 23 hC dX6_isUnder_18 (by decide) (fun c_18 => ?_) (fun c_18 => ?_)
          · refine V.getAbove (pc := 23) hC fl_X6_291 dX6_isUnder_23 ?_
            refine V.iload_n (pc := 26) 1 hC dX6_isUnder_26 rfl ?_
            refine V.ldAbove (pc := 27) hC 1 0 (nl 1) (by decide) rfl dX6_isUnder_27 ?_
            refine V.istore_n (pc := 28) [(2, .int 0), (3, .int 0), (0, .int 1), (1, .int f)] hC dX6_isUnder_28 (by decide) rfl ?_
            refine V.iinc (pc := 29) 1 (nI 1) [(3, .int (nI 1)), (2, .int 0), (0, .int 1), (1, .int f)] hC dX6_isUnder_29 rfl (ncast (nadd (nl 0) (nl 1)) (by omega)) (by decide) rfl ?_
            refine V.goto (pc := 32) 4 hC dX6_isUnder_32 (by decide) ?_
            refine V.iload_n (pc := 4) 0 hC dX6_isUnder_4 rfl ?_
            refine V.getAbove (pc := 5) hC fl_X6_291 dX6_isUnder_5 ?_
            refine V.lenAbove (pc := 8) hC dX6_isUnder_8 ?_
            refine V.icmp_ge (pc := 9) 35 hC dX6_isUnder_9 (by decide) (fun c_9_2 => ?_) (fun c_9_2 => ?_)
            · have nc_9_2 : 7 ≤ 1 := (nle (nl 7) rfl (by omega) (by omega)).mp c_9_2
              exact absurd c_9_2 (by decide)
            · have nc_9_2 : ¬ (7 ≤ 1) := fun z => c_9_2 ((nle (nl 7) rfl (by omega) (by omega)).mpr z)
              refine V.iload_n (pc := 12) 1 hC dX6_isUnder_12 rfl ?_
              refine V.if_lt (pc := 13) 35 hC dX6_isUnder_13 (by decide) (fun c_13_2 => ?_) (fun c_13_2 => ?_)
              · have nc_13_2 : 0 < 0 := (nlt (nl 0) (nl 0) (by omega) (by omega)).mp c_13_2
                exact absurd c_13_2 (by decide)
              · have nc_13_2 : ¬ (0 < 0) := fun z => c_13_2 ((nlt (nl 0) (nl 0) (by omega) (by omega)).mpr z)
                refine V.iload_n (pc := 16) 1 hC dX6_isUnder_16 rfl ?_
                refine V.iload_n (pc := 17) 3 hC dX6_isUnder_17 rfl ?_
                refine V.icmp_ne (pc := 18) 23 hC dX6_isUnder_18 (by decide) (fun c_18_2 => ?_) (fun c_18_2 => ?_)
                · refine V.getAbove (pc := 23) hC fl_X6_291 dX6_isUnder_23 ?_
                  refine V.iload_n (pc := 26) 1 hC dX6_isUnder_26 rfl ?_
                  refine V.ldAbove (pc := 27) hC 0 (-1) (nl 0) (by decide) rfl dX6_isUnder_27 ?_
                  refine V.istore_n (pc := 28) [(2, .int (-1)), (3, .int (nI 1)), (0, .int 1), (1, .int f)] hC dX6_isUnder_28 (by decide) rfl ?_
                  refine V.iinc (pc := 29) 1 (nI 2) [(3, .int (nI 2)), (2, .int (-1)), (0, .int 1), (1, .int f)] hC dX6_isUnder_29 rfl (ncast (nadd rfl (nl 1)) (by omega)) (by decide) rfl ?_
                  refine V.goto (pc := 32) 4 hC dX6_isUnder_32 (by decide) ?_
                  refine V.iload_n (pc := 4) 0 hC dX6_isUnder_4 rfl ?_
                  refine V.getAbove (pc := 5) hC fl_X6_291 dX6_isUnder_5 ?_
                  refine V.lenAbove (pc := 8) hC dX6_isUnder_8 ?_
                  refine V.icmp_ge (pc := 9) 35 hC dX6_isUnder_9 (by decide) (fun c_9_3 => ?_) (fun c_9_3 => ?_)
                  · have nc_9_3 : 7 ≤ 2 := (nle (nl 7) rfl (by omega) (by omega)).mp c_9_3
                    exact absurd c_9_3 (by decide)
                  · have nc_9_3 : ¬ (7 ≤ 2) := fun z => c_9_3 ((nle (nl 7) rfl (by omega) (by omega)).mpr z)
                    refine V.iload_n (pc := 12) 1 hC dX6_isUnder_12 rfl ?_
                    refine V.if_lt (pc := 13) 35 hC dX6_isUnder_13 (by decide) (fun c_13_3 => ?_) (fun c_13_3 => ?_)
                    · refine V.iconst (pc := 35) 0 hC dX6_isUnder_35 (by decide) ?_
                      exact hR 0 () _ _ dX6_isUnder_36 (by first | rfl | exact bI_n _) (rb0 (fun q => by rcases q with q | q | ⟨q, r⟩ | ⟨q, r⟩ <;> first | exact c_18 q.symm | exact c_18_2 q.symm | exact absurd r (by decide)))
                    · exact absurd c_13_3 (by decide)
                · refine V.iconst (pc := 21) 1 hC dX6_isUnder_21 (by decide) ?_
                  exact hR 1 () _ _ dX6_isUnder_22 (by first | rfl | exact bI_n _) (rb1 (show asOk f 1 from Or.inl c_18_2.symm))
          · refine V.iconst (pc := 21) 1 hC dX6_isUnder_21 (by decide) ?_
            exact hR 1 () _ _ dX6_isUnder_22 (by first | rfl | exact bI_n _) (rb1 (show asOk f 1 from Or.inr (Or.inl c_18.symm)))
    · by_cases e2 : kd = 2
      · subst e2
        refine V.iload_n (pc := 0) 0 hC dX6_isUnder_0 rfl ?_
        refine V.istore_n (pc := 1) [(2, .int 2), (0, .int 2), (1, .int f)] hC dX6_isUnder_1 (by decide) rfl ?_
        refine V.iconst (pc := 2) 0 hC dX6_isUnder_2 (by decide) ?_
        refine V.istore_n (pc := 3) [(3, .int 0), (2, .int 2), (0, .int 2), (1, .int f)] hC dX6_isUnder_3 (by decide) rfl ?_
        refine V.iload_n (pc := 4) 0 hC dX6_isUnder_4 rfl ?_
        refine V.getAbove (pc := 5) hC fl_X6_291 dX6_isUnder_5 ?_
        refine V.lenAbove (pc := 8) hC dX6_isUnder_8 ?_
        refine V.icmp_ge (pc := 9) 35 hC dX6_isUnder_9 (by decide) (fun c_9 => ?_) (fun c_9 => ?_)
        · have nc_9 : 7 ≤ 0 := (nle (nl 7) (nl 0) (by omega) (by omega)).mp c_9
          exact absurd c_9 (by decide)
        · have nc_9 : ¬ (7 ≤ 0) := fun z => c_9 ((nle (nl 7) (nl 0) (by omega) (by omega)).mpr z)
          refine V.iload_n (pc := 12) 1 hC dX6_isUnder_12 rfl ?_
          refine V.if_lt (pc := 13) 35 hC dX6_isUnder_13 (by decide) (fun c_13 => ?_) (fun c_13 => ?_)
          · have nc_13 : 2 < 0 := (nlt (nl 2) (nl 0) (by omega) (by omega)).mp c_13
            exact absurd c_13 (by decide)
          · have nc_13 : ¬ (2 < 0) := fun z => c_13 ((nlt (nl 2) (nl 0) (by omega) (by omega)).mpr z)
            refine V.iload_n (pc := 16) 1 hC dX6_isUnder_16 rfl ?_
            refine V.iload_n (pc := 17) 3 hC dX6_isUnder_17 rfl ?_
            refine V.icmp_ne (pc := 18) 23 hC dX6_isUnder_18 (by decide) (fun c_18 => ?_) (fun c_18 => ?_)
            · refine V.getAbove (pc := 23) hC fl_X6_291 dX6_isUnder_23 ?_
              refine V.iload_n (pc := 26) 1 hC dX6_isUnder_26 rfl ?_
              refine V.ldAbove (pc := 27) hC 2 0 (nl 2) (by decide) rfl dX6_isUnder_27 ?_
              refine V.istore_n (pc := 28) [(2, .int 0), (3, .int 0), (0, .int 2), (1, .int f)] hC dX6_isUnder_28 (by decide) rfl ?_
              refine V.iinc (pc := 29) 1 (nI 1) [(3, .int (nI 1)), (2, .int 0), (0, .int 2), (1, .int f)] hC dX6_isUnder_29 rfl (ncast (nadd (nl 0) (nl 1)) (by omega)) (by decide) rfl ?_
              refine V.goto (pc := 32) 4 hC dX6_isUnder_32 (by decide) ?_
              refine V.iload_n (pc := 4) 0 hC dX6_isUnder_4 rfl ?_
              refine V.getAbove (pc := 5) hC fl_X6_291 dX6_isUnder_5 ?_
              refine V.lenAbove (pc := 8) hC dX6_isUnder_8 ?_
              refine V.icmp_ge (pc := 9) 35 hC dX6_isUnder_9 (by decide) (fun c_9_2 => ?_) (fun c_9_2 => ?_)
              · have nc_9_2 : 7 ≤ 1 := (nle (nl 7) rfl (by omega) (by omega)).mp c_9_2
                exact absurd c_9_2 (by decide)
              · have nc_9_2 : ¬ (7 ≤ 1) := fun z => c_9_2 ((nle (nl 7) rfl (by omega) (by omega)).mpr z)
                refine V.iload_n (pc := 12) 1 hC dX6_isUnder_12 rfl ?_
                refine V.if_lt (pc := 13) 35 hC dX6_isUnder_13 (by decide) (fun c_13_2 => ?_) (fun c_13_2 => ?_)
                · have nc_13_2 : 0 < 0 := (nlt (nl 0) (nl 0) (by omega) (by omega)).mp c_13_2
                  exact absurd c_13_2 (by decide)
                · have nc_13_2 : ¬ (0 < 0) := fun z => c_13_2 ((nlt (nl 0) (nl 0) (by omega) (by omega)).mpr z)
                  refine V.iload_n (pc := 16) 1 hC dX6_isUnder_16 rfl ?_
                  refine V.iload_n (pc := 17) 3 hC dX6_isUnder_17 rfl ?_
                  refine V.icmp_ne (pc := 18) 23 hC dX6_isUnder_18 (by decide) (fun c_18_2 => ?_) (fun c_18_2 => ?_)
                  · refine V.getAbove (pc := 23) hC fl_X6_291 dX6_isUnder_23 ?_
                    refine V.iload_n (pc := 26) 1 hC dX6_isUnder_26 rfl ?_
                    refine V.ldAbove (pc := 27) hC 0 (-1) (nl 0) (by decide) rfl dX6_isUnder_27 ?_
                    refine V.istore_n (pc := 28) [(2, .int (-1)), (3, .int (nI 1)), (0, .int 2), (1, .int f)] hC dX6_isUnder_28 (by decide) rfl ?_
                    refine V.iinc (pc := 29) 1 (nI 2) [(3, .int (nI 2)), (2, .int (-1)), (0, .int 2), (1, .int f)] hC dX6_isUnder_29 rfl (ncast (nadd rfl (nl 1)) (by omega)) (by decide) rfl ?_
                    refine V.goto (pc := 32) 4 hC dX6_isUnder_32 (by decide) ?_
                    refine V.iload_n (pc := 4) 0 hC dX6_isUnder_4 rfl ?_
                    refine V.getAbove (pc := 5) hC fl_X6_291 dX6_isUnder_5 ?_
                    refine V.lenAbove (pc := 8) hC dX6_isUnder_8 ?_
                    refine V.icmp_ge (pc := 9) 35 hC dX6_isUnder_9 (by decide) (fun c_9_3 => ?_) (fun c_9_3 => ?_)
                    · have nc_9_3 : 7 ≤ 2 := (nle (nl 7) rfl (by omega) (by omega)).mp c_9_3
                      exact absurd c_9_3 (by decide)
                    · have nc_9_3 : ¬ (7 ≤ 2) := fun z => c_9_3 ((nle (nl 7) rfl (by omega) (by omega)).mpr z)
                      refine V.iload_n (pc := 12) 1 hC dX6_isUnder_12 rfl ?_
                      refine V.if_lt (pc := 13) 35 hC dX6_isUnder_13 (by decide) (fun c_13_3 => ?_) (fun c_13_3 => ?_)
                      · refine V.iconst (pc := 35) 0 hC dX6_isUnder_35 (by decide) ?_
                        exact hR 0 () _ _ dX6_isUnder_36 (by first | rfl | exact bI_n _) (rb0 (fun q => by rcases q with q | q | ⟨q, r⟩ | ⟨q, r⟩ <;> first | exact c_18 q.symm | exact c_18_2 q.symm | exact absurd r (by decide)))
                      · exact absurd c_13_3 (by decide)
                  · refine V.iconst (pc := 21) 1 hC dX6_isUnder_21 (by decide) ?_
                    exact hR 1 () _ _ dX6_isUnder_22 (by first | rfl | exact bI_n _) (rb1 (show asOk f 2 from Or.inl c_18_2.symm))
            · refine V.iconst (pc := 21) 1 hC dX6_isUnder_21 (by decide) ?_
              exact hR 1 () _ _ dX6_isUnder_22 (by first | rfl | exact bI_n _) (rb1 (show asOk f 2 from Or.inr (Or.inl c_18.symm)))
      · by_cases e3 : kd = 3
        · subst e3
          refine V.iload_n (pc := 0) 0 hC dX6_isUnder_0 rfl ?_
          refine V.istore_n (pc := 1) [(2, .int 3), (0, .int 3), (1, .int f)] hC dX6_isUnder_1 (by decide) rfl ?_
          refine V.iconst (pc := 2) 0 hC dX6_isUnder_2 (by decide) ?_
          refine V.istore_n (pc := 3) [(3, .int 0), (2, .int 3), (0, .int 3), (1, .int f)] hC dX6_isUnder_3 (by decide) rfl ?_
          refine V.iload_n (pc := 4) 0 hC dX6_isUnder_4 rfl ?_
          refine V.getAbove (pc := 5) hC fl_X6_291 dX6_isUnder_5 ?_
          refine V.lenAbove (pc := 8) hC dX6_isUnder_8 ?_
          refine V.icmp_ge (pc := 9) 35 hC dX6_isUnder_9 (by decide) (fun c_9 => ?_) (fun c_9 => ?_)
          · have nc_9 : 7 ≤ 0 := (nle (nl 7) (nl 0) (by omega) (by omega)).mp c_9
            exact absurd c_9 (by decide)
          · have nc_9 : ¬ (7 ≤ 0) := fun z => c_9 ((nle (nl 7) (nl 0) (by omega) (by omega)).mpr z)
            refine V.iload_n (pc := 12) 1 hC dX6_isUnder_12 rfl ?_
            refine V.if_lt (pc := 13) 35 hC dX6_isUnder_13 (by decide) (fun c_13 => ?_) (fun c_13 => ?_)
            · have nc_13 : 3 < 0 := (nlt (nl 3) (nl 0) (by omega) (by omega)).mp c_13
              exact absurd c_13 (by decide)
            · have nc_13 : ¬ (3 < 0) := fun z => c_13 ((nlt (nl 3) (nl 0) (by omega) (by omega)).mpr z)
              refine V.iload_n (pc := 16) 1 hC dX6_isUnder_16 rfl ?_
              refine V.iload_n (pc := 17) 3 hC dX6_isUnder_17 rfl ?_
              refine V.icmp_ne (pc := 18) 23 hC dX6_isUnder_18 (by decide) (fun c_18 => ?_) (fun c_18 => ?_)
              · refine V.getAbove (pc := 23) hC fl_X6_291 dX6_isUnder_23 ?_
                refine V.iload_n (pc := 26) 1 hC dX6_isUnder_26 rfl ?_
                refine V.ldAbove (pc := 27) hC 3 0 (nl 3) (by decide) rfl dX6_isUnder_27 ?_
                refine V.istore_n (pc := 28) [(2, .int 0), (3, .int 0), (0, .int 3), (1, .int f)] hC dX6_isUnder_28 (by decide) rfl ?_
                refine V.iinc (pc := 29) 1 (nI 1) [(3, .int (nI 1)), (2, .int 0), (0, .int 3), (1, .int f)] hC dX6_isUnder_29 rfl (ncast (nadd (nl 0) (nl 1)) (by omega)) (by decide) rfl ?_
                refine V.goto (pc := 32) 4 hC dX6_isUnder_32 (by decide) ?_
                refine V.iload_n (pc := 4) 0 hC dX6_isUnder_4 rfl ?_
                refine V.getAbove (pc := 5) hC fl_X6_291 dX6_isUnder_5 ?_
                refine V.lenAbove (pc := 8) hC dX6_isUnder_8 ?_
                refine V.icmp_ge (pc := 9) 35 hC dX6_isUnder_9 (by decide) (fun c_9_2 => ?_) (fun c_9_2 => ?_)
                · have nc_9_2 : 7 ≤ 1 := (nle (nl 7) rfl (by omega) (by omega)).mp c_9_2
                  exact absurd c_9_2 (by decide)
                · have nc_9_2 : ¬ (7 ≤ 1) := fun z => c_9_2 ((nle (nl 7) rfl (by omega) (by omega)).mpr z)
                  refine V.iload_n (pc := 12) 1 hC dX6_isUnder_12 rfl ?_
                  refine V.if_lt (pc := 13) 35 hC dX6_isUnder_13 (by decide) (fun c_13_2 => ?_) (fun c_13_2 => ?_)
                  · have nc_13_2 : 0 < 0 := (nlt (nl 0) (nl 0) (by omega) (by omega)).mp c_13_2
                    exact absurd c_13_2 (by decide)
                  · have nc_13_2 : ¬ (0 < 0) := fun z => c_13_2 ((nlt (nl 0) (nl 0) (by omega) (by omega)).mpr z)
                    refine V.iload_n (pc := 16) 1 hC dX6_isUnder_16 rfl ?_
                    refine V.iload_n (pc := 17) 3 hC dX6_isUnder_17 rfl ?_
                    refine V.icmp_ne (pc := 18) 23 hC dX6_isUnder_18 (by decide) (fun c_18_2 => ?_) (fun c_18_2 => ?_)
                    · refine V.getAbove (pc := 23) hC fl_X6_291 dX6_isUnder_23 ?_
                      refine V.iload_n (pc := 26) 1 hC dX6_isUnder_26 rfl ?_
                      refine V.ldAbove (pc := 27) hC 0 (-1) (nl 0) (by decide) rfl dX6_isUnder_27 ?_
                      refine V.istore_n (pc := 28) [(2, .int (-1)), (3, .int (nI 1)), (0, .int 3), (1, .int f)] hC dX6_isUnder_28 (by decide) rfl ?_
                      refine V.iinc (pc := 29) 1 (nI 2) [(3, .int (nI 2)), (2, .int (-1)), (0, .int 3), (1, .int f)] hC dX6_isUnder_29 rfl (ncast (nadd rfl (nl 1)) (by omega)) (by decide) rfl ?_
                      refine V.goto (pc := 32) 4 hC dX6_isUnder_32 (by decide) ?_
                      refine V.iload_n (pc := 4) 0 hC dX6_isUnder_4 rfl ?_
                      refine V.getAbove (pc := 5) hC fl_X6_291 dX6_isUnder_5 ?_
                      refine V.lenAbove (pc := 8) hC dX6_isUnder_8 ?_
                      refine V.icmp_ge (pc := 9) 35 hC dX6_isUnder_9 (by decide) (fun c_9_3 => ?_) (fun c_9_3 => ?_)
                      · have nc_9_3 : 7 ≤ 2 := (nle (nl 7) rfl (by omega) (by omega)).mp c_9_3
                        exact absurd c_9_3 (by decide)
                      · have nc_9_3 : ¬ (7 ≤ 2) := fun z => c_9_3 ((nle (nl 7) rfl (by omega) (by omega)).mpr z)
                        refine V.iload_n (pc := 12) 1 hC dX6_isUnder_12 rfl ?_
                        refine V.if_lt (pc := 13) 35 hC dX6_isUnder_13 (by decide) (fun c_13_3 => ?_) (fun c_13_3 => ?_)
                        · refine V.iconst (pc := 35) 0 hC dX6_isUnder_35 (by decide) ?_
                          exact hR 0 () _ _ dX6_isUnder_36 (by first | rfl | exact bI_n _) (rb0 (fun q => by rcases q with q | q | ⟨q, r⟩ | ⟨q, r⟩ <;> first | exact c_18 q.symm | exact c_18_2 q.symm | exact absurd r (by decide)))
                        · exact absurd c_13_3 (by decide)
                    · refine V.iconst (pc := 21) 1 hC dX6_isUnder_21 (by decide) ?_
                      exact hR 1 () _ _ dX6_isUnder_22 (by first | rfl | exact bI_n _) (rb1 (show asOk f 3 from Or.inl c_18_2.symm))
              · refine V.iconst (pc := 21) 1 hC dX6_isUnder_21 (by decide) ?_
                exact hR 1 () _ _ dX6_isUnder_22 (by first | rfl | exact bI_n _) (rb1 (show asOk f 3 from Or.inr (Or.inl c_18.symm)))
        · by_cases e4 : kd = 4
          · subst e4
            refine V.iload_n (pc := 0) 0 hC dX6_isUnder_0 rfl ?_
            refine V.istore_n (pc := 1) [(2, .int 4), (0, .int 4), (1, .int f)] hC dX6_isUnder_1 (by decide) rfl ?_
            refine V.iconst (pc := 2) 0 hC dX6_isUnder_2 (by decide) ?_
            refine V.istore_n (pc := 3) [(3, .int 0), (2, .int 4), (0, .int 4), (1, .int f)] hC dX6_isUnder_3 (by decide) rfl ?_
            refine V.iload_n (pc := 4) 0 hC dX6_isUnder_4 rfl ?_
            refine V.getAbove (pc := 5) hC fl_X6_291 dX6_isUnder_5 ?_
            refine V.lenAbove (pc := 8) hC dX6_isUnder_8 ?_
            refine V.icmp_ge (pc := 9) 35 hC dX6_isUnder_9 (by decide) (fun c_9 => ?_) (fun c_9 => ?_)
            · have nc_9 : 7 ≤ 0 := (nle (nl 7) (nl 0) (by omega) (by omega)).mp c_9
              exact absurd c_9 (by decide)
            · have nc_9 : ¬ (7 ≤ 0) := fun z => c_9 ((nle (nl 7) (nl 0) (by omega) (by omega)).mpr z)
              refine V.iload_n (pc := 12) 1 hC dX6_isUnder_12 rfl ?_
              refine V.if_lt (pc := 13) 35 hC dX6_isUnder_13 (by decide) (fun c_13 => ?_) (fun c_13 => ?_)
              · have nc_13 : 4 < 0 := (nlt (nl 4) (nl 0) (by omega) (by omega)).mp c_13
                exact absurd c_13 (by decide)
              · have nc_13 : ¬ (4 < 0) := fun z => c_13 ((nlt (nl 4) (nl 0) (by omega) (by omega)).mpr z)
                refine V.iload_n (pc := 16) 1 hC dX6_isUnder_16 rfl ?_
                refine V.iload_n (pc := 17) 3 hC dX6_isUnder_17 rfl ?_
                refine V.icmp_ne (pc := 18) 23 hC dX6_isUnder_18 (by decide) (fun c_18 => ?_) (fun c_18 => ?_)
                · refine V.getAbove (pc := 23) hC fl_X6_291 dX6_isUnder_23 ?_
                  refine V.iload_n (pc := 26) 1 hC dX6_isUnder_26 rfl ?_
                  refine V.ldAbove (pc := 27) hC 4 1 (nl 4) (by decide) rfl dX6_isUnder_27 ?_
                  refine V.istore_n (pc := 28) [(2, .int 1), (3, .int 0), (0, .int 4), (1, .int f)] hC dX6_isUnder_28 (by decide) rfl ?_
                  refine V.iinc (pc := 29) 1 (nI 1) [(3, .int (nI 1)), (2, .int 1), (0, .int 4), (1, .int f)] hC dX6_isUnder_29 rfl (ncast (nadd (nl 0) (nl 1)) (by omega)) (by decide) rfl ?_
                  refine V.goto (pc := 32) 4 hC dX6_isUnder_32 (by decide) ?_
                  refine V.iload_n (pc := 4) 0 hC dX6_isUnder_4 rfl ?_
                  refine V.getAbove (pc := 5) hC fl_X6_291 dX6_isUnder_5 ?_
                  refine V.lenAbove (pc := 8) hC dX6_isUnder_8 ?_
                  refine V.icmp_ge (pc := 9) 35 hC dX6_isUnder_9 (by decide) (fun c_9_2 => ?_) (fun c_9_2 => ?_)
                  · have nc_9_2 : 7 ≤ 1 := (nle (nl 7) rfl (by omega) (by omega)).mp c_9_2
                    exact absurd c_9_2 (by decide)
                  · have nc_9_2 : ¬ (7 ≤ 1) := fun z => c_9_2 ((nle (nl 7) rfl (by omega) (by omega)).mpr z)
                    refine V.iload_n (pc := 12) 1 hC dX6_isUnder_12 rfl ?_
                    refine V.if_lt (pc := 13) 35 hC dX6_isUnder_13 (by decide) (fun c_13_2 => ?_) (fun c_13_2 => ?_)
                    · have nc_13_2 : 1 < 0 := (nlt (nl 1) (nl 0) (by omega) (by omega)).mp c_13_2
                      exact absurd c_13_2 (by decide)
                    · have nc_13_2 : ¬ (1 < 0) := fun z => c_13_2 ((nlt (nl 1) (nl 0) (by omega) (by omega)).mpr z)
                      refine V.iload_n (pc := 16) 1 hC dX6_isUnder_16 rfl ?_
                      refine V.iload_n (pc := 17) 3 hC dX6_isUnder_17 rfl ?_
                      refine V.icmp_ne (pc := 18) 23 hC dX6_isUnder_18 (by decide) (fun c_18_2 => ?_) (fun c_18_2 => ?_)
                      · refine V.getAbove (pc := 23) hC fl_X6_291 dX6_isUnder_23 ?_
                        refine V.iload_n (pc := 26) 1 hC dX6_isUnder_26 rfl ?_
                        refine V.ldAbove (pc := 27) hC 1 0 (nl 1) (by decide) rfl dX6_isUnder_27 ?_
                        refine V.istore_n (pc := 28) [(2, .int 0), (3, .int (nI 1)), (0, .int 4), (1, .int f)] hC dX6_isUnder_28 (by decide) rfl ?_
                        refine V.iinc (pc := 29) 1 (nI 2) [(3, .int (nI 2)), (2, .int 0), (0, .int 4), (1, .int f)] hC dX6_isUnder_29 rfl (ncast (nadd rfl (nl 1)) (by omega)) (by decide) rfl ?_
                        refine V.goto (pc := 32) 4 hC dX6_isUnder_32 (by decide) ?_
                        refine V.iload_n (pc := 4) 0 hC dX6_isUnder_4 rfl ?_
                        refine V.getAbove (pc := 5) hC fl_X6_291 dX6_isUnder_5 ?_
                        refine V.lenAbove (pc := 8) hC dX6_isUnder_8 ?_
                        refine V.icmp_ge (pc := 9) 35 hC dX6_isUnder_9 (by decide) (fun c_9_3 => ?_) (fun c_9_3 => ?_)
                        · have nc_9_3 : 7 ≤ 2 := (nle (nl 7) rfl (by omega) (by omega)).mp c_9_3
                          exact absurd c_9_3 (by decide)
                        · have nc_9_3 : ¬ (7 ≤ 2) := fun z => c_9_3 ((nle (nl 7) rfl (by omega) (by omega)).mpr z)
                          refine V.iload_n (pc := 12) 1 hC dX6_isUnder_12 rfl ?_
                          refine V.if_lt (pc := 13) 35 hC dX6_isUnder_13 (by decide) (fun c_13_3 => ?_) (fun c_13_3 => ?_)
                          · have nc_13_3 : 0 < 0 := (nlt (nl 0) (nl 0) (by omega) (by omega)).mp c_13_3
                            exact absurd c_13_3 (by decide)
                          · have nc_13_3 : ¬ (0 < 0) := fun z => c_13_3 ((nlt (nl 0) (nl 0) (by omega) (by omega)).mpr z)
                            refine V.iload_n (pc := 16) 1 hC dX6_isUnder_16 rfl ?_
                            refine V.iload_n (pc := 17) 3 hC dX6_isUnder_17 rfl ?_
                            refine V.icmp_ne (pc := 18) 23 hC dX6_isUnder_18 (by decide) (fun c_18_3 => ?_) (fun c_18_3 => ?_)
                            · refine V.getAbove (pc := 23) hC fl_X6_291 dX6_isUnder_23 ?_
                              refine V.iload_n (pc := 26) 1 hC dX6_isUnder_26 rfl ?_
                              refine V.ldAbove (pc := 27) hC 0 (-1) (nl 0) (by decide) rfl dX6_isUnder_27 ?_
                              refine V.istore_n (pc := 28) [(2, .int (-1)), (3, .int (nI 2)), (0, .int 4), (1, .int f)] hC dX6_isUnder_28 (by decide) rfl ?_
                              refine V.iinc (pc := 29) 1 (nI 3) [(3, .int (nI 3)), (2, .int (-1)), (0, .int 4), (1, .int f)] hC dX6_isUnder_29 rfl (ncast (nadd rfl (nl 1)) (by omega)) (by decide) rfl ?_
                              refine V.goto (pc := 32) 4 hC dX6_isUnder_32 (by decide) ?_
                              refine V.iload_n (pc := 4) 0 hC dX6_isUnder_4 rfl ?_
                              refine V.getAbove (pc := 5) hC fl_X6_291 dX6_isUnder_5 ?_
                              refine V.lenAbove (pc := 8) hC dX6_isUnder_8 ?_
                              refine V.icmp_ge (pc := 9) 35 hC dX6_isUnder_9 (by decide) (fun c_9_4 => ?_) (fun c_9_4 => ?_)
                              · have nc_9_4 : 7 ≤ 3 := (nle (nl 7) rfl (by omega) (by omega)).mp c_9_4
                                exact absurd c_9_4 (by decide)
                              · have nc_9_4 : ¬ (7 ≤ 3) := fun z => c_9_4 ((nle (nl 7) rfl (by omega) (by omega)).mpr z)
                                refine V.iload_n (pc := 12) 1 hC dX6_isUnder_12 rfl ?_
                                refine V.if_lt (pc := 13) 35 hC dX6_isUnder_13 (by decide) (fun c_13_4 => ?_) (fun c_13_4 => ?_)
                                · refine V.iconst (pc := 35) 0 hC dX6_isUnder_35 (by decide) ?_
                                  exact hR 0 () _ _ dX6_isUnder_36 (by first | rfl | exact bI_n _) (rb0 (fun q => by rcases q with q | q | ⟨q, r⟩ | ⟨q, r⟩ <;> first | exact c_18 q.symm | exact c_18_2 q.symm | exact c_18_3 q.symm | exact absurd r (by decide)))
                                · exact absurd c_13_4 (by decide)
                            · refine V.iconst (pc := 21) 1 hC dX6_isUnder_21 (by decide) ?_
                              exact hR 1 () _ _ dX6_isUnder_22 (by first | rfl | exact bI_n _) (rb1 (show asOk f 4 from Or.inl c_18_3.symm))
                      · refine V.iconst (pc := 21) 1 hC dX6_isUnder_21 (by decide) ?_
                        exact hR 1 () _ _ dX6_isUnder_22 (by first | rfl | exact bI_n _) (rb1 (show asOk f 4 from Or.inr (Or.inr (Or.inl ⟨c_18_2.symm, rfl⟩))))
                · refine V.iconst (pc := 21) 1 hC dX6_isUnder_21 (by decide) ?_
                  exact hR 1 () _ _ dX6_isUnder_22 (by first | rfl | exact bI_n _) (rb1 (show asOk f 4 from Or.inr (Or.inl c_18.symm)))
          · by_cases e5 : kd = 5
            · subst e5
              refine V.iload_n (pc := 0) 0 hC dX6_isUnder_0 rfl ?_
              refine V.istore_n (pc := 1) [(2, .int 5), (0, .int 5), (1, .int f)] hC dX6_isUnder_1 (by decide) rfl ?_
              refine V.iconst (pc := 2) 0 hC dX6_isUnder_2 (by decide) ?_
              refine V.istore_n (pc := 3) [(3, .int 0), (2, .int 5), (0, .int 5), (1, .int f)] hC dX6_isUnder_3 (by decide) rfl ?_
              refine V.iload_n (pc := 4) 0 hC dX6_isUnder_4 rfl ?_
              refine V.getAbove (pc := 5) hC fl_X6_291 dX6_isUnder_5 ?_
              refine V.lenAbove (pc := 8) hC dX6_isUnder_8 ?_
              refine V.icmp_ge (pc := 9) 35 hC dX6_isUnder_9 (by decide) (fun c_9 => ?_) (fun c_9 => ?_)
              · have nc_9 : 7 ≤ 0 := (nle (nl 7) (nl 0) (by omega) (by omega)).mp c_9
                exact absurd c_9 (by decide)
              · have nc_9 : ¬ (7 ≤ 0) := fun z => c_9 ((nle (nl 7) (nl 0) (by omega) (by omega)).mpr z)
                refine V.iload_n (pc := 12) 1 hC dX6_isUnder_12 rfl ?_
                refine V.if_lt (pc := 13) 35 hC dX6_isUnder_13 (by decide) (fun c_13 => ?_) (fun c_13 => ?_)
                · have nc_13 : 5 < 0 := (nlt (nl 5) (nl 0) (by omega) (by omega)).mp c_13
                  exact absurd c_13 (by decide)
                · have nc_13 : ¬ (5 < 0) := fun z => c_13 ((nlt (nl 5) (nl 0) (by omega) (by omega)).mpr z)
                  refine V.iload_n (pc := 16) 1 hC dX6_isUnder_16 rfl ?_
                  refine V.iload_n (pc := 17) 3 hC dX6_isUnder_17 rfl ?_
                  refine V.icmp_ne (pc := 18) 23 hC dX6_isUnder_18 (by decide) (fun c_18 => ?_) (fun c_18 => ?_)
                  · refine V.getAbove (pc := 23) hC fl_X6_291 dX6_isUnder_23 ?_
                    refine V.iload_n (pc := 26) 1 hC dX6_isUnder_26 rfl ?_
                    refine V.ldAbove (pc := 27) hC 5 2 (nl 5) (by decide) rfl dX6_isUnder_27 ?_
                    refine V.istore_n (pc := 28) [(2, .int 2), (3, .int 0), (0, .int 5), (1, .int f)] hC dX6_isUnder_28 (by decide) rfl ?_
                    refine V.iinc (pc := 29) 1 (nI 1) [(3, .int (nI 1)), (2, .int 2), (0, .int 5), (1, .int f)] hC dX6_isUnder_29 rfl (ncast (nadd (nl 0) (nl 1)) (by omega)) (by decide) rfl ?_
                    refine V.goto (pc := 32) 4 hC dX6_isUnder_32 (by decide) ?_
                    refine V.iload_n (pc := 4) 0 hC dX6_isUnder_4 rfl ?_
                    refine V.getAbove (pc := 5) hC fl_X6_291 dX6_isUnder_5 ?_
                    refine V.lenAbove (pc := 8) hC dX6_isUnder_8 ?_
                    refine V.icmp_ge (pc := 9) 35 hC dX6_isUnder_9 (by decide) (fun c_9_2 => ?_) (fun c_9_2 => ?_)
                    · have nc_9_2 : 7 ≤ 1 := (nle (nl 7) rfl (by omega) (by omega)).mp c_9_2
                      exact absurd c_9_2 (by decide)
                    · have nc_9_2 : ¬ (7 ≤ 1) := fun z => c_9_2 ((nle (nl 7) rfl (by omega) (by omega)).mpr z)
                      refine V.iload_n (pc := 12) 1 hC dX6_isUnder_12 rfl ?_
                      refine V.if_lt (pc := 13) 35 hC dX6_isUnder_13 (by decide) (fun c_13_2 => ?_) (fun c_13_2 => ?_)
                      · have nc_13_2 : 2 < 0 := (nlt (nl 2) (nl 0) (by omega) (by omega)).mp c_13_2
                        exact absurd c_13_2 (by decide)
                      · have nc_13_2 : ¬ (2 < 0) := fun z => c_13_2 ((nlt (nl 2) (nl 0) (by omega) (by omega)).mpr z)
                        refine V.iload_n (pc := 16) 1 hC dX6_isUnder_16 rfl ?_
                        refine V.iload_n (pc := 17) 3 hC dX6_isUnder_17 rfl ?_
                        refine V.icmp_ne (pc := 18) 23 hC dX6_isUnder_18 (by decide) (fun c_18_2 => ?_) (fun c_18_2 => ?_)
                        · refine V.getAbove (pc := 23) hC fl_X6_291 dX6_isUnder_23 ?_
                          refine V.iload_n (pc := 26) 1 hC dX6_isUnder_26 rfl ?_
                          refine V.ldAbove (pc := 27) hC 2 0 (nl 2) (by decide) rfl dX6_isUnder_27 ?_
                          refine V.istore_n (pc := 28) [(2, .int 0), (3, .int (nI 1)), (0, .int 5), (1, .int f)] hC dX6_isUnder_28 (by decide) rfl ?_
                          refine V.iinc (pc := 29) 1 (nI 2) [(3, .int (nI 2)), (2, .int 0), (0, .int 5), (1, .int f)] hC dX6_isUnder_29 rfl (ncast (nadd rfl (nl 1)) (by omega)) (by decide) rfl ?_
                          refine V.goto (pc := 32) 4 hC dX6_isUnder_32 (by decide) ?_
                          refine V.iload_n (pc := 4) 0 hC dX6_isUnder_4 rfl ?_
                          refine V.getAbove (pc := 5) hC fl_X6_291 dX6_isUnder_5 ?_
                          refine V.lenAbove (pc := 8) hC dX6_isUnder_8 ?_
                          refine V.icmp_ge (pc := 9) 35 hC dX6_isUnder_9 (by decide) (fun c_9_3 => ?_) (fun c_9_3 => ?_)
                          · have nc_9_3 : 7 ≤ 2 := (nle (nl 7) rfl (by omega) (by omega)).mp c_9_3
                            exact absurd c_9_3 (by decide)
                          · have nc_9_3 : ¬ (7 ≤ 2) := fun z => c_9_3 ((nle (nl 7) rfl (by omega) (by omega)).mpr z)
                            refine V.iload_n (pc := 12) 1 hC dX6_isUnder_12 rfl ?_
                            refine V.if_lt (pc := 13) 35 hC dX6_isUnder_13 (by decide) (fun c_13_3 => ?_) (fun c_13_3 => ?_)
                            · have nc_13_3 : 0 < 0 := (nlt (nl 0) (nl 0) (by omega) (by omega)).mp c_13_3
                              exact absurd c_13_3 (by decide)
                            · have nc_13_3 : ¬ (0 < 0) := fun z => c_13_3 ((nlt (nl 0) (nl 0) (by omega) (by omega)).mpr z)
                              refine V.iload_n (pc := 16) 1 hC dX6_isUnder_16 rfl ?_
                              refine V.iload_n (pc := 17) 3 hC dX6_isUnder_17 rfl ?_
                              refine V.icmp_ne (pc := 18) 23 hC dX6_isUnder_18 (by decide) (fun c_18_3 => ?_) (fun c_18_3 => ?_)
                              · refine V.getAbove (pc := 23) hC fl_X6_291 dX6_isUnder_23 ?_
                                refine V.iload_n (pc := 26) 1 hC dX6_isUnder_26 rfl ?_
                                refine V.ldAbove (pc := 27) hC 0 (-1) (nl 0) (by decide) rfl dX6_isUnder_27 ?_
                                refine V.istore_n (pc := 28) [(2, .int (-1)), (3, .int (nI 2)), (0, .int 5), (1, .int f)] hC dX6_isUnder_28 (by decide) rfl ?_
                                refine V.iinc (pc := 29) 1 (nI 3) [(3, .int (nI 3)), (2, .int (-1)), (0, .int 5), (1, .int f)] hC dX6_isUnder_29 rfl (ncast (nadd rfl (nl 1)) (by omega)) (by decide) rfl ?_
                                refine V.goto (pc := 32) 4 hC dX6_isUnder_32 (by decide) ?_
                                refine V.iload_n (pc := 4) 0 hC dX6_isUnder_4 rfl ?_
                                refine V.getAbove (pc := 5) hC fl_X6_291 dX6_isUnder_5 ?_
                                refine V.lenAbove (pc := 8) hC dX6_isUnder_8 ?_
                                refine V.icmp_ge (pc := 9) 35 hC dX6_isUnder_9 (by decide) (fun c_9_4 => ?_) (fun c_9_4 => ?_)
                                · have nc_9_4 : 7 ≤ 3 := (nle (nl 7) rfl (by omega) (by omega)).mp c_9_4
                                  exact absurd c_9_4 (by decide)
                                · have nc_9_4 : ¬ (7 ≤ 3) := fun z => c_9_4 ((nle (nl 7) rfl (by omega) (by omega)).mpr z)
                                  refine V.iload_n (pc := 12) 1 hC dX6_isUnder_12 rfl ?_
                                  refine V.if_lt (pc := 13) 35 hC dX6_isUnder_13 (by decide) (fun c_13_4 => ?_) (fun c_13_4 => ?_)
                                  · refine V.iconst (pc := 35) 0 hC dX6_isUnder_35 (by decide) ?_
                                    exact hR 0 () _ _ dX6_isUnder_36 (by first | rfl | exact bI_n _) (rb0 (fun q => by rcases q with q | q | ⟨q, r⟩ | ⟨q, r⟩ <;> first | exact c_18 q.symm | exact c_18_2 q.symm | exact c_18_3 q.symm | exact absurd r (by decide)))
                                  · exact absurd c_13_4 (by decide)
                              · refine V.iconst (pc := 21) 1 hC dX6_isUnder_21 (by decide) ?_
                                exact hR 1 () _ _ dX6_isUnder_22 (by first | rfl | exact bI_n _) (rb1 (show asOk f 5 from Or.inl c_18_3.symm))
                        · refine V.iconst (pc := 21) 1 hC dX6_isUnder_21 (by decide) ?_
                          exact hR 1 () _ _ dX6_isUnder_22 (by first | rfl | exact bI_n _) (rb1 (show asOk f 5 from Or.inr (Or.inr (Or.inr ⟨c_18_2.symm, rfl⟩))))
                  · refine V.iconst (pc := 21) 1 hC dX6_isUnder_21 (by decide) ?_
                    exact hR 1 () _ _ dX6_isUnder_22 (by first | rfl | exact bI_n _) (rb1 (show asOk f 5 from Or.inr (Or.inl c_18.symm)))
            · have e6 : kd = 6 := by have h := hk.1; have hb := hk.2; have g0 : ¬ nN kd = 0 := fun q => e0 (by rw [h, q]; rfl); have g1 : ¬ nN kd = 1 := fun q => e1 (by rw [h, q]; rfl); have g2 : ¬ nN kd = 2 := fun q => e2 (by rw [h, q]; rfl); have g3 : ¬ nN kd = 3 := fun q => e3 (by rw [h, q]; rfl); have g4 : ¬ nN kd = 4 := fun q => e4 (by rw [h, q]; rfl); have g5 : ¬ nN kd = 5 := fun q => e5 (by rw [h, q]; rfl); rw [h, show nN kd = 6 by omega]; rfl
              subst e6
              refine V.iload_n (pc := 0) 0 hC dX6_isUnder_0 rfl ?_
              refine V.istore_n (pc := 1) [(2, .int 6), (0, .int 6), (1, .int f)] hC dX6_isUnder_1 (by decide) rfl ?_
              refine V.iconst (pc := 2) 0 hC dX6_isUnder_2 (by decide) ?_
              refine V.istore_n (pc := 3) [(3, .int 0), (2, .int 6), (0, .int 6), (1, .int f)] hC dX6_isUnder_3 (by decide) rfl ?_
              refine V.iload_n (pc := 4) 0 hC dX6_isUnder_4 rfl ?_
              refine V.getAbove (pc := 5) hC fl_X6_291 dX6_isUnder_5 ?_
              refine V.lenAbove (pc := 8) hC dX6_isUnder_8 ?_
              refine V.icmp_ge (pc := 9) 35 hC dX6_isUnder_9 (by decide) (fun c_9 => ?_) (fun c_9 => ?_)
              · have nc_9 : 7 ≤ 0 := (nle (nl 7) (nl 0) (by omega) (by omega)).mp c_9
                exact absurd c_9 (by decide)
              · have nc_9 : ¬ (7 ≤ 0) := fun z => c_9 ((nle (nl 7) (nl 0) (by omega) (by omega)).mpr z)
                refine V.iload_n (pc := 12) 1 hC dX6_isUnder_12 rfl ?_
                refine V.if_lt (pc := 13) 35 hC dX6_isUnder_13 (by decide) (fun c_13 => ?_) (fun c_13 => ?_)
                · have nc_13 : 6 < 0 := (nlt (nl 6) (nl 0) (by omega) (by omega)).mp c_13
                  exact absurd c_13 (by decide)
                · have nc_13 : ¬ (6 < 0) := fun z => c_13 ((nlt (nl 6) (nl 0) (by omega) (by omega)).mpr z)
                  refine V.iload_n (pc := 16) 1 hC dX6_isUnder_16 rfl ?_
                  refine V.iload_n (pc := 17) 3 hC dX6_isUnder_17 rfl ?_
                  refine V.icmp_ne (pc := 18) 23 hC dX6_isUnder_18 (by decide) (fun c_18 => ?_) (fun c_18 => ?_)
                  · refine V.getAbove (pc := 23) hC fl_X6_291 dX6_isUnder_23 ?_
                    refine V.iload_n (pc := 26) 1 hC dX6_isUnder_26 rfl ?_
                    refine V.ldAbove (pc := 27) hC 6 0 (nl 6) (by decide) rfl dX6_isUnder_27 ?_
                    refine V.istore_n (pc := 28) [(2, .int 0), (3, .int 0), (0, .int 6), (1, .int f)] hC dX6_isUnder_28 (by decide) rfl ?_
                    refine V.iinc (pc := 29) 1 (nI 1) [(3, .int (nI 1)), (2, .int 0), (0, .int 6), (1, .int f)] hC dX6_isUnder_29 rfl (ncast (nadd (nl 0) (nl 1)) (by omega)) (by decide) rfl ?_
                    refine V.goto (pc := 32) 4 hC dX6_isUnder_32 (by decide) ?_
                    refine V.iload_n (pc := 4) 0 hC dX6_isUnder_4 rfl ?_
                    refine V.getAbove (pc := 5) hC fl_X6_291 dX6_isUnder_5 ?_
                    refine V.lenAbove (pc := 8) hC dX6_isUnder_8 ?_
                    refine V.icmp_ge (pc := 9) 35 hC dX6_isUnder_9 (by decide) (fun c_9_2 => ?_) (fun c_9_2 => ?_)
                    · have nc_9_2 : 7 ≤ 1 := (nle (nl 7) rfl (by omega) (by omega)).mp c_9_2
                      exact absurd c_9_2 (by decide)
                    · have nc_9_2 : ¬ (7 ≤ 1) := fun z => c_9_2 ((nle (nl 7) rfl (by omega) (by omega)).mpr z)
                      refine V.iload_n (pc := 12) 1 hC dX6_isUnder_12 rfl ?_
                      refine V.if_lt (pc := 13) 35 hC dX6_isUnder_13 (by decide) (fun c_13_2 => ?_) (fun c_13_2 => ?_)
                      · have nc_13_2 : 0 < 0 := (nlt (nl 0) (nl 0) (by omega) (by omega)).mp c_13_2
                        exact absurd c_13_2 (by decide)
                      · have nc_13_2 : ¬ (0 < 0) := fun z => c_13_2 ((nlt (nl 0) (nl 0) (by omega) (by omega)).mpr z)
                        refine V.iload_n (pc := 16) 1 hC dX6_isUnder_16 rfl ?_
                        refine V.iload_n (pc := 17) 3 hC dX6_isUnder_17 rfl ?_
                        refine V.icmp_ne (pc := 18) 23 hC dX6_isUnder_18 (by decide) (fun c_18_2 => ?_) (fun c_18_2 => ?_)
                        · refine V.getAbove (pc := 23) hC fl_X6_291 dX6_isUnder_23 ?_
                          refine V.iload_n (pc := 26) 1 hC dX6_isUnder_26 rfl ?_
                          refine V.ldAbove (pc := 27) hC 0 (-1) (nl 0) (by decide) rfl dX6_isUnder_27 ?_
                          refine V.istore_n (pc := 28) [(2, .int (-1)), (3, .int (nI 1)), (0, .int 6), (1, .int f)] hC dX6_isUnder_28 (by decide) rfl ?_
                          refine V.iinc (pc := 29) 1 (nI 2) [(3, .int (nI 2)), (2, .int (-1)), (0, .int 6), (1, .int f)] hC dX6_isUnder_29 rfl (ncast (nadd rfl (nl 1)) (by omega)) (by decide) rfl ?_
                          refine V.goto (pc := 32) 4 hC dX6_isUnder_32 (by decide) ?_
                          refine V.iload_n (pc := 4) 0 hC dX6_isUnder_4 rfl ?_
                          refine V.getAbove (pc := 5) hC fl_X6_291 dX6_isUnder_5 ?_
                          refine V.lenAbove (pc := 8) hC dX6_isUnder_8 ?_
                          refine V.icmp_ge (pc := 9) 35 hC dX6_isUnder_9 (by decide) (fun c_9_3 => ?_) (fun c_9_3 => ?_)
                          · have nc_9_3 : 7 ≤ 2 := (nle (nl 7) rfl (by omega) (by omega)).mp c_9_3
                            exact absurd c_9_3 (by decide)
                          · have nc_9_3 : ¬ (7 ≤ 2) := fun z => c_9_3 ((nle (nl 7) rfl (by omega) (by omega)).mpr z)
                            refine V.iload_n (pc := 12) 1 hC dX6_isUnder_12 rfl ?_
                            refine V.if_lt (pc := 13) 35 hC dX6_isUnder_13 (by decide) (fun c_13_3 => ?_) (fun c_13_3 => ?_)
                            · refine V.iconst (pc := 35) 0 hC dX6_isUnder_35 (by decide) ?_
                              exact hR 0 () _ _ dX6_isUnder_36 (by first | rfl | exact bI_n _) (rb0 (fun q => by rcases q with q | q | ⟨q, r⟩ | ⟨q, r⟩ <;> first | exact c_18 q.symm | exact c_18_2 q.symm | exact absurd r (by decide)))
                            · exact absurd c_13_3 (by decide)
                        · refine V.iconst (pc := 21) 1 hC dX6_isUnder_21 (by decide) ?_
                          exact hR 1 () _ _ dX6_isUnder_22 (by first | rfl | exact bI_n _) (rb1 (show asOk f 6 from Or.inl c_18_2.symm))
                  · refine V.iconst (pc := 21) 1 hC dX6_isUnder_21 (by decide) ?_
                    exact hR 1 () _ _ dX6_isUnder_22 (by first | rfl | exact bI_n _) (rb1 (show asOk f 6 from Or.inr (Or.inl c_18.symm)))
set_option maxHeartbeats 4000000 in
set_option maxRecDepth 100000 in
theorem c_X6_as {l : Launch} {D : va_G} {k : Nat → ClassId} {g a : Nat → Nat} (σ ν μ : St) (p kd : Int32) (hRR : RQ σ μ) : Ct l D k g yX6_as cX6_as 3 (some .int) 2 43 [.ref (a 0), .int p, .int kd] (S := St × St) (wX k g a σ ν) (fun uu => wX k g a uu.1 uu.2) (fun vv uu => vv = some (.int ((op_as p kd μ).1)) ∧ RQ uu.1 (op_as p kd μ).2) := by
  refine Ct.ofI RX6 rfl (by decide +kernel) (Nat.le_of_ble_eq_true rfl) (fun X hC hR => ?_)
  have hT := hRR.1.2.2.1.1; have hI := hRR.1.2.2.1.2
  have hb4 := hI.hb; have hb8 := hI.mb; have hb6 := hI.pb; have hbm := hI.ob0; have hbt := hI.bb; have hbw := hI.wb
  show V X (wX k g a σ ν) [(0, .ref (a 0)), (1, .int p), (2, .int kd)] [] 0
  refine V.aload_n (pc := 0) 0 hC dX6_as_0 rfl ?_
  refine V.get (pc := 1) (v := .ref (a 1)) hC cf_X6 0 0 fl_X6_10 (by decide) gx_0 rfl dX6_as_1 ?_
  refine V.iload_n (pc := 4) 1 hC dX6_as_4 rfl ?_
  refine V.callV0 (pc := 5) (as := [.int p]) hC (c_X3_hasPerson σ ν (μ 0) p hT hI) mu_X3_hasPerson ml_X6_121 (by decide) ⟨1, 3, TX3, 17, _, rfl, gx_1⟩ rfl (Nat.le_of_ble_eq_true rfl) dX6_as_5 ?_
  rintro _ _ rfl
  show V X (wX k g a σ ν) [(0, .ref (a 0)), (1, .int p), (2, .int kd)] [.int (bI (inS p 0 ((μ 0) 4 - 1)))] 8
  refine V.if_eq_b (P := inS p 0 ((μ 0) 4 - 1)) (pc := 8) 21 hC dX6_as_8 (by decide) (fun c_8 => ?_) (fun c_8 => ?_)
  · refine V.aload_n (pc := 21) 0 hC dX6_as_21 rfl ?_
    refine V.iconst (pc := 22) 1 hC dX6_as_22 (by decide) ?_
    refine V.sts (st' := [.int (nI 1), .ref (a 0)]) (stc (nl 1) (stk rfl)) ?_
    refine V.callV0 (pc := 23) (as := [.int (nI 1)]) hC (c_X6_error σ ν 1 (by omega)) mu_X6_error ml_X6_57 (by decide) ⟨0, 6, TX6, 8, _, rfl, gx_0⟩ rfl (Nat.le_of_ble_eq_true rfl) dX6_as_23 ?_
    rintro _ f23_0 ⟨rfl, hu23_0⟩
    have hu23_0 : f23_0 = upd (σ 0) 1 (σ 0 1 + 1) := hu23_0
    show V X (wX k g a (va_up σ 0 f23_0) ν) [(0, .ref (a 0)), (1, .int p), (2, .int kd)] [.int (lowE 1)] 26
    exact hR (lowE 1) ((va_up σ 0 f23_0), ν) _ _ dX6_as_26 rfl (ope (by rw [op_as, if_pos c_8] <;> rfl) (hRR.er (by omega) hu23_0))
  · have hh_p := inS_n c_8 hI.pn (by omega)
    refine V.iload_n (pc := 11) 2 hC dX6_as_11 rfl ?_
    refine V.iconst (pc := 12) 0 hC dX6_as_12 (by decide) ?_
    refine V.bipush (pc := 13) 6 hC dX6_as_13 (by decide) ?_
    refine V.callS0 (pc := 15) (as := [.int kd, .int 0, .int 6]) hC (c_X6_within kd 0 6 ) ms_X6_within ml_X6_53 (by decide) rfl (Nat.le_of_ble_eq_true rfl) dX6_as_15 ?_
    rintro _ _ rfl
    show V X (wX k g a σ ν) [(0, .ref (a 0)), (1, .int p), (2, .int kd)] [.int (bI (inS kd 0 6))] 18
    refine V.if_ne_b (P := inS kd 0 6) (pc := 18) 27 hC dX6_as_18 (by decide) (fun c_18 => ?_) (fun c_18 => ?_)
    · refine V.aload_n (pc := 27) 0 hC dX6_as_27 rfl ?_
      refine V.get (pc := 28) (v := .ref (a 1)) hC cf_X6 0 0 fl_X6_10 (by decide) gx_0 rfl dX6_as_28 ?_
      refine V.get (pc := 31) (v := .ref (a 17)) hC cf_X3 1 7 fl_X6_124 (by decide) gx_1 rfl dX6_as_31 ?_
      refine V.iload_n (pc := 34) 1 hC dX6_as_34 rfl ?_
      refine V.iald (pc := 35) (f := σ 17) hC 12 (nN p) gx_12 hh_p.1 (by omega) (by decide) dX6_as_35 ?_
      refine V.eqi (y := μ 0 (31 + 3 * (nN p))) (hT.2.2.1.2.1 (nN p) (by omega)) ?_
      refine V.iload_n (pc := 36) 2 hC dX6_as_36 rfl ?_
      refine V.callS0 (pc := 37) (as := [.int (μ 0 (31 + 3 * (nN p))), .int kd]) hC (c_X6_isUnder (μ 0 (31 + 3 * (nN p))) kd ⟨hI.kn hh_p.2, hI.kb hh_p.2⟩) ms_X6_isUnder ml_X6_146 (by decide) rfl (Nat.le_of_ble_eq_true rfl) dX6_as_37 ?_
      rintro _ _ rfl
      show V X (wX k g a σ ν) [(0, .ref (a 0)), (1, .int p), (2, .int kd)] [.int (bI (asOk kd (μ 0 (31 + 3 * (nN p)))))] 40
      refine V.if_ne_b (P := asOk kd (μ 0 (31 + 3 * (nN p)))) (pc := 40) 49 hC dX6_as_40 (by decide) (fun c_40 => ?_) (fun c_40 => ?_)
      · refine V.aload_n (pc := 49) 0 hC dX6_as_49 rfl ?_
        refine V.get (pc := 50) (v := .ref (a 1)) hC cf_X6 0 0 fl_X6_10 (by decide) gx_0 rfl dX6_as_50 ?_
        refine V.get (pc := 53) (v := .ref (a 18)) hC cf_X3 1 8 fl_X6_127 (by decide) gx_1 rfl dX6_as_53 ?_
        refine V.iload_n (pc := 56) 1 hC dX6_as_56 rfl ?_
        refine V.iald (pc := 57) (f := σ 18) hC 13 (nN p) gx_13 hh_p.1 (by omega) (by decide) dX6_as_57 ?_
        refine V.eqi (y := μ 0 (32 + 3 * (nN p))) (hT.2.2.1.2.2.1 (nN p) (by omega)) ?_
        exact hR (μ 0 (32 + 3 * (nN p))) (σ, ν) _ _ dX6_as_58 rfl (opc (m := μ) (by rw [op_as, if_neg (not_not_intro c_8), if_neg (not_not_intro c_18), if_pos c_40] <;> rfl) hRR)
      · refine V.aload_n (pc := 43) 0 hC dX6_as_43 rfl ?_
        refine V.iconst (pc := 44) 5 hC dX6_as_44 (by decide) ?_
        refine V.sts (st' := [.int (nI 5), .ref (a 0)]) (stc (nl 5) (stk rfl)) ?_
        refine V.callV0 (pc := 45) (as := [.int (nI 5)]) hC (c_X6_error σ ν 5 (by omega)) mu_X6_error ml_X6_57 (by decide) ⟨0, 6, TX6, 8, _, rfl, gx_0⟩ rfl (Nat.le_of_ble_eq_true rfl) dX6_as_45 ?_
        rintro _ f45_0 ⟨rfl, hu45_0⟩
        have hu45_0 : f45_0 = upd (σ 0) 5 (σ 0 5 + 1) := hu45_0
        show V X (wX k g a (va_up σ 0 f45_0) ν) [(0, .ref (a 0)), (1, .int p), (2, .int kd)] [.int (lowE 5)] 48
        exact hR (lowE 5) ((va_up σ 0 f45_0), ν) _ _ dX6_as_48 rfl (ope (by rw [op_as, if_neg (not_not_intro c_8), if_neg (not_not_intro c_18), if_neg c_40] <;> rfl) (hRR.er (by omega) hu45_0))
    · refine V.aload_n (pc := 21) 0 hC dX6_as_21 rfl ?_
      refine V.iconst (pc := 22) 1 hC dX6_as_22 (by decide) ?_
      refine V.sts (st' := [.int (nI 1), .ref (a 0)]) (stc (nl 1) (stk rfl)) ?_
      refine V.callV0 (pc := 23) (as := [.int (nI 1)]) hC (c_X6_error σ ν 1 (by omega)) mu_X6_error ml_X6_57 (by decide) ⟨0, 6, TX6, 8, _, rfl, gx_0⟩ rfl (Nat.le_of_ble_eq_true rfl) dX6_as_23 ?_
      rintro _ f23_0 ⟨rfl, hu23_0⟩
      have hu23_0 : f23_0 = upd (σ 0) 1 (σ 0 1 + 1) := hu23_0
      show V X (wX k g a (va_up σ 0 f23_0) ν) [(0, .ref (a 0)), (1, .int p), (2, .int kd)] [.int (lowE 1)] 26
      exact hR (lowE 1) ((va_up σ 0 f23_0), ν) _ _ dX6_as_26 rfl (ope (by rw [op_as, if_neg (not_not_intro c_8), if_pos c_18] <;> rfl) (hRR.er (by omega) hu23_0))
set_option maxHeartbeats 4000000 in
set_option maxRecDepth 100000 in
theorem c_X6_soonest {l : Launch} {D : va_G} {k : Nat → ClassId} {g a : Nat → Nat} (σ ν μ : St) (p h : Int32) (hRR : RQ σ μ) : Ct l D k g yX6_soonest cX6_soonest 4 (some .int) 6 146 [.ref (a 0), .int p, .int h] (S := St × St) (wX k g a σ ν) (fun uu => wX k g a uu.1 uu.2) (fun vv uu => vv = some (.int ((op_soonest p h μ).1)) ∧ RQ uu.1 (op_soonest p h μ).2) := by
  refine Ct.ofI RX6 rfl (by decide +kernel) (Nat.le_of_ble_eq_true rfl) (fun X hC hR => ?_)
  have hT := hRR.1.2.2.1.1; have hI := hRR.1.2.2.1.2
  have hb4 := hI.hb; have hb8 := hI.mb; have hb6 := hI.pb; have hbm := hI.ob0; have hbt := hI.bb; have hbw := hI.wb
  show V X (wX k g a σ ν) [(0, .ref (a 0)), (1, .int p), (2, .int h)] [] 0
  refine V.aload_n (pc := 0) 0 hC dX6_soonest_0 rfl ?_
  refine V.get (pc := 1) (v := .ref (a 1)) hC cf_X6 0 0 fl_X6_10 (by decide) gx_0 rfl dX6_soonest_1 ?_
  refine V.iload_n (pc := 4) 1 hC dX6_soonest_4 rfl ?_
  refine V.callV0 (pc := 5) (as := [.int p]) hC (c_X3_hasPerson σ ν (μ 0) p hT hI) mu_X3_hasPerson ml_X6_121 (by decide) ⟨1, 3, TX3, 17, _, rfl, gx_1⟩ rfl (Nat.le_of_ble_eq_true rfl) dX6_soonest_5 ?_
  rintro _ _ rfl
  show V X (wX k g a σ ν) [(0, .ref (a 0)), (1, .int p), (2, .int h)] [.int (bI (inS p 0 ((μ 0) 4 - 1)))] 8
  refine V.if_eq_b (P := inS p 0 ((μ 0) 4 - 1)) (pc := 8) 22 hC dX6_soonest_8 (by decide) (fun c_8 => ?_) (fun c_8 => ?_)
  · refine V.aload_n (pc := 22) 0 hC dX6_soonest_22 rfl ?_
    refine V.iconst (pc := 23) 1 hC dX6_soonest_23 (by decide) ?_
    refine V.sts (st' := [.int (nI 1), .ref (a 0)]) (stc (nl 1) (stk rfl)) ?_
    refine V.callV0 (pc := 24) (as := [.int (nI 1)]) hC (c_X6_error σ ν 1 (by omega)) mu_X6_error ml_X6_57 (by decide) ⟨0, 6, TX6, 8, _, rfl, gx_0⟩ rfl (Nat.le_of_ble_eq_true rfl) dX6_soonest_24 ?_
    rintro _ f24_0 ⟨rfl, hu24_0⟩
    have hu24_0 : f24_0 = upd (σ 0) 1 (σ 0 1 + 1) := hu24_0
    show V X (wX k g a (va_up σ 0 f24_0) ν) [(0, .ref (a 0)), (1, .int p), (2, .int h)] [.int (lowE 1)] 27
    exact hR (lowE 1) ((va_up σ 0 f24_0), ν) _ _ dX6_soonest_27 rfl (ope (by rw [op_soonest, if_pos c_8] <;> rfl) (hRR.er (by omega) hu24_0))
  · refine V.aload_n (pc := 11) 0 hC dX6_soonest_11 rfl ?_
    refine V.get (pc := 12) (v := .ref (a 1)) hC cf_X6 0 0 fl_X6_10 (by decide) gx_0 rfl dX6_soonest_12 ?_
    refine V.iload_n (pc := 15) 2 hC dX6_soonest_15 rfl ?_
    refine V.callV0 (pc := 16) (as := [.int h]) hC (c_X3_hasHome σ ν (μ 0) h hT hI) mu_X3_hasHome ml_X6_97 (by decide) ⟨1, 3, TX3, 17, _, rfl, gx_1⟩ rfl (Nat.le_of_ble_eq_true rfl) dX6_soonest_16 ?_
    rintro _ _ rfl
    show V X (wX k g a σ ν) [(0, .ref (a 0)), (1, .int p), (2, .int h)] [.int (bI (inS h 0 ((μ 0) 3 - 1)))] 19
    refine V.if_ne_b (P := inS h 0 ((μ 0) 3 - 1)) (pc := 19) 28 hC dX6_soonest_19 (by decide) (fun c_19 => ?_) (fun c_19 => ?_)
    · have hh_p := inS_n c_8 hI.pn (by omega)
      have hh_h := inS_n c_19 hI.mn (by omega)
      refine V.aload_n (pc := 28) 0 hC dX6_soonest_28 rfl ?_
      refine V.get (pc := 29) (v := .ref (a 4)) hC cf_X6 0 3 fl_X6_31 (by decide) gx_0 rfl dX6_soonest_29 ?_
      refine V.iload_n (pc := 32) 1 hC dX6_soonest_32 rfl ?_
      refine V.iload_n (pc := 33) 2 hC dX6_soonest_33 rfl ?_
      refine V.sts (st' := [.int (nI (nN h)), .int (nI (nN p)), .ref (a 4)]) (stc hh_h.1 (stc hh_p.1 (stk rfl))) ?_
      refine V.callV0 (pc := 34) (as := [.int (nI (nN p)), .int (nI (nN h))]) hC (c_X5_firstIn σ ν (μ 0) (nN p) (nN h) hT hI hh_p.2 hh_h.2) mu_X5_firstIn ml_X6_203 (by decide) ⟨4, 5, TX5, 6, _, rfl, gx_4⟩ rfl (Nat.le_of_ble_eq_true rfl) dX6_soonest_34 ?_
      rintro _ ⟨f34_0, f34_1, f34_2, f34_3, f34_4⟩ rfl
      show V X (wX k g a σ (va_up (va_up (va_up (va_up (va_up ν 31 f34_0) 74 f34_1) 75 f34_2) 76 f34_3) 77 f34_4)) [(0, .ref (a 0)), (1, .int p), (2, .int h)] [.int (if 720 < sooV (μ 0) (nN p) (nI (nN h)) then -1 else nI (sooV (μ 0) (nN p) (nI (nN h))))] 37
      by_cases sS : 720 < sooV (μ 0) (nN p) h
      · refine V.eqi (y := (-1)) (by rw [← hh_h.1]; exact if_pos sS) ?_
        refine V.istore_n (pc := 37) [(3, .int (-1)), (0, .ref (a 0)), (1, .int p), (2, .int h)] hC dX6_soonest_37 (by decide) rfl ?_
        refine V.iload_n (pc := 38) 0 hC dX6_soonest_38 rfl ?_
        refine V.if_ge (pc := 39) 50 hC dX6_soonest_39 (by decide) (fun c_39 => ?_) (fun c_39 => ?_)
        · exact absurd c_39 (by decide)
        · refine V.aload_n (pc := 42) 1 hC dX6_soonest_42 rfl ?_
          refine V.iconst (pc := 43) 2 hC dX6_soonest_43 (by decide) ?_
          refine V.sts (st' := [.int (nI 2), .ref (a 0)]) (stc (nl 2) (stk rfl)) ?_
          refine V.callV0 (pc := 44) (as := [.int (nI 2)]) hC (c_X6_error σ (va_up (va_up (va_up (va_up (va_up ν 31 f34_0) 74 f34_1) 75 f34_2) 76 f34_3) 77 f34_4) 2 (by omega)) mu_X6_error ml_X6_57 (by decide) ⟨0, 6, TX6, 8, _, rfl, gx_0⟩ rfl (Nat.le_of_ble_eq_true rfl) dX6_soonest_44 ?_
          rintro _ f44_0 ⟨rfl, hu44_0⟩
          have hu44_0 : f44_0 = upd (σ 0) 2 (σ 0 2 + 1) := hu44_0
          show V X (wX k g a (va_up σ 0 f44_0) (va_up (va_up (va_up (va_up (va_up ν 31 f34_0) 74 f34_1) 75 f34_2) 76 f34_3) 77 f34_4)) [(3, .int (-1)), (0, .ref (a 0)), (1, .int p), (2, .int h)] [.int (lowE 2)] 47
          refine V.goto (pc := 47) 51 hC dX6_soonest_47 (by decide) ?_
          exact hR (lowE 2) ((va_up σ 0 f44_0), (va_up (va_up (va_up (va_up (va_up ν 31 f34_0) 74 f34_1) 75 f34_2) 76 f34_3) 77 f34_4)) _ _ dX6_soonest_51 rfl (ope (by rw [op_soonest, if_neg (not_not_intro c_8), if_neg (not_not_intro c_19), if_pos sS] <;> rfl) (hRR.er (by omega) hu44_0))
      · refine V.eqi (y := nI (sooV (μ 0) (nN p) h)) (by rw [← hh_h.1]; exact if_neg sS) ?_
        refine V.istore_n (pc := 37) [(3, .int (nI (sooV (μ 0) (nN p) h))), (0, .ref (a 0)), (1, .int p), (2, .int h)] hC dX6_soonest_37 (by decide) rfl ?_
        refine V.iload_n (pc := 38) 0 hC dX6_soonest_38 rfl ?_
        refine V.if_ge (pc := 39) 50 hC dX6_soonest_39 (by decide) (fun c_39 => ?_) (fun c_39 => ?_)
        · have nc_39 : 0 ≤ sooV (μ 0) (nN p) h := (nle (nl 0) rfl (by omega) (by omega)).mp c_39
          refine V.iload_n (pc := 50) 0 hC dX6_soonest_50 rfl ?_
          exact hR (nI (sooV (μ 0) (nN p) h)) (σ, (va_up (va_up (va_up (va_up (va_up ν 31 f34_0) 74 f34_1) 75 f34_2) 76 f34_3) 77 f34_4)) _ _ dX6_soonest_51 rfl (opc (m := μ) (by rw [op_soonest, if_neg (not_not_intro c_8), if_neg (not_not_intro c_19), if_neg sS] <;> rfl) hRR)
        · have nc_39 : ¬ (0 ≤ sooV (μ 0) (nN p) h) := fun z => c_39 ((nle (nl 0) rfl (by omega) (by omega)).mpr z)
          exfalso; omega
    · refine V.aload_n (pc := 22) 0 hC dX6_soonest_22 rfl ?_
      refine V.iconst (pc := 23) 1 hC dX6_soonest_23 (by decide) ?_
      refine V.sts (st' := [.int (nI 1), .ref (a 0)]) (stc (nl 1) (stk rfl)) ?_
      refine V.callV0 (pc := 24) (as := [.int (nI 1)]) hC (c_X6_error σ ν 1 (by omega)) mu_X6_error ml_X6_57 (by decide) ⟨0, 6, TX6, 8, _, rfl, gx_0⟩ rfl (Nat.le_of_ble_eq_true rfl) dX6_soonest_24 ?_
      rintro _ f24_0 ⟨rfl, hu24_0⟩
      have hu24_0 : f24_0 = upd (σ 0) 1 (σ 0 1 + 1) := hu24_0
      show V X (wX k g a (va_up σ 0 f24_0) ν) [(0, .ref (a 0)), (1, .int p), (2, .int h)] [.int (lowE 1)] 27
      exact hR (lowE 1) ((va_up σ 0 f24_0), ν) _ _ dX6_soonest_27 rfl (ope (by rw [op_soonest, if_neg (not_not_intro c_8), if_pos c_19] <;> rfl) (hRR.er (by omega) hu24_0))
set_option maxHeartbeats 4000000 in
set_option maxRecDepth 100000 in
theorem c_X6_rooms {l : Launch} {D : va_G} {k : Nat → ClassId} {g a : Nat → Nat} (σ ν μ : St) (p m : Int32) (hRR : RQ σ μ) : Ct l D k g yX6_rooms cX6_rooms 3 (some .int) 6 147 [.ref (a 0), .int p, .int m] (S := St × St) (wX k g a σ ν) (fun uu => wX k g a uu.1 uu.2) (fun vv uu => vv = some (.int ((op_rooms p m μ).1)) ∧ RQ uu.1 (op_rooms p m μ).2) := by
  refine Ct.ofI RX6 rfl (by decide +kernel) (Nat.le_of_ble_eq_true rfl) (fun X hC hR => ?_)
  have hT := hRR.1.2.2.1.1; have hI := hRR.1.2.2.1.2
  have hb4 := hI.hb; have hb8 := hI.mb; have hb6 := hI.pb; have hbm := hI.ob0; have hbt := hI.bb; have hbw := hI.wb
  show V X (wX k g a σ ν) [(0, .ref (a 0)), (1, .int p), (2, .int m)] [] 0
  refine V.aload_n (pc := 0) 0 hC dX6_rooms_0 rfl ?_
  refine V.get (pc := 1) (v := .ref (a 1)) hC cf_X6 0 0 fl_X6_10 (by decide) gx_0 rfl dX6_rooms_1 ?_
  refine V.iload_n (pc := 4) 1 hC dX6_rooms_4 rfl ?_
  refine V.callV0 (pc := 5) (as := [.int p]) hC (c_X3_hasPerson σ ν (μ 0) p hT hI) mu_X3_hasPerson ml_X6_121 (by decide) ⟨1, 3, TX3, 17, _, rfl, gx_1⟩ rfl (Nat.le_of_ble_eq_true rfl) dX6_rooms_5 ?_
  rintro _ _ rfl
  show V X (wX k g a σ ν) [(0, .ref (a 0)), (1, .int p), (2, .int m)] [.int (bI (inS p 0 ((μ 0) 4 - 1)))] 8
  refine V.if_eq_b (P := inS p 0 ((μ 0) 4 - 1)) (pc := 8) 22 hC dX6_rooms_8 (by decide) (fun c_8 => ?_) (fun c_8 => ?_)
  · refine V.aload_n (pc := 22) 0 hC dX6_rooms_22 rfl ?_
    refine V.iconst (pc := 23) 1 hC dX6_rooms_23 (by decide) ?_
    refine V.sts (st' := [.int (nI 1), .ref (a 0)]) (stc (nl 1) (stk rfl)) ?_
    refine V.callV0 (pc := 24) (as := [.int (nI 1)]) hC (c_X6_error σ ν 1 (by omega)) mu_X6_error ml_X6_57 (by decide) ⟨0, 6, TX6, 8, _, rfl, gx_0⟩ rfl (Nat.le_of_ble_eq_true rfl) dX6_rooms_24 ?_
    rintro _ f24_0 ⟨rfl, hu24_0⟩
    have hu24_0 : f24_0 = upd (σ 0) 1 (σ 0 1 + 1) := hu24_0
    show V X (wX k g a (va_up σ 0 f24_0) ν) [(0, .ref (a 0)), (1, .int p), (2, .int m)] [.int (lowE 1)] 27
    exact hR (lowE 1) ((va_up σ 0 f24_0), ν) _ _ dX6_rooms_27 rfl (ope (by rw [op_rooms, if_pos c_8] <;> rfl) (hRR.er (by omega) hu24_0))
  · refine V.iload_n (pc := 11) 2 hC dX6_rooms_11 rfl ?_
    refine V.iconst (pc := 12) 0 hC dX6_rooms_12 (by decide) ?_
    refine V.sipush (pc := 13) 720 hC dX6_rooms_13 (by decide) ?_
    refine V.callS0 (pc := 16) (as := [.int m, .int 0, .int 720]) hC (c_X6_within m 0 720 ) ms_X6_within ml_X6_53 (by decide) rfl (Nat.le_of_ble_eq_true rfl) dX6_rooms_16 ?_
    rintro _ _ rfl
    show V X (wX k g a σ ν) [(0, .ref (a 0)), (1, .int p), (2, .int m)] [.int (bI (inS m 0 720))] 19
    refine V.if_ne_b (P := inS m 0 720) (pc := 19) 28 hC dX6_rooms_19 (by decide) (fun c_19 => ?_) (fun c_19 => ?_)
    · have hh_p := inS_n c_8 hI.pn (by omega)
      have hh_m := inS_c c_19 (nl 720) (by omega)
      refine V.aload_n (pc := 28) 0 hC dX6_rooms_28 rfl ?_
      refine V.get (pc := 29) (v := .ref (a 4)) hC cf_X6 0 3 fl_X6_31 (by decide) gx_0 rfl dX6_rooms_29 ?_
      refine V.iload_n (pc := 32) 1 hC dX6_rooms_32 rfl ?_
      refine V.iload_n (pc := 33) 2 hC dX6_rooms_33 rfl ?_
      refine V.sts (st' := [.int (nI (nN m)), .int (nI (nN p)), .ref (a 4)]) (stc hh_m.1 (stc hh_p.1 (stk rfl))) ?_
      refine V.callV0 (pc := 34) (as := [.int (nI (nN p)), .int (nI (nN m))]) hC (c_X5_roomsBehind σ ν (μ 0) (nN p) (nN m) hT hI hh_p.2 hh_m.2) mu_X5_roomsBehind ml_X6_139 (by decide) ⟨4, 5, TX5, 6, _, rfl, gx_4⟩ rfl (Nat.le_of_ble_eq_true rfl) dX6_rooms_34 ?_
      rintro _ ⟨f34_0, f34_1, f34_2, f34_3, f34_4⟩ rfl
      show V X (wX k g a σ (va_up (va_up (va_up (va_up (va_up ν 31 f34_0) 74 f34_1) 75 f34_2) 76 f34_3) 77 f34_4)) [(0, .ref (a 0)), (1, .int p), (2, .int m)] [.int (roomsByS (μ 0) (nN p) (nN m))] 37
      exact hR (roomsByS (μ 0) (nN p) (nN m)) (σ, (va_up (va_up (va_up (va_up (va_up ν 31 f34_0) 74 f34_1) 75 f34_2) 76 f34_3) 77 f34_4)) _ _ dX6_rooms_37 rfl (opc (m := μ) (by rw [op_rooms, if_neg (not_not_intro c_8), if_neg (not_not_intro c_19)] <;> rfl) hRR)
    · refine V.aload_n (pc := 22) 0 hC dX6_rooms_22 rfl ?_
      refine V.iconst (pc := 23) 1 hC dX6_rooms_23 (by decide) ?_
      refine V.sts (st' := [.int (nI 1), .ref (a 0)]) (stc (nl 1) (stk rfl)) ?_
      refine V.callV0 (pc := 24) (as := [.int (nI 1)]) hC (c_X6_error σ ν 1 (by omega)) mu_X6_error ml_X6_57 (by decide) ⟨0, 6, TX6, 8, _, rfl, gx_0⟩ rfl (Nat.le_of_ble_eq_true rfl) dX6_rooms_24 ?_
      rintro _ f24_0 ⟨rfl, hu24_0⟩
      have hu24_0 : f24_0 = upd (σ 0) 1 (σ 0 1 + 1) := hu24_0
      show V X (wX k g a (va_up σ 0 f24_0) ν) [(0, .ref (a 0)), (1, .int p), (2, .int m)] [.int (lowE 1)] 27
      exact hR (lowE 1) ((va_up σ 0 f24_0), ν) _ _ dX6_rooms_27 rfl (ope (by rw [op_rooms, if_neg (not_not_intro c_8), if_pos c_19] <;> rfl) (hRR.er (by omega) hu24_0))
theorem wat_b {ρ : Rw} (hI : Inv ρ) {p m : Nat} {h : Int32} : watS ρ p m h = -1 ∨ (watS ρ p m h = nI (nN (watS ρ p m h)) ∧ nN (watS ρ p m h) < 256) := by
  have hpow : 2 ^ nN (ρ 3) ≤ 256 := Nat.le_trans (Nat.pow_le_pow_right (by omega) hI.mb) (by decide)
  exact run_ind (f := watF ρ p m h (reW ρ p)) (fun _ s => s = -1 ∨ (s = nI (nN s) ∧ nN s < 256)) (2 ^ nN (ρ 3)) 0 (-1) (Or.inl rfl) (fun i s _ hi hs => by
    unfold watF
    split
    · split
      · exact Or.inr ⟨by rw [nN_nI (by omega)], by rw [nN_nI (by omega)]; omega⟩
      · exact hs
    · exact hs)
def cdD : Nat → Nat → Nat
  | 0, _ => 1
  | d + 1, x => if 1 < d + 1 ∧ x % (d + 1) = 0 ∧ 60 % (d + 1) = 0 then d + 1 else cdD d x
theorem cd_t : (List.range 61).all (fun c => decide (cdD 60 c = Nat.gcd c 60)) = true := by decide +kernel
theorem cd_v {c : Nat} (h : c ≤ 60) : cdD 60 c = Nat.gcd c 60 := of_decide_eq_true (List.all_eq_true.mp cd_t c (List.mem_range.mpr (by omega)))
theorem gcd_b {c : Nat} : 1 ≤ Nat.gcd c 60 ∧ Nat.gcd c 60 ≤ 60 := ⟨Nat.gcd_pos_of_pos_right c (by omega), Nat.gcd_le_right c (by omega)⟩
theorem cd_y {d x : Nat} (h1 : 1 < d) (h2 : x % d = 0) (h3 : 60 % d = 0) : cdD d x = d := by
  obtain ⟨c, rfl⟩ : ∃ c, d = c + 1 := ⟨d - 1, by omega⟩
  rw [cdD, if_pos ⟨h1, h2, h3⟩]
theorem cd_n {d x : Nat} (h1 : 1 < d) (h : ¬ (x % d = 0 ∧ 60 % d = 0)) : cdD d x = cdD (d - 1) x := by
  obtain ⟨c, rfl⟩ : ∃ c, d = c + 1 := ⟨d - 1, by omega⟩
  rw [cdD, if_neg (fun q => h q.2), Nat.add_sub_cancel]

set_option maxHeartbeats 4000000 in
set_option maxRecDepth 100000 in
theorem c_X6_watch {l : Launch} {D : va_G} {k : Nat → ClassId} {g a : Nat → Nat} (σ ν μ : St) (p h m w : Int32) (hRR : RQ σ μ) : Ct l D k g yX6_watch cX6_watch 6 (some .int) 6 151 [.ref (a 0), .int p, .int h, .int m, .int w] (S := St × St) (wX k g a σ ν) (fun uu => wX k g a uu.1 uu.2) (fun vv uu => vv = some (.int ((op_watch p h m w μ).1)) ∧ RQ uu.1 (op_watch p h m w μ).2) := by
  refine Ct.ofI RX6 rfl (by decide +kernel) (Nat.le_of_ble_eq_true rfl) (fun X hC hR => ?_)
  have hT := hRR.1.2.2.1.1; have hI := hRR.1.2.2.1.2
  have hb4 := hI.hb; have hb8 := hI.mb; have hb6 := hI.pb; have hbm := hI.ob0; have hbt := hI.bb; have hbw := hI.wb
  show V X (wX k g a σ ν) [(0, .ref (a 0)), (1, .int p), (2, .int h), (3, .int m), (4, .int w)] [] 0
  refine V.aload_n (pc := 0) 0 hC dX6_watch_0 rfl ?_
  refine V.get (pc := 1) (v := .ref (a 1)) hC cf_X6 0 0 fl_X6_10 (by decide) gx_0 rfl dX6_watch_1 ?_
  refine V.iload_n (pc := 4) 1 hC dX6_watch_4 rfl ?_
  refine V.callV0 (pc := 5) (as := [.int p]) hC (c_X3_hasPerson σ ν (μ 0) p hT hI) mu_X3_hasPerson ml_X6_121 (by decide) ⟨1, 3, TX3, 17, _, rfl, gx_1⟩ rfl (Nat.le_of_ble_eq_true rfl) dX6_watch_5 ?_
  rintro _ _ rfl
  show V X (wX k g a σ ν) [(0, .ref (a 0)), (1, .int p), (2, .int h), (3, .int m), (4, .int w)] [.int (bI (inS p 0 ((μ 0) 4 - 1)))] 8
  refine V.if_eq_b (P := inS p 0 ((μ 0) 4 - 1)) (pc := 8) 42 hC dX6_watch_8 (by decide) (fun c_8 => ?_) (fun c_8 => ?_)
  · refine V.aload_n (pc := 42) 0 hC dX6_watch_42 rfl ?_
    refine V.iconst (pc := 43) 1 hC dX6_watch_43 (by decide) ?_
    refine V.sts (st' := [.int (nI 1), .ref (a 0)]) (stc (nl 1) (stk rfl)) ?_
    refine V.callV0 (pc := 44) (as := [.int (nI 1)]) hC (c_X6_error σ ν 1 (by omega)) mu_X6_error ml_X6_57 (by decide) ⟨0, 6, TX6, 8, _, rfl, gx_0⟩ rfl (Nat.le_of_ble_eq_true rfl) dX6_watch_44 ?_
    rintro _ f44_0 ⟨rfl, hu44_0⟩
    have hu44_0 : f44_0 = upd (σ 0) 1 (σ 0 1 + 1) := hu44_0
    show V X (wX k g a (va_up σ 0 f44_0) ν) [(0, .ref (a 0)), (1, .int p), (2, .int h), (3, .int m), (4, .int w)] [.int (lowE 1)] 47
    exact hR (lowE 1) ((va_up σ 0 f44_0), ν) _ _ dX6_watch_47 rfl (ope (by rw [op_watch, if_pos c_8] <;> rfl) (hRR.er (by omega) hu44_0))
  · refine V.aload_n (pc := 11) 0 hC dX6_watch_11 rfl ?_
    refine V.get (pc := 12) (v := .ref (a 1)) hC cf_X6 0 0 fl_X6_10 (by decide) gx_0 rfl dX6_watch_12 ?_
    refine V.iload_n (pc := 15) 2 hC dX6_watch_15 rfl ?_
    refine V.callV0 (pc := 16) (as := [.int h]) hC (c_X3_hasHome σ ν (μ 0) h hT hI) mu_X3_hasHome ml_X6_97 (by decide) ⟨1, 3, TX3, 17, _, rfl, gx_1⟩ rfl (Nat.le_of_ble_eq_true rfl) dX6_watch_16 ?_
    rintro _ _ rfl
    show V X (wX k g a σ ν) [(0, .ref (a 0)), (1, .int p), (2, .int h), (3, .int m), (4, .int w)] [.int (bI (inS h 0 ((μ 0) 3 - 1)))] 19
    refine V.if_eq_b (P := inS h 0 ((μ 0) 3 - 1)) (pc := 19) 42 hC dX6_watch_19 (by decide) (fun c_19 => ?_) (fun c_19 => ?_)
    · refine V.aload_n (pc := 42) 0 hC dX6_watch_42 rfl ?_
      refine V.iconst (pc := 43) 1 hC dX6_watch_43 (by decide) ?_
      refine V.sts (st' := [.int (nI 1), .ref (a 0)]) (stc (nl 1) (stk rfl)) ?_
      refine V.callV0 (pc := 44) (as := [.int (nI 1)]) hC (c_X6_error σ ν 1 (by omega)) mu_X6_error ml_X6_57 (by decide) ⟨0, 6, TX6, 8, _, rfl, gx_0⟩ rfl (Nat.le_of_ble_eq_true rfl) dX6_watch_44 ?_
      rintro _ f44_0 ⟨rfl, hu44_0⟩
      have hu44_0 : f44_0 = upd (σ 0) 1 (σ 0 1 + 1) := hu44_0
      show V X (wX k g a (va_up σ 0 f44_0) ν) [(0, .ref (a 0)), (1, .int p), (2, .int h), (3, .int m), (4, .int w)] [.int (lowE 1)] 47
      exact hR (lowE 1) ((va_up σ 0 f44_0), ν) _ _ dX6_watch_47 rfl (ope (by rw [op_watch, if_neg (not_not_intro c_8), if_pos c_19] <;> rfl) (hRR.er (by omega) hu44_0))
    · refine V.iload_n (pc := 22) 3 hC dX6_watch_22 rfl ?_
      refine V.iconst (pc := 23) 1 hC dX6_watch_23 (by decide) ?_
      refine V.bipush (pc := 24) 60 hC dX6_watch_24 (by decide) ?_
      refine V.callS0 (pc := 26) (as := [.int m, .int 1, .int 60]) hC (c_X6_within m 1 60 ) ms_X6_within ml_X6_53 (by decide) rfl (Nat.le_of_ble_eq_true rfl) dX6_watch_26 ?_
      rintro _ _ rfl
      show V X (wX k g a σ ν) [(0, .ref (a 0)), (1, .int p), (2, .int h), (3, .int m), (4, .int w)] [.int (bI (inS m 1 60))] 29
      refine V.if_eq_b (P := inS m 1 60) (pc := 29) 42 hC dX6_watch_29 (by decide) (fun c_29 => ?_) (fun c_29 => ?_)
      · refine V.aload_n (pc := 42) 0 hC dX6_watch_42 rfl ?_
        refine V.iconst (pc := 43) 1 hC dX6_watch_43 (by decide) ?_
        refine V.sts (st' := [.int (nI 1), .ref (a 0)]) (stc (nl 1) (stk rfl)) ?_
        refine V.callV0 (pc := 44) (as := [.int (nI 1)]) hC (c_X6_error σ ν 1 (by omega)) mu_X6_error ml_X6_57 (by decide) ⟨0, 6, TX6, 8, _, rfl, gx_0⟩ rfl (Nat.le_of_ble_eq_true rfl) dX6_watch_44 ?_
        rintro _ f44_0 ⟨rfl, hu44_0⟩
        have hu44_0 : f44_0 = upd (σ 0) 1 (σ 0 1 + 1) := hu44_0
        show V X (wX k g a (va_up σ 0 f44_0) ν) [(0, .ref (a 0)), (1, .int p), (2, .int h), (3, .int m), (4, .int w)] [.int (lowE 1)] 47
        exact hR (lowE 1) ((va_up σ 0 f44_0), ν) _ _ dX6_watch_47 rfl (ope (by rw [op_watch, if_neg (not_not_intro c_8), if_neg (not_not_intro c_19), if_pos c_29] <;> rfl) (hRR.er (by omega) hu44_0))
      · refine V.iload (pc := 32) 4 hC dX6_watch_32 rfl ?_
        refine V.iconst (pc := 34) 0 hC dX6_watch_34 (by decide) ?_
        refine V.iconst (pc := 35) 1 hC dX6_watch_35 (by decide) ?_
        refine V.callS0 (pc := 36) (as := [.int w, .int 0, .int 1]) hC (c_X6_within w 0 1 ) ms_X6_within ml_X6_53 (by decide) rfl (Nat.le_of_ble_eq_true rfl) dX6_watch_36 ?_
        rintro _ _ rfl
        show V X (wX k g a σ ν) [(0, .ref (a 0)), (1, .int p), (2, .int h), (3, .int m), (4, .int w)] [.int (bI (inS w 0 1))] 39
        refine V.if_ne_b (P := inS w 0 1) (pc := 39) 48 hC dX6_watch_39 (by decide) (fun c_39 => ?_) (fun c_39 => ?_)
        · have hh_p := inS_n c_8 hI.pn (by omega)
          have hh_h := inS_n c_19 hI.mn (by omega)
          have hh_m := inS_1 c_29 (nl 1) (nl 60) (by omega) (by omega)
          refine V.aload_n (pc := 48) 0 hC dX6_watch_48 rfl ?_
          refine V.get (pc := 49) (v := .ref (a 1)) hC cf_X6 0 0 fl_X6_10 (by decide) gx_0 rfl dX6_watch_49 ?_
          refine V.get (pc := 52) (v := .ref (a 19)) hC cf_X3 1 9 fl_X6_130 (by decide) gx_1 rfl dX6_watch_52 ?_
          refine V.iload_n (pc := 55) 1 hC dX6_watch_55 rfl ?_
          refine V.iald (pc := 56) (f := σ 19) hC 14 (nN p) gx_14 hh_p.1 (by omega) (by decide) dX6_watch_56 ?_
          refine V.eqi (y := μ 0 (33 + 3 * (nN p))) (hT.2.2.1.2.2.2 (nN p) (by omega)) ?_
          refine V.iload_n (pc := 57) 2 hC dX6_watch_57 rfl ?_
          refine V.icmp_ne (pc := 58) 67 hC dX6_watch_58 (by decide) (fun c_58 => ?_) (fun c_58 => ?_)
          · refine V.aload_n (pc := 67) 0 hC dX6_watch_67 rfl ?_
            refine V.get (pc := 68) (v := .ref (a 4)) hC cf_X6 0 3 fl_X6_31 (by decide) gx_0 rfl dX6_watch_68 ?_
            refine V.iload_n (pc := 71) 1 hC dX6_watch_71 rfl ?_
            refine V.iload_n (pc := 72) 2 hC dX6_watch_72 rfl ?_
            refine V.iload_n (pc := 73) 3 hC dX6_watch_73 rfl ?_
            refine V.sts (st' := [.int (nI (nN m)), .int (nI (nN h)), .int (nI (nN p)), .ref (a 4)]) (stc hh_m.1 (stc hh_h.1 (stc hh_p.1 (stk rfl)))) ?_
            refine V.callV0 (pc := 74) (as := [.int (nI (nN p)), .int (nI (nN h)), .int (nI (nN m))]) hC (c_X5_fewestShut σ ν (μ 0) (nN p) (nN h) (nN m) hT hI hh_p.2 hh_h.2 hh_m.2.2) mu_X5_fewestShut ml_X6_206 (by decide) ⟨4, 5, TX5, 6, _, rfl, gx_4⟩ rfl (Nat.le_of_ble_eq_true rfl) dX6_watch_74 ?_
            rintro _ ⟨f74_0, f74_1, f74_2, f74_3, f74_4, f74_5⟩ rfl
            show V X (wX k g a σ (va_up (va_up (va_up (va_up (va_up (va_up ν 31 f74_0) 74 f74_1) 75 f74_2) 76 f74_3) 77 f74_4) 78 f74_5)) [(0, .ref (a 0)), (1, .int p), (2, .int h), (3, .int m), (4, .int w)] [.int (watS (μ 0) (nN p) (nN m) (nI (nN h)))] 77
            refine V.eqi (y := watS (μ 0) (nN p) (nN m) h) (by rw [← hh_h.1]) ?_
            refine V.istore (pc := 77) [(5, .int (watS (μ 0) (nN p) (nN m) h)), (0, .ref (a 0)), (1, .int p), (2, .int h), (3, .int m), (4, .int w)] hC dX6_watch_77 (by decide) rfl ?_
            refine V.iload (pc := 79) 0 hC dX6_watch_79 rfl ?_
            refine V.if_ge (pc := 81) 90 hC dX6_watch_81 (by decide) (fun c_81 => ?_) (fun c_81 => ?_)
            · refine V.iload (pc := 90) 5 hC dX6_watch_90 rfl ?_
              refine V.if_ne (pc := 92) 103 hC dX6_watch_92 (by decide) (fun c_92 => ?_) (fun c_92 => ?_)
              · refine V.iload (pc := 103) 0 hC dX6_watch_103 rfl ?_
                exact hR (watS (μ 0) (nN p) (nN m) h) (σ, (va_up (va_up (va_up (va_up (va_up (va_up ν 31 f74_0) 74 f74_1) 75 f74_2) 76 f74_3) 77 f74_4) 78 f74_5)) _ _ dX6_watch_105 rfl (opc (m := μ) (by rw [op_watch, if_neg (not_not_intro c_8), if_neg (not_not_intro c_19), if_neg (not_not_intro c_29), if_neg (not_not_intro c_39), if_neg c_58, if_neg (i_ge c_81), if_neg c_92] <;> rfl) hRR)
              · have hwb := (wat_b hI (p := nN p) (m := nN m) (h := h)).resolve_left (fun z => by rw [z] at c_81; exact absurd c_81 (by decide))
                refine V.iload (pc := 95) 0 hC dX6_watch_95 rfl ?_
                refine V.sts (st' := [.int (nI (nN (watS (μ 0) (nN p) (nN m) h)))]) (stc hwb.1 rfl) ?_
                refine V.callS0 (pc := 97) (as := [.int (nI (nN (watS (μ 0) (nN p) (nN m) h)))]) hC (c_J6_bitCount_0f7a4 (nN (watS (μ 0) (nN p) (nN m) h)) hwb.2) ms_J6_bitCount_0f7a4 ml_X6_209 (by decide) rfl (Nat.le_of_ble_eq_true rfl) dX6_watch_97 ?_
                rintro _ _ rfl
                show V X (wX k g a σ (va_up (va_up (va_up (va_up (va_up (va_up ν 31 f74_0) 74 f74_1) 75 f74_2) 76 f74_3) 77 f74_4) 78 f74_5)) [(5, .int (watS (μ 0) (nN p) (nN m) h)), (0, .ref (a 0)), (1, .int p), (2, .int h), (3, .int m), (4, .int w)] [.int (nI (pc8 (nN (watS (μ 0) (nN p) (nN m) h))))] 100
                refine V.goto (pc := 100) 105 hC dX6_watch_100 (by decide) ?_
                exact hR (nI (pc8 (nN (watS (μ 0) (nN p) (nN m) h)))) (σ, (va_up (va_up (va_up (va_up (va_up (va_up ν 31 f74_0) 74 f74_1) 75 f74_2) 76 f74_3) 77 f74_4) 78 f74_5)) _ _ dX6_watch_105 rfl (opc (m := μ) (by rw [op_watch, if_neg (not_not_intro c_8), if_neg (not_not_intro c_19), if_neg (not_not_intro c_29), if_neg (not_not_intro c_39), if_neg c_58, if_neg (i_ge c_81), if_pos c_92] <;> rfl) hRR)
            · refine V.aload_n (pc := 84) 1 hC dX6_watch_84 rfl ?_
              refine V.iconst (pc := 85) 2 hC dX6_watch_85 (by decide) ?_
              refine V.sts (st' := [.int (nI 2), .ref (a 0)]) (stc (nl 2) (stk rfl)) ?_
              refine V.callV0 (pc := 86) (as := [.int (nI 2)]) hC (c_X6_error σ (va_up (va_up (va_up (va_up (va_up (va_up ν 31 f74_0) 74 f74_1) 75 f74_2) 76 f74_3) 77 f74_4) 78 f74_5) 2 (by omega)) mu_X6_error ml_X6_57 (by decide) ⟨0, 6, TX6, 8, _, rfl, gx_0⟩ rfl (Nat.le_of_ble_eq_true rfl) dX6_watch_86 ?_
              rintro _ f86_0 ⟨rfl, hu86_0⟩
              have hu86_0 : f86_0 = upd (σ 0) 2 (σ 0 2 + 1) := hu86_0
              show V X (wX k g a (va_up σ 0 f86_0) (va_up (va_up (va_up (va_up (va_up (va_up ν 31 f74_0) 74 f74_1) 75 f74_2) 76 f74_3) 77 f74_4) 78 f74_5)) [(5, .int (watS (μ 0) (nN p) (nN m) h)), (0, .ref (a 0)), (1, .int p), (2, .int h), (3, .int m), (4, .int w)] [.int (lowE 2)] 89
              exact hR (lowE 2) ((va_up σ 0 f86_0), (va_up (va_up (va_up (va_up (va_up (va_up ν 31 f74_0) 74 f74_1) 75 f74_2) 76 f74_3) 77 f74_4) 78 f74_5)) _ _ dX6_watch_89 rfl (ope (by rw [op_watch, if_neg (not_not_intro c_8), if_neg (not_not_intro c_19), if_neg (not_not_intro c_29), if_neg (not_not_intro c_39), if_neg c_58, if_pos (i_nle c_81)] <;> rfl) (hRR.er (by omega) hu86_0))
          · refine V.aload_n (pc := 61) 0 hC dX6_watch_61 rfl ?_
            refine V.iconst (pc := 62) 3 hC dX6_watch_62 (by decide) ?_
            refine V.sts (st' := [.int (nI 3), .ref (a 0)]) (stc (nl 3) (stk rfl)) ?_
            refine V.callV0 (pc := 63) (as := [.int (nI 3)]) hC (c_X6_error σ ν 3 (by omega)) mu_X6_error ml_X6_57 (by decide) ⟨0, 6, TX6, 8, _, rfl, gx_0⟩ rfl (Nat.le_of_ble_eq_true rfl) dX6_watch_63 ?_
            rintro _ f63_0 ⟨rfl, hu63_0⟩
            have hu63_0 : f63_0 = upd (σ 0) 3 (σ 0 3 + 1) := hu63_0
            show V X (wX k g a (va_up σ 0 f63_0) ν) [(0, .ref (a 0)), (1, .int p), (2, .int h), (3, .int m), (4, .int w)] [.int (lowE 3)] 66
            exact hR (lowE 3) ((va_up σ 0 f63_0), ν) _ _ dX6_watch_66 rfl (ope (by rw [op_watch, if_neg (not_not_intro c_8), if_neg (not_not_intro c_19), if_neg (not_not_intro c_29), if_neg (not_not_intro c_39), if_pos c_58] <;> rfl) (hRR.er (by omega) hu63_0))
        · refine V.aload_n (pc := 42) 0 hC dX6_watch_42 rfl ?_
          refine V.iconst (pc := 43) 1 hC dX6_watch_43 (by decide) ?_
          refine V.sts (st' := [.int (nI 1), .ref (a 0)]) (stc (nl 1) (stk rfl)) ?_
          refine V.callV0 (pc := 44) (as := [.int (nI 1)]) hC (c_X6_error σ ν 1 (by omega)) mu_X6_error ml_X6_57 (by decide) ⟨0, 6, TX6, 8, _, rfl, gx_0⟩ rfl (Nat.le_of_ble_eq_true rfl) dX6_watch_44 ?_
          rintro _ f44_0 ⟨rfl, hu44_0⟩
          have hu44_0 : f44_0 = upd (σ 0) 1 (σ 0 1 + 1) := hu44_0
          show V X (wX k g a (va_up σ 0 f44_0) ν) [(0, .ref (a 0)), (1, .int p), (2, .int h), (3, .int m), (4, .int w)] [.int (lowE 1)] 47
          exact hR (lowE 1) ((va_up σ 0 f44_0), ν) _ _ dX6_watch_47 rfl (ope (by rw [op_watch, if_neg (not_not_intro c_8), if_neg (not_not_intro c_19), if_neg (not_not_intro c_29), if_pos c_39] <;> rfl) (hRR.er (by omega) hu44_0))
set_option maxHeartbeats 4000000 in
set_option maxRecDepth 100000 in
theorem c_X6_best {l : Launch} {D : va_G} {k : Nat → ClassId} {g a : Nat → Nat} (σ ν μ : St) (p m w : Int32) (hRR : RQ σ μ) : Ct l D k g yX6_best cX6_best 5 (some .int) 6 147 [.ref (a 0), .int p, .int m, .int w] (S := St × St) (wX k g a σ ν) (fun uu => wX k g a uu.1 uu.2) (fun vv uu => vv = some (.int ((op_best p m w μ).1)) ∧ RQ uu.1 (op_best p m w μ).2) := by
  refine Ct.ofI RX6 rfl (by decide +kernel) (Nat.le_of_ble_eq_true rfl) (fun X hC hR => ?_)
  have hT := hRR.1.2.2.1.1; have hI := hRR.1.2.2.1.2
  have hb4 := hI.hb; have hb8 := hI.mb; have hb6 := hI.pb; have hbm := hI.ob0; have hbt := hI.bb; have hbw := hI.wb
  show V X (wX k g a σ ν) [(0, .ref (a 0)), (1, .int p), (2, .int m), (3, .int w)] [] 0
  refine V.aload_n (pc := 0) 0 hC dX6_best_0 rfl ?_
  refine V.get (pc := 1) (v := .ref (a 1)) hC cf_X6 0 0 fl_X6_10 (by decide) gx_0 rfl dX6_best_1 ?_
  refine V.iload_n (pc := 4) 1 hC dX6_best_4 rfl ?_
  refine V.callV0 (pc := 5) (as := [.int p]) hC (c_X3_hasPerson σ ν (μ 0) p hT hI) mu_X3_hasPerson ml_X6_121 (by decide) ⟨1, 3, TX3, 17, _, rfl, gx_1⟩ rfl (Nat.le_of_ble_eq_true rfl) dX6_best_5 ?_
  rintro _ _ rfl
  show V X (wX k g a σ ν) [(0, .ref (a 0)), (1, .int p), (2, .int m), (3, .int w)] [.int (bI (inS p 0 ((μ 0) 4 - 1)))] 8
  refine V.if_eq_b (P := inS p 0 ((μ 0) 4 - 1)) (pc := 8) 30 hC dX6_best_8 (by decide) (fun c_8 => ?_) (fun c_8 => ?_)
  · refine V.aload_n (pc := 30) 0 hC dX6_best_30 rfl ?_
    refine V.iconst (pc := 31) 1 hC dX6_best_31 (by decide) ?_
    refine V.sts (st' := [.int (nI 1), .ref (a 0)]) (stc (nl 1) (stk rfl)) ?_
    refine V.callV0 (pc := 32) (as := [.int (nI 1)]) hC (c_X6_error σ ν 1 (by omega)) mu_X6_error ml_X6_57 (by decide) ⟨0, 6, TX6, 8, _, rfl, gx_0⟩ rfl (Nat.le_of_ble_eq_true rfl) dX6_best_32 ?_
    rintro _ f32_0 ⟨rfl, hu32_0⟩
    have hu32_0 : f32_0 = upd (σ 0) 1 (σ 0 1 + 1) := hu32_0
    show V X (wX k g a (va_up σ 0 f32_0) ν) [(0, .ref (a 0)), (1, .int p), (2, .int m), (3, .int w)] [.int (lowE 1)] 35
    exact hR (lowE 1) ((va_up σ 0 f32_0), ν) _ _ dX6_best_35 rfl (ope (by rw [op_best, if_pos c_8] <;> rfl) (hRR.er (by omega) hu32_0))
  · refine V.iload_n (pc := 11) 2 hC dX6_best_11 rfl ?_
    refine V.iconst (pc := 12) 0 hC dX6_best_12 (by decide) ?_
    refine V.bipush (pc := 13) 60 hC dX6_best_13 (by decide) ?_
    refine V.callS0 (pc := 15) (as := [.int m, .int 0, .int 60]) hC (c_X6_within m 0 60 ) ms_X6_within ml_X6_53 (by decide) rfl (Nat.le_of_ble_eq_true rfl) dX6_best_15 ?_
    rintro _ _ rfl
    show V X (wX k g a σ ν) [(0, .ref (a 0)), (1, .int p), (2, .int m), (3, .int w)] [.int (bI (inS m 0 60))] 18
    refine V.if_eq_b (P := inS m 0 60) (pc := 18) 30 hC dX6_best_18 (by decide) (fun c_18 => ?_) (fun c_18 => ?_)
    · refine V.aload_n (pc := 30) 0 hC dX6_best_30 rfl ?_
      refine V.iconst (pc := 31) 1 hC dX6_best_31 (by decide) ?_
      refine V.sts (st' := [.int (nI 1), .ref (a 0)]) (stc (nl 1) (stk rfl)) ?_
      refine V.callV0 (pc := 32) (as := [.int (nI 1)]) hC (c_X6_error σ ν 1 (by omega)) mu_X6_error ml_X6_57 (by decide) ⟨0, 6, TX6, 8, _, rfl, gx_0⟩ rfl (Nat.le_of_ble_eq_true rfl) dX6_best_32 ?_
      rintro _ f32_0 ⟨rfl, hu32_0⟩
      have hu32_0 : f32_0 = upd (σ 0) 1 (σ 0 1 + 1) := hu32_0
      show V X (wX k g a (va_up σ 0 f32_0) ν) [(0, .ref (a 0)), (1, .int p), (2, .int m), (3, .int w)] [.int (lowE 1)] 35
      exact hR (lowE 1) ((va_up σ 0 f32_0), ν) _ _ dX6_best_35 rfl (ope (by rw [op_best, if_neg (not_not_intro c_8), if_pos c_18] <;> rfl) (hRR.er (by omega) hu32_0))
    · refine V.iload_n (pc := 21) 3 hC dX6_best_21 rfl ?_
      refine V.iconst (pc := 22) 0 hC dX6_best_22 (by decide) ?_
      refine V.iconst (pc := 23) 1 hC dX6_best_23 (by decide) ?_
      refine V.callS0 (pc := 24) (as := [.int w, .int 0, .int 1]) hC (c_X6_within w 0 1 ) ms_X6_within ml_X6_53 (by decide) rfl (Nat.le_of_ble_eq_true rfl) dX6_best_24 ?_
      rintro _ _ rfl
      show V X (wX k g a σ ν) [(0, .ref (a 0)), (1, .int p), (2, .int m), (3, .int w)] [.int (bI (inS w 0 1))] 27
      refine V.if_ne_b (P := inS w 0 1) (pc := 27) 36 hC dX6_best_27 (by decide) (fun c_27 => ?_) (fun c_27 => ?_)
      · have hh_p := inS_n c_8 hI.pn (by omega)
        have hh_m := inS_c c_18 (nl 60) (by omega)
        have hbs := bst_n (n := m) hI hh_p.2
        refine V.aload_n (pc := 36) 0 hC dX6_best_36 rfl ?_
        refine V.get (pc := 37) (v := .ref (a 1)) hC cf_X6 0 0 fl_X6_10 (by decide) gx_0 rfl dX6_best_37 ?_
        refine V.aload_n (pc := 40) 0 hC dX6_best_40 rfl ?_
        refine V.get (pc := 41) (v := .ref (a 4)) hC cf_X6 0 3 fl_X6_31 (by decide) gx_0 rfl dX6_best_41 ?_
        refine V.iload_n (pc := 44) 1 hC dX6_best_44 rfl ?_
        refine V.iload_n (pc := 45) 2 hC dX6_best_45 rfl ?_
        refine V.sts (st' := [.int (nI (nN m)), .int (nI (nN p)), .ref (a 4), .ref (a 1)]) (stc hh_m.1 (stc hh_p.1 (stk (stk rfl)))) ?_
        refine V.callV0 (pc := 46) (as := [.int (nI (nN p)), .int (nI (nN m))]) hC (c_X5_roomsBehind σ ν (μ 0) (nN p) (nN m) hT hI hh_p.2 (by have := hh_m.2; omega)) mu_X5_roomsBehind ml_X6_139 (by decide) ⟨4, 5, TX5, 6, _, rfl, gx_4⟩ rfl (Nat.le_of_ble_eq_true rfl) dX6_best_46 ?_
        rintro _ ⟨f46_0, f46_1, f46_2, f46_3, f46_4⟩ rfl
        show V X (wX k g a σ (va_up (va_up (va_up (va_up (va_up ν 31 f46_0) 74 f46_1) 75 f46_2) 76 f46_3) 77 f46_4)) [(0, .ref (a 0)), (1, .int p), (2, .int m), (3, .int w)] [.int (roomsByS (μ 0) (nN p) (nN m)), .ref (a 1)] 49
        refine V.aload_n (pc := 49) 0 hC dX6_best_49 rfl ?_
        refine V.get (pc := 50) (v := .ref (a 1)) hC cf_X6 0 0 fl_X6_10 (by decide) gx_0 rfl dX6_best_50 ?_
        refine V.get (pc := 53) (v := .int (σ 20 0)) hC cf_X3 1 10 fl_X6_79 (by decide) gx_1 rfl dX6_best_53 ?_
        refine V.eqi (y := μ 0 0) (hT.2.2.2.1.1) ?_
        refine V.iload_n (pc := 56) 2 hC dX6_best_56 rfl ?_
        refine V.iadd (pc := 57) hC dX6_best_57 ?_
        refine V.callV0 (pc := 58) (as := [.int (roomsByS (μ 0) (nN p) (nN m)), .int ((μ 0 0) + m)]) hC (c_X3_worthiest σ (va_up (va_up (va_up (va_up (va_up ν 31 f46_0) 74 f46_1) 75 f46_2) 76 f46_3) 77 f46_4) (μ 0) (roomsByS (μ 0) (nN p) (nN m)) ((μ 0 0) + m) (nN (bstS (μ 0) (nN p) m)) hT hI (isN.mk (nadd hI.on0 hh_m.1) (by omega) (by omega)) hbs.1 (by have := hbs.2; omega)) mu_X3_worthiest ml_X6_214 (by decide) ⟨1, 3, TX3, 17, _, rfl, gx_1⟩ rfl (Nat.le_of_ble_eq_true rfl) dX6_best_58 ?_
        rintro _ f58_0 rfl
        show V X (wX k g a σ (va_up (va_up (va_up (va_up (va_up (va_up ν 31 f46_0) 74 f46_1) 75 f46_2) 76 f46_3) 77 f46_4) 32 f58_0)) [(0, .ref (a 0)), (1, .int p), (2, .int m), (3, .int w)] [.int (nI (nN (bstS (μ 0) (nN p) m)))] 61
        refine V.eqi (y := bstS (μ 0) (nN p) m) hbs.1.symm ?_
        refine V.istore (pc := 61) [(4, .int (bstS (μ 0) (nN p) m)), (0, .ref (a 0)), (1, .int p), (2, .int m), (3, .int w)] hC dX6_best_61 (by decide) rfl ?_
        refine V.iload_n (pc := 63) 4 hC dX6_best_63 rfl ?_
        refine V.if_ne (pc := 64) 72 hC dX6_best_64 (by decide) (fun c_64 => ?_) (fun c_64 => ?_)
        · refine V.aload_n (pc := 72) 1 hC dX6_best_72 rfl ?_
          refine V.get (pc := 73) (v := .ref (a 1)) hC cf_X6 0 0 fl_X6_10 (by decide) gx_0 rfl dX6_best_73 ?_
          refine V.iload (pc := 76) 0 hC dX6_best_76 rfl ?_
          refine V.aload_n (pc := 78) 1 hC dX6_best_78 rfl ?_
          refine V.get (pc := 79) (v := .ref (a 1)) hC cf_X6 0 0 fl_X6_10 (by decide) gx_0 rfl dX6_best_79 ?_
          refine V.get (pc := 82) (v := .int (σ 20 0)) hC cf_X3 1 10 fl_X6_79 (by decide) gx_1 rfl dX6_best_82 ?_
          refine V.eqi (y := μ 0 0) (hT.2.2.2.1.1) ?_
          refine V.iload_n (pc := 85) 3 hC dX6_best_85 rfl ?_
          refine V.iadd (pc := 86) hC dX6_best_86 ?_
          refine V.sts (st' := [.int ((μ 0 0) + m), .int (nI (nN (bstS (μ 0) (nN p) m))), .ref (a 1)]) (stk (stc hbs.1 (stk rfl))) ?_
          refine V.callV0 (pc := 87) (as := [.int (nI (nN (bstS (μ 0) (nN p) m))), .int ((μ 0 0) + m)]) hC (c_X3_worth σ (va_up (va_up (va_up (va_up (va_up (va_up ν 31 f46_0) 74 f46_1) 75 f46_2) 76 f46_3) 77 f46_4) 32 f58_0) (μ 0) (nN (bstS (μ 0) (nN p) m)) ((μ 0 0) + m) hT hI hbs.2 (isN.mk (nadd hI.on0 hh_m.1) (by omega) (by omega))) mu_X3_worth ml_X6_106 (by decide) ⟨1, 3, TX3, 17, _, rfl, gx_1⟩ rfl (Nat.le_of_ble_eq_true rfl) dX6_best_87 ?_
          rintro _ f87_0 rfl
          show V X (wX k g a σ (va_up (va_up (va_up (va_up (va_up (va_up ν 31 f46_0) 74 f46_1) 75 f46_2) 76 f46_3) 77 f46_4) 32 f87_0)) [(4, .int (bstS (μ 0) (nN p) m)), (0, .ref (a 0)), (1, .int p), (2, .int m), (3, .int w)] [.int (worthS (μ 0) (nN (bstS (μ 0) (nN p) m)) ((μ 0 0) + m))] 90
          exact hR (worthS (μ 0) (nN (bstS (μ 0) (nN p) m)) ((μ 0 0) + m)) (σ, (va_up (va_up (va_up (va_up (va_up (va_up ν 31 f46_0) 74 f46_1) 75 f46_2) 76 f46_3) 77 f46_4) 32 f87_0)) _ _ dX6_best_90 rfl (opc (m := μ) (by rw [op_best, if_neg (not_not_intro c_8), if_neg (not_not_intro c_18), if_neg (not_not_intro c_27), if_neg c_64] <;> rfl) hRR)
        · refine V.iload (pc := 67) 0 hC dX6_best_67 rfl ?_
          refine V.goto (pc := 69) 90 hC dX6_best_69 (by decide) ?_
          exact hR (bstS (μ 0) (nN p) m) (σ, (va_up (va_up (va_up (va_up (va_up (va_up ν 31 f46_0) 74 f46_1) 75 f46_2) 76 f46_3) 77 f46_4) 32 f58_0)) _ _ dX6_best_90 rfl (opc (m := μ) (by rw [op_best, if_neg (not_not_intro c_8), if_neg (not_not_intro c_18), if_neg (not_not_intro c_27), if_pos c_64] <;> rfl) hRR)
      · refine V.aload_n (pc := 30) 0 hC dX6_best_30 rfl ?_
        refine V.iconst (pc := 31) 1 hC dX6_best_31 (by decide) ?_
        refine V.sts (st' := [.int (nI 1), .ref (a 0)]) (stc (nl 1) (stk rfl)) ?_
        refine V.callV0 (pc := 32) (as := [.int (nI 1)]) hC (c_X6_error σ ν 1 (by omega)) mu_X6_error ml_X6_57 (by decide) ⟨0, 6, TX6, 8, _, rfl, gx_0⟩ rfl (Nat.le_of_ble_eq_true rfl) dX6_best_32 ?_
        rintro _ f32_0 ⟨rfl, hu32_0⟩
        have hu32_0 : f32_0 = upd (σ 0) 1 (σ 0 1 + 1) := hu32_0
        show V X (wX k g a (va_up σ 0 f32_0) ν) [(0, .ref (a 0)), (1, .int p), (2, .int m), (3, .int w)] [.int (lowE 1)] 35
        exact hR (lowE 1) ((va_up σ 0 f32_0), ν) _ _ dX6_best_35 rfl (ope (by rw [op_best, if_neg (not_not_intro c_8), if_neg (not_not_intro c_18), if_pos c_27] <;> rfl) (hRR.er (by omega) hu32_0))
set_option maxHeartbeats 4000000 in
set_option maxRecDepth 100000 in
theorem c_X6_commonDivisor {l : Launch} {D : va_G} {k : Nat → ClassId} {g : Nat → Nat} (c : Nat) (hc : c ≤ 60) : Ct l D k g yX6_commonDivisor cX6_commonDivisor 3 (some .int) 0 0 [.int (nI c), .int 60] (S := Unit) ([]) (fun _ => []) (fun vv _ => vv = some (.int (nI (Nat.gcd c 60)))) := by
  refine Ct.ofI RX6 rfl (by decide +kernel) (Nat.le_of_ble_eq_true rfl) (fun X hC hR => ?_)
  show V X ([]) [(0, .int (nI c)), (1, .int 60)] [] 0
  refine V.iload_n (pc := 0) 1 hC dX6_commonDivisor_0 rfl ?_
  refine V.istore_n (pc := 1) [(2, .int 60), (0, .int (nI c)), (1, .int 60)] hC dX6_commonDivisor_1 (by decide) rfl ?_
  have loop_2 : ∀ (n : Nat) (d : Nat), d = n + 1 ∧ d ≤ 60 → cdD 60 c = cdD d c → V X ([]) [(0, .int (nI c)), (1, .int 60), (2, .int (nI d))] [] 2 := by
    intro n
    induction n with
    | zero =>
      intro d hd hv
      refine V.iload_n (pc := 2) 2 hC dX6_commonDivisor_2 rfl ?_
      refine V.iconst (pc := 3) 1 hC dX6_commonDivisor_3 (by decide) ?_
      refine V.icmp_le (pc := 4) 27 hC dX6_commonDivisor_4 (by decide) (fun c_4 => ?_) (fun c_4 => ?_)
      · have nc_4 : d ≤ 1 := (nle rfl (nl 1) (by omega) (by omega)).mp c_4
        refine V.iconst (pc := 27) 1 hC dX6_commonDivisor_27 (by decide) ?_
        exact hR 1 () _ _ dX6_commonDivisor_28 rfl (ri (by rw [← cd_v hc, hv, show d = 1 by omega]; rfl))
      · have nc_4 : ¬ (d ≤ 1) := fun z => c_4 ((nle rfl (nl 1) (by omega) (by omega)).mpr z)
        exfalso; omega
    | succ n ih =>
      intro d hd hv
      refine V.iload_n (pc := 2) 2 hC dX6_commonDivisor_2 rfl ?_
      refine V.iconst (pc := 3) 1 hC dX6_commonDivisor_3 (by decide) ?_
      refine V.icmp_le (pc := 4) 27 hC dX6_commonDivisor_4 (by decide) (fun c_4 => ?_) (fun c_4 => ?_)
      · have nc_4 : d ≤ 1 := (nle rfl (nl 1) (by omega) (by omega)).mp c_4
        exfalso; omega
      · have nc_4 : ¬ (d ≤ 1) := fun z => c_4 ((nle rfl (nl 1) (by omega) (by omega)).mpr z)
        refine V.iload_n (pc := 7) 0 hC dX6_commonDivisor_7 rfl ?_
        refine V.iload_n (pc := 8) 2 hC dX6_commonDivisor_8 rfl ?_
        refine V.irem (pc := 9) hC dX6_commonDivisor_9 (nI_ne0 (by omega) (by omega)) ?_
        refine V.eqi (y := nI (c % d)) (irm_n rfl rfl (by omega) (by omega) (by omega)) ?_
        refine V.if_ne (pc := 10) 21 hC dX6_commonDivisor_10 (by decide) (fun c_10 => ?_) (fun c_10 => ?_)
        · refine V.iinc (pc := 21) 2 (nI (d - 1)) [(2, .int (nI (d - 1))), (0, .int (nI c)), (1, .int 60)] hC dX6_commonDivisor_21 rfl (m1_n (by omega)) (by decide) rfl ?_
          refine V.goto (pc := 24) 2 hC dX6_commonDivisor_24 (by decide) ?_
          have q9 : ¬ c % d = 0 := fun q => c_10 (by rw [q]; rfl)
          exact V.sub [1, 2, 0] rfl (ih (d - 1) (by omega) (hv.trans (cd_n (by omega) (fun q => q9 q.1))))
        · refine V.iload_n (pc := 13) 1 hC dX6_commonDivisor_13 rfl ?_
          refine V.iload_n (pc := 14) 2 hC dX6_commonDivisor_14 rfl ?_
          refine V.irem (pc := 15) hC dX6_commonDivisor_15 (nI_ne0 (by omega) (by omega)) ?_
          refine V.eqi (y := nI (60 % d)) (irm_n rfl rfl (by omega) (by omega) (by omega)) ?_
          refine V.if_ne (pc := 16) 21 hC dX6_commonDivisor_16 (by decide) (fun c_16 => ?_) (fun c_16 => ?_)
          · refine V.iinc (pc := 21) 2 (nI (d - 1)) [(2, .int (nI (d - 1))), (0, .int (nI c)), (1, .int 60)] hC dX6_commonDivisor_21 rfl (m1_n (by omega)) (by decide) rfl ?_
            refine V.goto (pc := 24) 2 hC dX6_commonDivisor_24 (by decide) ?_
            have q15 : ¬ 60 % d = 0 := fun q => c_16 (by rw [q]; rfl)
            exact V.sub [1, 2, 0] rfl (ih (d - 1) (by omega) (hv.trans (cd_n (by omega) (fun q => q15 q.2))))
          · have q9 : c % d = 0 := (nI_eq (a := c % d) (b := 0) (by have := Nat.mod_le c d; omega) (by omega)).mp c_10
            have q15 : 60 % d = 0 := (nI_eq (a := 60 % d) (b := 0) (by have := Nat.mod_le 60 d; omega) (by omega)).mp c_16
            refine V.iload_n (pc := 19) 2 hC dX6_commonDivisor_19 rfl ?_
            exact hR (nI d) () _ _ dX6_commonDivisor_20 rfl (ri (by rw [← cd_v hc, hv, cd_y (by omega) q9 q15]))
  exact V.sub [1, 2, 0] rfl (loop_2 59 60 ⟨rfl, by omega⟩ rfl)
set_option maxHeartbeats 4000000 in
set_option maxRecDepth 100000 in
theorem c_X6_odds {l : Launch} {D : va_G} {k : Nat → ClassId} {g a : Nat → Nat} (σ ν μ : St) (p h w : Int32) (hRR : RQ σ μ) : Ct l D k g yX6_odds cX6_odds 6 (some .int) 5 120 [.ref (a 0), .int p, .int h, .int w] (S := St × St) (wX k g a σ ν) (fun uu => wX k g a uu.1 uu.2) (fun vv uu => vv = some (.int ((op_odds p h w μ).1)) ∧ RQ uu.1 (op_odds p h w μ).2) := by
  refine Ct.ofI RX6 rfl (by decide +kernel) (Nat.le_of_ble_eq_true rfl) (fun X hC hR => ?_)
  have hT := hRR.1.2.2.1.1; have hI := hRR.1.2.2.1.2
  have hb4 := hI.hb; have hb8 := hI.mb; have hb6 := hI.pb; have hbm := hI.ob0; have hbt := hI.bb; have hbw := hI.wb
  show V X (wX k g a σ ν) [(0, .ref (a 0)), (1, .int p), (2, .int h), (3, .int w)] [] 0
  refine V.aload_n (pc := 0) 0 hC dX6_odds_0 rfl ?_
  refine V.get (pc := 1) (v := .ref (a 1)) hC cf_X6 0 0 fl_X6_10 (by decide) gx_0 rfl dX6_odds_1 ?_
  refine V.iload_n (pc := 4) 1 hC dX6_odds_4 rfl ?_
  refine V.callV0 (pc := 5) (as := [.int p]) hC (c_X3_hasPerson σ ν (μ 0) p hT hI) mu_X3_hasPerson ml_X6_121 (by decide) ⟨1, 3, TX3, 17, _, rfl, gx_1⟩ rfl (Nat.le_of_ble_eq_true rfl) dX6_odds_5 ?_
  rintro _ _ rfl
  show V X (wX k g a σ ν) [(0, .ref (a 0)), (1, .int p), (2, .int h), (3, .int w)] [.int (bI (inS p 0 ((μ 0) 4 - 1)))] 8
  refine V.if_eq_b (P := inS p 0 ((μ 0) 4 - 1)) (pc := 8) 31 hC dX6_odds_8 (by decide) (fun c_8 => ?_) (fun c_8 => ?_)
  · refine V.aload_n (pc := 31) 0 hC dX6_odds_31 rfl ?_
    refine V.iconst (pc := 32) 1 hC dX6_odds_32 (by decide) ?_
    refine V.sts (st' := [.int (nI 1), .ref (a 0)]) (stc (nl 1) (stk rfl)) ?_
    refine V.callV0 (pc := 33) (as := [.int (nI 1)]) hC (c_X6_error σ ν 1 (by omega)) mu_X6_error ml_X6_57 (by decide) ⟨0, 6, TX6, 8, _, rfl, gx_0⟩ rfl (Nat.le_of_ble_eq_true rfl) dX6_odds_33 ?_
    rintro _ f33_0 ⟨rfl, hu33_0⟩
    have hu33_0 : f33_0 = upd (σ 0) 1 (σ 0 1 + 1) := hu33_0
    show V X (wX k g a (va_up σ 0 f33_0) ν) [(0, .ref (a 0)), (1, .int p), (2, .int h), (3, .int w)] [.int (lowE 1)] 36
    exact hR (lowE 1) ((va_up σ 0 f33_0), ν) _ _ dX6_odds_36 rfl (ope (by rw [op_odds, if_pos c_8] <;> rfl) (hRR.er (by omega) hu33_0))
  · refine V.aload_n (pc := 11) 0 hC dX6_odds_11 rfl ?_
    refine V.get (pc := 12) (v := .ref (a 1)) hC cf_X6 0 0 fl_X6_10 (by decide) gx_0 rfl dX6_odds_12 ?_
    refine V.iload_n (pc := 15) 2 hC dX6_odds_15 rfl ?_
    refine V.callV0 (pc := 16) (as := [.int h]) hC (c_X3_hasHome σ ν (μ 0) h hT hI) mu_X3_hasHome ml_X6_97 (by decide) ⟨1, 3, TX3, 17, _, rfl, gx_1⟩ rfl (Nat.le_of_ble_eq_true rfl) dX6_odds_16 ?_
    rintro _ _ rfl
    show V X (wX k g a σ ν) [(0, .ref (a 0)), (1, .int p), (2, .int h), (3, .int w)] [.int (bI (inS h 0 ((μ 0) 3 - 1)))] 19
    refine V.if_eq_b (P := inS h 0 ((μ 0) 3 - 1)) (pc := 19) 31 hC dX6_odds_19 (by decide) (fun c_19 => ?_) (fun c_19 => ?_)
    · refine V.aload_n (pc := 31) 0 hC dX6_odds_31 rfl ?_
      refine V.iconst (pc := 32) 1 hC dX6_odds_32 (by decide) ?_
      refine V.sts (st' := [.int (nI 1), .ref (a 0)]) (stc (nl 1) (stk rfl)) ?_
      refine V.callV0 (pc := 33) (as := [.int (nI 1)]) hC (c_X6_error σ ν 1 (by omega)) mu_X6_error ml_X6_57 (by decide) ⟨0, 6, TX6, 8, _, rfl, gx_0⟩ rfl (Nat.le_of_ble_eq_true rfl) dX6_odds_33 ?_
      rintro _ f33_0 ⟨rfl, hu33_0⟩
      have hu33_0 : f33_0 = upd (σ 0) 1 (σ 0 1 + 1) := hu33_0
      show V X (wX k g a (va_up σ 0 f33_0) ν) [(0, .ref (a 0)), (1, .int p), (2, .int h), (3, .int w)] [.int (lowE 1)] 36
      exact hR (lowE 1) ((va_up σ 0 f33_0), ν) _ _ dX6_odds_36 rfl (ope (by rw [op_odds, if_neg (not_not_intro c_8), if_pos c_19] <;> rfl) (hRR.er (by omega) hu33_0))
    · refine V.iload_n (pc := 22) 3 hC dX6_odds_22 rfl ?_
      refine V.iconst (pc := 23) 0 hC dX6_odds_23 (by decide) ?_
      refine V.iconst (pc := 24) 1 hC dX6_odds_24 (by decide) ?_
      refine V.callS0 (pc := 25) (as := [.int w, .int 0, .int 1]) hC (c_X6_within w 0 1 ) ms_X6_within ml_X6_53 (by decide) rfl (Nat.le_of_ble_eq_true rfl) dX6_odds_25 ?_
      rintro _ _ rfl
      show V X (wX k g a σ ν) [(0, .ref (a 0)), (1, .int p), (2, .int h), (3, .int w)] [.int (bI (inS w 0 1))] 28
      refine V.if_ne_b (P := inS w 0 1) (pc := 28) 37 hC dX6_odds_28 (by decide) (fun c_28 => ?_) (fun c_28 => ?_)
      · have hh_p := inS_n c_8 hI.pn (by omega)
        have hh_h := inS_n c_19 hI.mn (by omega)
        refine V.iconst (pc := 37) 0 hC dX6_odds_37 (by decide) ?_
        refine V.istore (pc := 38) [(4, .int 0), (0, .ref (a 0)), (1, .int p), (2, .int h), (3, .int w)] hC dX6_odds_38 (by decide) rfl ?_
        refine V.iconst (pc := 40) 0 hC dX6_odds_40 (by decide) ?_
        refine V.istore (pc := 41) [(5, .int 0), (4, .int 0), (0, .ref (a 0)), (1, .int p), (2, .int h), (3, .int w)] hC dX6_odds_41 (by decide) rfl ?_
        have loop_43 : ∀ (n : Nat) (i : Nat) (r : Int32) (g31 : Rw), i + n = 60 → oddS (μ 0) (nN p) h = run (fun i s => s + (if μ 0 (33 + 3 * nN p) = h ∨ getsS (μ 0) (nN p) (nN (μ 0 (33 + 3 * nN p))) (nN h) (μ 0 0 + nI i) then 1 else 0)) n i r → V X (wX k g a σ (va_up ν 31 g31)) [(0, .ref (a 0)), (1, .int p), (2, .int h), (3, .int w), (4, .int r), (5, .int (nI i))] [] 43 := by
          intro n
          induction n with
          | zero =>
            intro i r g31 hi hv
            refine V.iload (pc := 43) 5 hC dX6_odds_43 rfl ?_
            refine V.bipush (pc := 45) 60 hC dX6_odds_45 (by decide) ?_
            refine V.icmp_ge (pc := 47) 94 hC dX6_odds_47 (by decide) (fun c_47 => ?_) (fun c_47 => ?_)
            · have nc_47 : 60 ≤ i := (nle (nl 60) rfl (by omega) (by omega)).mp c_47
              have hod := odd_n (ρ := μ 0) (p := nN p) (h := h)
              obtain rfl : r = nI (nN (oddS (μ 0) (nN p) h)) := (show r = oddS (μ 0) (nN p) h from hv.symm).trans hod.1
              have hgb := gcd_b (c := nN (oddS (μ 0) (nN p) h))
              refine V.iload_n (pc := 94) 3 hC dX6_odds_94 rfl ?_
              refine V.if_ne (pc := 95) 103 hC dX6_odds_95 (by decide) (fun c_95 => ?_) (fun c_95 => ?_)
              · refine V.bipush (pc := 103) 60 hC dX6_odds_103 (by decide) ?_
                refine V.iload (pc := 105) 4 hC dX6_odds_105 rfl ?_
                refine V.bipush (pc := 107) 60 hC dX6_odds_107 (by decide) ?_
                refine V.callS0 (pc := 109) (as := [.int (nI (nN (oddS (μ 0) (nN p) h))), .int 60]) hC (c_X6_commonDivisor (nN (oddS (μ 0) (nN p) h)) hod.2) ms_X6_commonDivisor ml_X6_217 (by decide) rfl (Nat.le_of_ble_eq_true rfl) dX6_odds_109 ?_
                rintro _ _ rfl
                show V X (wX k g a σ (va_up ν 31 g31)) [(0, .ref (a 0)), (1, .int p), (2, .int h), (3, .int w), (4, .int (nI (nN (oddS (μ 0) (nN p) h)))), (5, .int (nI i))] [.int (nI (Nat.gcd (nN (oddS (μ 0) (nN p) h)) 60)), .int 60] 112
                refine V.idiv (pc := 112) hC dX6_odds_112 (nI_ne0 (by omega) (by omega)) ?_
                exact hR (60 / (nI (Nat.gcd (nN (oddS (μ 0) (nN p) h)) 60))) (σ, (va_up ν 31 g31)) _ _ dX6_odds_113 rfl (opc (m := μ) (by rw [op_odds, if_neg (not_not_intro c_8), if_neg (not_not_intro c_19), if_neg (not_not_intro c_28), if_neg c_95, ndiv (b := Nat.gcd (nN (oddS (μ 0) (nN p) h)) 60) (nl 60) rfl (by have := hod.2; omega) (by omega) (by omega)]) hRR)
              · refine V.iload (pc := 98) 4 hC dX6_odds_98 rfl ?_
                refine V.goto (pc := 100) 105 hC dX6_odds_100 (by decide) ?_
                refine V.iload (pc := 105) 4 hC dX6_odds_105 rfl ?_
                refine V.bipush (pc := 107) 60 hC dX6_odds_107 (by decide) ?_
                refine V.callS0 (pc := 109) (as := [.int (nI (nN (oddS (μ 0) (nN p) h))), .int 60]) hC (c_X6_commonDivisor (nN (oddS (μ 0) (nN p) h)) hod.2) ms_X6_commonDivisor ml_X6_217 (by decide) rfl (Nat.le_of_ble_eq_true rfl) dX6_odds_109 ?_
                rintro _ _ rfl
                show V X (wX k g a σ (va_up ν 31 g31)) [(0, .ref (a 0)), (1, .int p), (2, .int h), (3, .int w), (4, .int (nI (nN (oddS (μ 0) (nN p) h)))), (5, .int (nI i))] [.int (nI (Nat.gcd (nN (oddS (μ 0) (nN p) h)) 60)), .int (nI (nN (oddS (μ 0) (nN p) h)))] 112
                refine V.idiv (pc := 112) hC dX6_odds_112 (nI_ne0 (by omega) (by omega)) ?_
                exact hR ((nI (nN (oddS (μ 0) (nN p) h))) / (nI (Nat.gcd (nN (oddS (μ 0) (nN p) h)) 60))) (σ, (va_up ν 31 g31)) _ _ dX6_odds_113 rfl (opc (m := μ) (by rw [op_odds, if_neg (not_not_intro c_8), if_neg (not_not_intro c_19), if_neg (not_not_intro c_28), if_pos c_95, ndiv (b := Nat.gcd (nN (oddS (μ 0) (nN p) h)) 60) rfl rfl (by have := hod.2; omega) (by omega) (by omega)]) hRR)
            · have nc_47 : ¬ (60 ≤ i) := fun z => c_47 ((nle (nl 60) rfl (by omega) (by omega)).mpr z)
              exfalso; omega
          | succ n ih =>
            intro i r g31 hi hv
            refine V.iload (pc := 43) 5 hC dX6_odds_43 rfl ?_
            refine V.bipush (pc := 45) 60 hC dX6_odds_45 (by decide) ?_
            refine V.icmp_ge (pc := 47) 94 hC dX6_odds_47 (by decide) (fun c_47 => ?_) (fun c_47 => ?_)
            · have nc_47 : 60 ≤ i := (nle (nl 60) rfl (by omega) (by omega)).mp c_47
              exfalso; omega
            · have nc_47 : ¬ (60 ≤ i) := fun z => c_47 ((nle (nl 60) rfl (by omega) (by omega)).mpr z)
              refine V.iload_n (pc := 50) 2 hC dX6_odds_50 rfl ?_
              refine V.aload_n (pc := 51) 0 hC dX6_odds_51 rfl ?_
              refine V.get (pc := 52) (v := .ref (a 1)) hC cf_X6 0 0 fl_X6_10 (by decide) gx_0 rfl dX6_odds_52 ?_
              refine V.get (pc := 55) (v := .ref (a 19)) hC cf_X3 1 9 fl_X6_130 (by decide) gx_1 rfl dX6_odds_55 ?_
              refine V.iload_n (pc := 58) 1 hC dX6_odds_58 rfl ?_
              refine V.iald (pc := 59) (f := σ 19) hC 14 (nN p) gx_14 hh_p.1 (by omega) (by decide) dX6_odds_59 ?_
              refine V.eqi (y := μ 0 (33 + 3 * (nN p))) (hT.2.2.1.2.2.2 (nN p) (by omega)) ?_
              refine V.icmp_eq (pc := 60) 85 hC dX6_odds_60 (by decide) (fun c_60 => ?_) (fun c_60 => ?_)
              · refine V.iinc (pc := 85) 4 (r + 1) [(4, .int (r + 1)), (0, .ref (a 0)), (1, .int p), (2, .int h), (3, .int w), (5, .int (nI i))] hC dX6_odds_85 rfl rfl (by decide) rfl ?_
                refine V.iinc (pc := 88) 5 (nI (i + 1)) [(5, .int (nI (i + 1))), (4, .int (r + 1)), (0, .ref (a 0)), (1, .int p), (2, .int h), (3, .int w)] hC dX6_odds_88 rfl (ncast (nadd rfl (nl 1)) (by omega)) (by decide) rfl ?_
                refine V.goto (pc := 91) 43 hC dX6_odds_91 (by decide) ?_
                exact V.sub [2, 3, 4, 5, 1, 0] rfl (ih (i + 1) (r + 1) g31 (by omega) (run_next hv (by show r + _ = _; rw [if_pos (Or.inl c_60.symm)])))
              · refine V.aload_n (pc := 63) 0 hC dX6_odds_63 rfl ?_
                refine V.get (pc := 64) (v := .ref (a 1)) hC cf_X6 0 0 fl_X6_10 (by decide) gx_0 rfl dX6_odds_64 ?_
                refine V.iload_n (pc := 67) 1 hC dX6_odds_67 rfl ?_
                refine V.iload_n (pc := 68) 2 hC dX6_odds_68 rfl ?_
                refine V.aload_n (pc := 69) 0 hC dX6_odds_69 rfl ?_
                refine V.get (pc := 70) (v := .ref (a 1)) hC cf_X6 0 0 fl_X6_10 (by decide) gx_0 rfl dX6_odds_70 ?_
                refine V.get (pc := 73) (v := .int (σ 20 0)) hC cf_X3 1 10 fl_X6_79 (by decide) gx_1 rfl dX6_odds_73 ?_
                refine V.eqi (y := μ 0 0) (hT.2.2.2.1.1) ?_
                refine V.iload (pc := 76) 5 hC dX6_odds_76 rfl ?_
                refine V.iadd (pc := 78) hC dX6_odds_78 ?_
                refine V.sts (st' := [.int ((μ 0 0) + (nI i)), .int (nI (nN h)), .int (nI (nN p)), .ref (a 1)]) (stk (stc hh_h.1 (stc hh_p.1 (stk rfl)))) ?_
                refine V.callV0 (pc := 79) (as := [.int (nI (nN p)), .int (nI (nN h)), .int ((μ 0 0) + (nI i))]) hC (c_X3_gets σ (va_up ν 31 g31) (μ 0) (nN p) (nN h) ((μ 0 0) + (nI i)) hT hI hh_p.2 hh_h.2 (isN.mk (nadd hI.on0 rfl) (by omega) (by omega))) mu_X3_gets ml_X6_150 (by decide) ⟨1, 3, TX3, 17, _, rfl, gx_1⟩ rfl (Nat.le_of_ble_eq_true rfl) dX6_odds_79 ?_
                rintro _ f79_0 rfl
                show V X (wX k g a σ (va_up ν 31 f79_0)) [(0, .ref (a 0)), (1, .int p), (2, .int h), (3, .int w), (4, .int r), (5, .int (nI i))] [.int (bI (getsS (μ 0) (nN p) (nN ((μ 0) (33 + 3 * (nN p)))) (nN h) ((μ 0 0) + (nI i))))] 82
                refine V.if_eq_b (P := getsS (μ 0) (nN p) (nN ((μ 0) (33 + 3 * (nN p)))) (nN h) ((μ 0 0) + (nI i))) (pc := 82) 88 hC dX6_odds_82 (by decide) (fun c_82 => ?_) (fun c_82 => ?_)
                · refine V.iinc (pc := 88) 5 (nI (i + 1)) [(5, .int (nI (i + 1))), (0, .ref (a 0)), (1, .int p), (2, .int h), (3, .int w), (4, .int r)] hC dX6_odds_88 rfl (ncast (nadd rfl (nl 1)) (by omega)) (by decide) rfl ?_
                  refine V.goto (pc := 91) 43 hC dX6_odds_91 (by decide) ?_
                  exact V.sub [1, 2, 3, 4, 5, 0] rfl (ih (i + 1) r f79_0 (by omega) (run_next hv (by show r + _ = _; rw [if_neg (fun q => q.elim (fun z => c_60 z.symm) c_82), show r + 0 = r from by simp])))
                · refine V.iinc (pc := 85) 4 (r + 1) [(4, .int (r + 1)), (0, .ref (a 0)), (1, .int p), (2, .int h), (3, .int w), (5, .int (nI i))] hC dX6_odds_85 rfl rfl (by decide) rfl ?_
                  refine V.iinc (pc := 88) 5 (nI (i + 1)) [(5, .int (nI (i + 1))), (4, .int (r + 1)), (0, .ref (a 0)), (1, .int p), (2, .int h), (3, .int w)] hC dX6_odds_88 rfl (ncast (nadd rfl (nl 1)) (by omega)) (by decide) rfl ?_
                  refine V.goto (pc := 91) 43 hC dX6_odds_91 (by decide) ?_
                  exact V.sub [2, 3, 4, 5, 1, 0] rfl (ih (i + 1) (r + 1) f79_0 (by omega) (run_next hv (by show r + _ = _; rw [if_pos (Or.inr c_82)])))
        exact V.sub [2, 3, 4, 5, 1, 0] rfl (loop_43 60 0 0 (ν 31) (by omega) rfl)
      · refine V.aload_n (pc := 31) 0 hC dX6_odds_31 rfl ?_
        refine V.iconst (pc := 32) 1 hC dX6_odds_32 (by decide) ?_
        refine V.sts (st' := [.int (nI 1), .ref (a 0)]) (stc (nl 1) (stk rfl)) ?_
        refine V.callV0 (pc := 33) (as := [.int (nI 1)]) hC (c_X6_error σ ν 1 (by omega)) mu_X6_error ml_X6_57 (by decide) ⟨0, 6, TX6, 8, _, rfl, gx_0⟩ rfl (Nat.le_of_ble_eq_true rfl) dX6_odds_33 ?_
        rintro _ f33_0 ⟨rfl, hu33_0⟩
        have hu33_0 : f33_0 = upd (σ 0) 1 (σ 0 1 + 1) := hu33_0
        show V X (wX k g a (va_up σ 0 f33_0) ν) [(0, .ref (a 0)), (1, .int p), (2, .int h), (3, .int w)] [.int (lowE 1)] 36
        exact hR (lowE 1) ((va_up σ 0 f33_0), ν) _ _ dX6_odds_36 rfl (ope (by rw [op_odds, if_neg (not_not_intro c_8), if_neg (not_not_intro c_19), if_pos c_28] <;> rfl) (hRR.er (by omega) hu33_0))
set_option maxHeartbeats 4000000 in
set_option maxRecDepth 100000 in
theorem c_X6_told {l : Launch} {D : va_G} {k : Nat → ClassId} {g a : Nat → Nat} (σ ν μ : St) (e : Int32) (hRR : RQ σ μ) : Ct l D k g yX6_told cX6_told 2 (some .int) 1 22 [.ref (a 0), .int e] (S := St × St) (wX k g a σ ν) (fun uu => wX k g a uu.1 uu.2) (fun vv uu => vv = some (.int ((op_told e μ).1)) ∧ RQ uu.1 (op_told e μ).2) := by
  refine Ct.ofI RX6 rfl (by decide +kernel) (Nat.le_of_ble_eq_true rfl) (fun X hC hR => ?_)
  have hT := hRR.1.2.2.1.1; have hI := hRR.1.2.2.1.2
  have hb4 := hI.hb; have hb8 := hI.mb; have hb6 := hI.pb; have hbm := hI.ob0; have hbt := hI.bb; have hbw := hI.wb
  show V X (wX k g a σ ν) [(0, .ref (a 0)), (1, .int e)] [] 0
  refine V.iload_n (pc := 0) 1 hC dX6_told_0 rfl ?_
  refine V.iconst (pc := 1) 1 hC dX6_told_1 (by decide) ?_
  refine V.bipush (pc := 2) 6 hC dX6_told_2 (by decide) ?_
  refine V.callS0 (pc := 4) (as := [.int e, .int 1, .int 6]) hC (c_X6_within e 1 6 ) ms_X6_within ml_X6_53 (by decide) rfl (Nat.le_of_ble_eq_true rfl) dX6_told_4 ?_
  rintro _ _ rfl
  show V X (wX k g a σ ν) [(0, .ref (a 0)), (1, .int e)] [.int (bI (inS e 1 6))] 7
  refine V.if_eq_b (P := inS e 1 6) (pc := 7) 19 hC dX6_told_7 (by decide) (fun c_7 => ?_) (fun c_7 => ?_)
  · refine V.aload_n (pc := 19) 0 hC dX6_told_19 rfl ?_
    refine V.iconst (pc := 20) 1 hC dX6_told_20 (by decide) ?_
    refine V.sts (st' := [.int (nI 1), .ref (a 0)]) (stc (nl 1) (stk rfl)) ?_
    refine V.callV0 (pc := 21) (as := [.int (nI 1)]) hC (c_X6_error σ ν 1 (by omega)) mu_X6_error ml_X6_57 (by decide) ⟨0, 6, TX6, 8, _, rfl, gx_0⟩ rfl (Nat.le_of_ble_eq_true rfl) dX6_told_21 ?_
    rintro _ f21_0 ⟨rfl, hu21_0⟩
    have hu21_0 : f21_0 = upd (σ 0) 1 (σ 0 1 + 1) := hu21_0
    show V X (wX k g a (va_up σ 0 f21_0) ν) [(0, .ref (a 0)), (1, .int e)] [.int (lowE 1)] 24
    exact hR (lowE 1) ((va_up σ 0 f21_0), ν) _ _ dX6_told_24 rfl (ope (by rw [op_told, if_neg c_7] <;> rfl) (hRR.er (by omega) hu21_0))
  · have hh_e := inS_1 c_7 (nl 1) (nl 6) (by omega) (by omega)
    refine V.aload_n (pc := 10) 0 hC dX6_told_10 rfl ?_
    refine V.get (pc := 11) (v := .ref (a 7)) hC cf_X6 0 6 fl_X6_49 (by decide) gx_0 rfl dX6_told_11 ?_
    refine V.iload_n (pc := 14) 1 hC dX6_told_14 rfl ?_
    refine V.iald (pc := 15) (f := σ 0) hC 7 (nN e) gx_7 hh_e.1 (by omega) (by decide) dX6_told_15 ?_
    refine V.eqi (y := μ 3 (nN e)) (hRR.1.1 _ (by omega)) ?_
    refine V.goto (pc := 16) 24 hC dX6_told_16 (by decide) ?_
    exact hR (μ 3 (nN e)) (σ, ν) _ _ dX6_told_24 rfl (opc (m := μ) (by rw [op_told, if_pos c_7] <;> rfl) hRR)
set_option maxHeartbeats 4000000 in
set_option maxRecDepth 100000 in
theorem c_X6_count {l : Launch} {D : va_G} {k : Nat → ClassId} {g a : Nat → Nat} (σ ν μ : St) (w : Int32) (hRR : RQ σ μ) : Ct l D k g yX6_count cX6_count 2 (some .int) 1 21 [.ref (a 0), .int w] (S := St × St) (wX k g a σ ν) (fun uu => wX k g a uu.1 uu.2) (fun vv uu => vv = some (.int ((op_count w μ).1)) ∧ RQ uu.1 (op_count w μ).2) := by
  refine Ct.ofI RX6 rfl (by decide +kernel) (Nat.le_of_ble_eq_true rfl) (fun X hC hR => ?_)
  have hT := hRR.1.2.2.1.1; have hI := hRR.1.2.2.1.2
  have hb4 := hI.hb; have hb8 := hI.mb; have hb6 := hI.pb; have hbm := hI.ob0; have hbt := hI.bb; have hbw := hI.wb
  show V X (wX k g a σ ν) [(0, .ref (a 0)), (1, .int w)] [] 0
  refine V.iload_n (pc := 0) 1 hC dX6_count_0 rfl ?_
  by_cases s_1_0 : w = 0
  · refine V.tableIn (pc := 1) 48 hC dX6_count_1 (by rw [s_1_0]; decide) (by rw [s_1_0]; decide) (by rw [s_1_0]; rfl) (by decide) ?_
    refine V.aload_n (pc := 48) 0 hC dX6_count_48 rfl ?_
    refine V.get (pc := 49) (v := .ref (a 1)) hC cf_X6 0 0 fl_X6_10 (by decide) gx_0 rfl dX6_count_49 ?_
    refine V.get (pc := 52) (v := .int (σ 10 0)) hC cf_X3 1 0 fl_X6_61 (by decide) gx_1 rfl dX6_count_52 ?_
    refine V.eqi (y := μ 0 2) (hT.1.1) ?_
    exact hR (μ 0 2) (σ, ν) _ _ dX6_count_55 rfl (opc (m := μ) (by rw [op_count, if_pos s_1_0]) hRR)
  by_cases s_1_1 : w = 1
  · refine V.tableIn (pc := 1) 56 hC dX6_count_1 (by rw [s_1_1]; decide) (by rw [s_1_1]; decide) (by rw [s_1_1]; rfl) (by decide) ?_
    refine V.aload_n (pc := 56) 0 hC dX6_count_56 rfl ?_
    refine V.get (pc := 57) (v := .ref (a 1)) hC cf_X6 0 0 fl_X6_10 (by decide) gx_0 rfl dX6_count_57 ?_
    refine V.get (pc := 60) (v := .int (σ 13 0)) hC cf_X3 1 3 fl_X6_91 (by decide) gx_1 rfl dX6_count_60 ?_
    refine V.eqi (y := μ 0 3) (hT.2.1.1) ?_
    exact hR (μ 0 3) (σ, ν) _ _ dX6_count_63 rfl (opc (m := μ) (by rw [op_count, if_neg (show ¬ w = 0 from by rw [s_1_1]; decide), if_pos s_1_1]) hRR)
  by_cases s_1_2 : w = 2
  · refine V.tableIn (pc := 1) 64 hC dX6_count_1 (by rw [s_1_2]; decide) (by rw [s_1_2]; decide) (by rw [s_1_2]; rfl) (by decide) ?_
    refine V.aload_n (pc := 64) 0 hC dX6_count_64 rfl ?_
    refine V.get (pc := 65) (v := .ref (a 1)) hC cf_X6 0 0 fl_X6_10 (by decide) gx_0 rfl dX6_count_65 ?_
    refine V.get (pc := 68) (v := .int (σ 16 0)) hC cf_X3 1 6 fl_X6_115 (by decide) gx_1 rfl dX6_count_68 ?_
    refine V.eqi (y := μ 0 4) (hT.2.2.1.1) ?_
    exact hR (μ 0 4) (σ, ν) _ _ dX6_count_71 rfl (opc (m := μ) (by rw [op_count, if_neg (show ¬ w = 0 from by rw [s_1_2]; decide), if_neg (show ¬ w = 1 from by rw [s_1_2]; decide), if_pos s_1_2]) hRR)
  by_cases s_1_3 : w = 3
  · refine V.tableIn (pc := 1) 72 hC dX6_count_1 (by rw [s_1_3]; decide) (by rw [s_1_3]; decide) (by rw [s_1_3]; rfl) (by decide) ?_
    refine V.aload_n (pc := 72) 0 hC dX6_count_72 rfl ?_
    refine V.get (pc := 73) (v := .ref (a 1)) hC cf_X6 0 0 fl_X6_10 (by decide) gx_0 rfl dX6_count_73 ?_
    refine V.get (pc := 76) (v := .int (σ 20 0)) hC cf_X3 1 10 fl_X6_79 (by decide) gx_1 rfl dX6_count_76 ?_
    refine V.eqi (y := μ 0 0) (hT.2.2.2.1.1) ?_
    exact hR (μ 0 0) (σ, ν) _ _ dX6_count_79 rfl (opc (m := μ) (by rw [op_count, if_neg (show ¬ w = 0 from by rw [s_1_3]; decide), if_neg (show ¬ w = 1 from by rw [s_1_3]; decide), if_neg (show ¬ w = 2 from by rw [s_1_3]; decide), if_pos s_1_3]) hRR)
  by_cases s_1_4 : w = 4
  · refine V.tableIn (pc := 1) 80 hC dX6_count_1 (by rw [s_1_4]; decide) (by rw [s_1_4]; decide) (by rw [s_1_4]; rfl) (by decide) ?_
    refine V.aload_n (pc := 80) 0 hC dX6_count_80 rfl ?_
    refine V.get (pc := 81) (v := .ref (a 1)) hC cf_X6 0 0 fl_X6_10 (by decide) gx_0 rfl dX6_count_81 ?_
    refine V.get (pc := 84) (v := .int (σ 22 0)) hC cf_X3 1 12 fl_X6_153 (by decide) gx_1 rfl dX6_count_84 ?_
    refine V.eqi (y := μ 0 5) (hT.2.2.2.2.1.1) ?_
    exact hR (μ 0 5) (σ, ν) _ _ dX6_count_87 rfl (opc (m := μ) (by rw [op_count, if_neg (show ¬ w = 0 from by rw [s_1_4]; decide), if_neg (show ¬ w = 1 from by rw [s_1_4]; decide), if_neg (show ¬ w = 2 from by rw [s_1_4]; decide), if_neg (show ¬ w = 3 from by rw [s_1_4]; decide), if_pos s_1_4]) hRR)
  by_cases s_1_5 : w = 5
  · refine V.tableIn (pc := 1) 88 hC dX6_count_1 (by rw [s_1_5]; decide) (by rw [s_1_5]; decide) (by rw [s_1_5]; rfl) (by decide) ?_
    refine V.aload_n (pc := 88) 0 hC dX6_count_88 rfl ?_
    refine V.get (pc := 89) (v := .ref (a 1)) hC cf_X6 0 0 fl_X6_10 (by decide) gx_0 rfl dX6_count_89 ?_
    refine V.get (pc := 92) (v := .int (σ 24 0)) hC cf_X3 1 14 fl_X6_280 (by decide) gx_1 rfl dX6_count_92 ?_
    refine V.eqi (y := μ 0 6) (hT.2.2.2.2.2.1.1) ?_
    exact hR (μ 0 6) (σ, ν) _ _ dX6_count_95 rfl (opc (m := μ) (by rw [op_count, if_neg (show ¬ w = 0 from by rw [s_1_5]; decide), if_neg (show ¬ w = 1 from by rw [s_1_5]; decide), if_neg (show ¬ w = 2 from by rw [s_1_5]; decide), if_neg (show ¬ w = 3 from by rw [s_1_5]; decide), if_neg (show ¬ w = 4 from by rw [s_1_5]; decide), if_pos s_1_5]) hRR)
  by_cases s_1_6 : w = 6
  · refine V.tableIn (pc := 1) 96 hC dX6_count_1 (by rw [s_1_6]; decide) (by rw [s_1_6]; decide) (by rw [s_1_6]; rfl) (by decide) ?_
    refine V.aload_n (pc := 96) 0 hC dX6_count_96 rfl ?_
    refine V.get (pc := 97) (v := .ref (a 5)) hC cf_X6 0 4 fl_X6_38 (by decide) gx_0 rfl dX6_count_97 ?_
    refine V.get (pc := 100) (v := .int (σ 81 0)) hC cf_X4 5 1 fl_X6_235 (by decide) gx_5 rfl dX6_count_100 ?_
    refine V.eqi (y := μ 18 0) (hRR.1.2.2.2.2.2.1) ?_
    exact hR (μ 18 0) (σ, ν) _ _ dX6_count_103 rfl (opc (m := μ) (by rw [op_count, if_neg (show ¬ w = 0 from by rw [s_1_6]; decide), if_neg (show ¬ w = 1 from by rw [s_1_6]; decide), if_neg (show ¬ w = 2 from by rw [s_1_6]; decide), if_neg (show ¬ w = 3 from by rw [s_1_6]; decide), if_neg (show ¬ w = 4 from by rw [s_1_6]; decide), if_neg (show ¬ w = 5 from by rw [s_1_6]; decide), if_pos s_1_6]) hRR)
  by_cases s_1_7 : w = 7
  · refine V.tableIn (pc := 1) 104 hC dX6_count_1 (by rw [s_1_7]; decide) (by rw [s_1_7]; decide) (by rw [s_1_7]; rfl) (by decide) ?_
    refine V.aload_n (pc := 104) 0 hC dX6_count_104 rfl ?_
    refine V.get (pc := 105) (v := .ref (a 1)) hC cf_X6 0 0 fl_X6_10 (by decide) gx_0 rfl dX6_count_105 ?_
    refine V.get (pc := 108) (v := .int (σ 21 0)) hC cf_X3 1 11 fl_X6_194 (by decide) gx_1 rfl dX6_count_108 ?_
    refine V.eqi (y := μ 0 1) (hT.2.2.2.1.2) ?_
    exact hR (μ 0 1) (σ, ν) _ _ dX6_count_111 rfl (opc (m := μ) (by rw [op_count, if_neg (show ¬ w = 0 from by rw [s_1_7]; decide), if_neg (show ¬ w = 1 from by rw [s_1_7]; decide), if_neg (show ¬ w = 2 from by rw [s_1_7]; decide), if_neg (show ¬ w = 3 from by rw [s_1_7]; decide), if_neg (show ¬ w = 4 from by rw [s_1_7]; decide), if_neg (show ¬ w = 5 from by rw [s_1_7]; decide), if_neg (show ¬ w = 6 from by rw [s_1_7]; decide), if_pos s_1_7]) hRR)
  refine V.tableOut (pc := 1) 112 hC dX6_count_1 (by have ts_1_0 : ¬ (w).toInt = 0 := fun q => s_1_0 (Int32.toInt_inj.mp q); have ts_1_1 : ¬ (w).toInt = 1 := fun q => s_1_1 (Int32.toInt_inj.mp q); have ts_1_2 : ¬ (w).toInt = 2 := fun q => s_1_2 (Int32.toInt_inj.mp q); have ts_1_3 : ¬ (w).toInt = 3 := fun q => s_1_3 (Int32.toInt_inj.mp q); have ts_1_4 : ¬ (w).toInt = 4 := fun q => s_1_4 (Int32.toInt_inj.mp q); have ts_1_5 : ¬ (w).toInt = 5 := fun q => s_1_5 (Int32.toInt_inj.mp q); have ts_1_6 : ¬ (w).toInt = 6 := fun q => s_1_6 (Int32.toInt_inj.mp q); have ts_1_7 : ¬ (w).toInt = 7 := fun q => s_1_7 (Int32.toInt_inj.mp q); omega) (by decide) ?_
  refine V.aload_n (pc := 112) 0 hC dX6_count_112 rfl ?_
  refine V.iconst (pc := 113) 1 hC dX6_count_113 (by decide) ?_
  refine V.sts (st' := [.int (nI 1), .ref (a 0)]) (stc (nl 1) (stk rfl)) ?_
  refine V.callV0 (pc := 114) (as := [.int (nI 1)]) hC (c_X6_error σ ν 1 (by omega)) mu_X6_error ml_X6_57 (by decide) ⟨0, 6, TX6, 8, _, rfl, gx_0⟩ rfl (Nat.le_of_ble_eq_true rfl) dX6_count_114 ?_
  rintro _ f114_0 ⟨rfl, hu114_0⟩
  have hu114_0 : f114_0 = upd (σ 0) 1 (σ 0 1 + 1) := hu114_0
  show V X (wX k g a (va_up σ 0 f114_0) ν) [(0, .ref (a 0)), (1, .int w)] [.int (lowE 1)] 117
  exact hR (lowE 1) ((va_up σ 0 f114_0), ν) _ _ dX6_count_117 rfl (ope (by rw [op_count, if_neg s_1_0, if_neg s_1_1, if_neg s_1_2, if_neg s_1_3, if_neg s_1_4, if_neg s_1_5, if_neg s_1_6, if_neg s_1_7] <;> rfl) (hRR.er (by omega) hu114_0))
set_option maxHeartbeats 4000000 in
set_option maxRecDepth 100000 in
theorem c_X6_body {l : Launch} {D : va_G} {k : Nat → ClassId} {g a : Nat → Nat} (σ ν μ : St) (i : Int32) (hRR : RQ σ μ) : Ct l D k g yX6_body cX6_body 2 (some .int) 1 22 [.ref (a 0), .int i] (S := St × St) (wX k g a σ ν) (fun uu => wX k g a uu.1 uu.2) (fun vv uu => vv = some (.int ((op_body i μ).1)) ∧ RQ uu.1 (op_body i μ).2) := by
  refine Ct.ofI RX6 rfl (by decide +kernel) (Nat.le_of_ble_eq_true rfl) (fun X hC hR => ?_)
  have hT := hRR.1.2.2.1.1; have hI := hRR.1.2.2.1.2
  have hb4 := hI.hb; have hb8 := hI.mb; have hb6 := hI.pb; have hbm := hI.ob0; have hbt := hI.bb; have hbw := hI.wb
  have hTr := hRR.1.2.2.2.2.2; have hT3 := hTr.2.1.2
  show V X (wX k g a σ ν) [(0, .ref (a 0)), (1, .int i)] [] 0
  refine V.iload_n (pc := 0) 1 hC dX6_body_0 rfl ?_
  refine V.iconst (pc := 1) 0 hC dX6_body_1 (by decide) ?_
  refine V.aload_n (pc := 2) 0 hC dX6_body_2 rfl ?_
  refine V.get (pc := 3) (v := .ref (a 5)) hC cf_X6 0 4 fl_X6_38 (by decide) gx_0 rfl dX6_body_3 ?_
  refine V.get (pc := 6) (v := .int (σ 81 0)) hC cf_X4 5 1 fl_X6_235 (by decide) gx_5 rfl dX6_body_6 ?_
  refine V.eqi (y := μ 18 0) (hTr.1) ?_
  refine V.iconst (pc := 9) 1 hC dX6_body_9 (by decide) ?_
  refine V.isub (pc := 10) hC dX6_body_10 ?_
  refine V.callS0 (pc := 11) (as := [.int i, .int 0, .int ((μ 18 0) - 1)]) hC (c_X6_within i 0 ((μ 18 0) - 1) ) ms_X6_within ml_X6_53 (by decide) rfl (Nat.le_of_ble_eq_true rfl) dX6_body_11 ?_
  rintro _ _ rfl
  show V X (wX k g a σ ν) [(0, .ref (a 0)), (1, .int i)] [.int (bI (inS i 0 ((μ 18 0) - 1)))] 14
  refine V.if_eq_b (P := inS i 0 ((μ 18 0) - 1)) (pc := 14) 29 hC dX6_body_14 (by decide) (fun c_14 => ?_) (fun c_14 => ?_)
  · refine V.aload_n (pc := 29) 0 hC dX6_body_29 rfl ?_
    refine V.iconst (pc := 30) 2 hC dX6_body_30 (by decide) ?_
    refine V.sts (st' := [.int (nI 2), .ref (a 0)]) (stc (nl 2) (stk rfl)) ?_
    refine V.callV0 (pc := 31) (as := [.int (nI 2)]) hC (c_X6_error σ ν 2 (by omega)) mu_X6_error ml_X6_57 (by decide) ⟨0, 6, TX6, 8, _, rfl, gx_0⟩ rfl (Nat.le_of_ble_eq_true rfl) dX6_body_31 ?_
    rintro _ f31_0 ⟨rfl, hu31_0⟩
    have hu31_0 : f31_0 = upd (σ 0) 2 (σ 0 2 + 1) := hu31_0
    show V X (wX k g a (va_up σ 0 f31_0) ν) [(0, .ref (a 0)), (1, .int i)] [.int (lowE 2)] 34
    exact hR (lowE 2) ((va_up σ 0 f31_0), ν) _ _ dX6_body_34 rfl (ope (by rw [op_body, if_neg c_14] <;> rfl) (hRR.er (by omega) hu31_0))
  · have hh_i := inS_n c_14 hTr.2.1.1 (by omega)
    refine V.aload_n (pc := 17) 0 hC dX6_body_17 rfl ?_
    refine V.get (pc := 18) (v := .ref (a 5)) hC cf_X6 0 4 fl_X6_38 (by decide) gx_0 rfl dX6_body_18 ?_
    refine V.get (pc := 21) (v := .ref (a 80)) hC cf_X4 5 0 fl_X6_238 (by decide) gx_5 rfl dX6_body_21 ?_
    refine V.iload_n (pc := 24) 1 hC dX6_body_24 rfl ?_
    refine V.iald (pc := 25) (f := σ 80) hC 46 (nN i) gx_46 hh_i.1 (by omega) (by decide) dX6_body_25 ?_
    refine V.eqi (y := μ 17 (nN i)) (hTr.2.2 _ hh_i.2) ?_
    refine V.goto (pc := 26) 34 hC dX6_body_26 (by decide) ?_
    exact hR (μ 17 (nN i)) (σ, ν) _ _ dX6_body_34 rfl (opc (m := μ) (by rw [op_body, if_pos c_14] <;> rfl) hRR)
