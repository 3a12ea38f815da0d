theorem XH_s {h tu ofs ρ : Rw} {i : Nat} {v : Int32} (x : XH h tu ofs ρ) (hi : i < 4) : XH h tu (upd ofs i v) (upd ρ (8 + 2 * i) v) := by
  refine ⟨x.1.trans (upd_ne (by omega)).symm, fun j hj => (x.2.1 j hj).trans (upd_ne (by omega)).symm, fun j hj => ?_⟩
  by_cases e : j = i
  · subst e; rw [upd_eq, upd_eq]
  · rw [upd_ne e, upd_ne (by omega)]; exact x.2.2 j hj
theorem cpy_v {f g : Rw} {n i : Nat} (h : i < n) : va_cpy f g 0 0 n i = f i := by
  unfold va_cpy
  rw [if_pos (by omega)]
  congr 1; omega

set_option maxHeartbeats 4000000 in
set_option maxRecDepth 100000 in
theorem c_X3_worthiest {l : Launch} {D : va_G} {k : Nat → ClassId} {g a : Nat → Nat} (σ ν : St) (ρ : Rw) (set t : Int32) (B : Nat) (hT : RT σ ρ) (hI : Inv ρ) (ht : isN t 100000) (hB : run (bstF ρ set t) (nN (ρ 3)) 0 (-1) = nI B) (hB8 : B < 8) : Ct l D k g yX3_worthiest cX3_worthiest 7 (some .int) 4 94 [.ref (a 1), .int set, .int t] (S := Rw) (wX k g a σ ν) (fun uu => wX k g a σ (va_up ν 32 uu)) (fun vv uu => vv = some (.int (nI B))) := by
  refine Ct.ofI RX3 rfl (by decide +kernel) (Nat.le_of_ble_eq_true rfl) (fun X hC hR => ?_)
  have hb4 := hI.hb; have hb8 := hI.mb; have hb6 := hI.pb; have hbm := hI.ob0; have hbt := hI.bb; have hbw := hI.wb
  show V X (wX k g a σ ν) [(0, .ref (a 1)), (1, .int set), (2, .int t)] [] 0
  refine V.iconst (pc := 0) (-1) hC dX3_worthiest_0 (by decide) ?_
  refine V.istore_n (pc := 1) [(3, .int (-1)), (0, .ref (a 1)), (1, .int set), (2, .int t)] hC dX3_worthiest_1 (by decide) rfl ?_
  refine V.iconst (pc := 2) 0 hC dX3_worthiest_2 (by decide) ?_
  refine V.istore (pc := 3) [(4, .int 0), (3, .int (-1)), (0, .ref (a 1)), (1, .int set), (2, .int t)] hC dX3_worthiest_3 (by decide) rfl ?_
  refine V.iconst (pc := 5) 0 hC dX3_worthiest_5 (by decide) ?_
  refine V.istore (pc := 6) [(5, .int 0), (4, .int 0), (3, .int (-1)), (0, .ref (a 1)), (1, .int set), (2, .int t)] hC dX3_worthiest_6 (by decide) rfl ?_
  have loop_8 : ∀ (n : Nat) (i : Nat) (bs mo : Int32) (f : Rw), i + n = nN (ρ 3) → bs = -1 ∨ (bs = nI (nN bs) ∧ nN bs < i ∧ mo = worthS ρ (nN bs) t) → run (bstF ρ set t) (nN (ρ 3)) 0 (-1) = run (bstF ρ set t) n i bs → V X (wX k g a σ (va_up ν 32 f)) [(0, .ref (a 1)), (1, .int set), (2, .int t), (3, .int bs), (4, .int mo), (5, .int (nI i))] [] 8 := by
    intro n
    induction n with
    | zero =>
      intro i bs mo f hi hb hv
      refine V.iload (pc := 8) 5 hC dX3_worthiest_8 rfl ?_
      refine V.aload_n (pc := 10) 0 hC dX3_worthiest_10 rfl ?_
      refine V.get (pc := 11) (v := .int (σ 13 0)) hC cf_X3 1 3 fl_X3_60 (by decide) gx_1 rfl dX3_worthiest_11 ?_
      refine V.eqi (y := ρ 3) (hT.2.1.1) ?_
      refine V.icmp_ge (pc := 14) 59 hC dX3_worthiest_14 (by decide) (fun c_14 => ?_) (fun c_14 => ?_)
      · have nc_14 : nN (ρ 3) ≤ i := (nle hI.mn rfl (by omega) (by omega)).mp c_14
        refine V.iload_n (pc := 59) 3 hC dX3_worthiest_59 rfl ?_
        refine V.iconst (pc := 60) 0 hC dX3_worthiest_60 (by decide) ?_
        refine V.mmax (pc := 61) hC ml_X3_138 ⟨Nat.le_of_ble_eq_true rfl, Nat.le_of_ble_eq_true rfl⟩ dX3_worthiest_61 ?_
        exact hR (if bs < 0 then 0 else bs) (f) _ _ dX3_worthiest_64 rfl (ri (by rw [show bs = nI B from hv.symm.trans hB]; exact mx_0 rfl (by omega)))
      · have nc_14 : ¬ (nN (ρ 3) ≤ i) := fun z => c_14 ((nle hI.mn rfl (by omega) (by omega)).mpr z)
        exfalso; omega
    | succ n ih =>
      intro i bs mo f hi hb hv
      refine V.iload (pc := 8) 5 hC dX3_worthiest_8 rfl ?_
      refine V.aload_n (pc := 10) 0 hC dX3_worthiest_10 rfl ?_
      refine V.get (pc := 11) (v := .int (σ 13 0)) hC cf_X3 1 3 fl_X3_60 (by decide) gx_1 rfl dX3_worthiest_11 ?_
      refine V.eqi (y := ρ 3) (hT.2.1.1) ?_
      refine V.icmp_ge (pc := 14) 59 hC dX3_worthiest_14 (by decide) (fun c_14 => ?_) (fun c_14 => ?_)
      · have nc_14 : nN (ρ 3) ≤ i := (nle hI.mn rfl (by omega) (by omega)).mp c_14
        exfalso; omega
      · have nc_14 : ¬ (nN (ρ 3) ≤ i) := fun z => c_14 ((nle hI.mn rfl (by omega) (by omega)).mpr z)
        refine V.iload_n (pc := 17) 1 hC dX3_worthiest_17 rfl ?_
        refine V.iload (pc := 18) 5 hC dX3_worthiest_18 rfl ?_
        refine V.callN0 (pc := 20) (as := [.int set, .int (nI i)]) hC (c_X6_isIn set (nI i) ) ms_X6_isIn (host := RX6) (by simp [nstW]) (by decide) rfl (Nat.le_of_ble_eq_true rfl) dX3_worthiest_20 ?_
        rintro _ _ rfl
        show V X (wX k g a σ (va_up ν 32 f)) [(0, .ref (a 1)), (1, .int set), (2, .int t), (3, .int bs), (4, .int mo), (5, .int (nI i))] [.int (bI (¬ bitS set (nI i) = 0))] 23
        refine V.if_eq_b (P := ¬ bitS set (nI i) = 0) (pc := 23) 53 hC dX3_worthiest_23 (by decide) (fun c_23 => ?_) (fun c_23 => ?_)
        · refine V.iinc (pc := 53) 5 (nI (i + 1)) [(5, .int (nI (i + 1))), (0, .ref (a 1)), (1, .int set), (2, .int t), (3, .int bs), (4, .int mo)] hC dX3_worthiest_53 rfl (ncast (nadd rfl (nl 1)) (by omega)) (by decide) rfl ?_
          refine V.goto (pc := 56) 8 hC dX3_worthiest_56 (by decide) ?_
          exact V.sub [1, 2, 3, 4, 5, 0] rfl (ih (i + 1) bs mo f (by omega) (hb.imp_right (fun q => ⟨q.1, by omega, q.2.2⟩)) (run_next hv (by show (if bitS set (nI i) = 1 ∧ (bs < 0 ∨ worthS ρ (nN bs) t < worthS ρ i t) then _ else _) = _; rw [if_neg (show ¬ (bitS set (nI i) = 1 ∧ (bs < 0 ∨ worthS ρ (nN bs) t < worthS ρ i t)) from fun q => c_23 (fun z => (bit_n (by omega)).mp z q.1))])))
        · refine V.aload_n (pc := 26) 0 hC dX3_worthiest_26 rfl ?_
          refine V.iload (pc := 27) 5 hC dX3_worthiest_27 rfl ?_
          refine V.iload_n (pc := 29) 2 hC dX3_worthiest_29 rfl ?_
          refine V.callV0 (pc := 30) (as := [.int (nI i), .int t]) hC (c_X3_worth σ (va_up ν 32 f) ρ i t hT hI (by omega) ht) mu_X3_worth ml_X3_135 (by decide) ⟨1, 3, TX3, 17, _, rfl, gx_1⟩ rfl (Nat.le_of_ble_eq_true rfl) dX3_worthiest_30 ?_
          rintro _ f30_0 rfl
          show V X (wX k g a σ (va_up ν 32 f30_0)) [(0, .ref (a 1)), (1, .int set), (2, .int t), (3, .int bs), (4, .int mo), (5, .int (nI i))] [.int (worthS ρ i t)] 33
          refine V.istore (pc := 33) [(6, .int (worthS ρ i t)), (0, .ref (a 1)), (1, .int set), (2, .int t), (3, .int bs), (4, .int mo), (5, .int (nI i))] hC dX3_worthiest_33 (by decide) rfl ?_
          refine V.iload_n (pc := 35) 4 hC dX3_worthiest_35 rfl ?_
          refine V.if_lt (pc := 36) 46 hC dX3_worthiest_36 (by decide) (fun c_36 => ?_) (fun c_36 => ?_)
          · refine V.iload (pc := 46) 6 hC dX3_worthiest_46 rfl ?_
            refine V.istore_n (pc := 48) [(3, .int (nI i)), (6, .int (worthS ρ i t)), (0, .ref (a 1)), (1, .int set), (2, .int t), (4, .int mo), (5, .int (nI i))] hC dX3_worthiest_48 (by decide) rfl ?_
            refine V.iload (pc := 49) 1 hC dX3_worthiest_49 rfl ?_
            refine V.istore (pc := 51) [(4, .int (worthS ρ i t)), (3, .int (nI i)), (6, .int (worthS ρ i t)), (0, .ref (a 1)), (1, .int set), (2, .int t), (5, .int (nI i))] hC dX3_worthiest_51 (by decide) rfl ?_
            refine V.iinc (pc := 53) 6 (nI (i + 1)) [(5, .int (nI (i + 1))), (4, .int (worthS ρ i t)), (3, .int (nI i)), (6, .int (worthS ρ i t)), (0, .ref (a 1)), (1, .int set), (2, .int t)] hC dX3_worthiest_53 rfl (ncast (nadd rfl (nl 1)) (by omega)) (by decide) rfl ?_
            refine V.goto (pc := 56) 8 hC dX3_worthiest_56 (by decide) ?_
            exact V.sub [4, 5, 6, 2, 1, 0] rfl (ih (i + 1) (nI i) (worthS ρ i t) f30_0 (by omega) (Or.inr ⟨by rw [nN_nI (by omega)], by rw [nN_nI (by omega)]; omega, by rw [nN_nI (by omega)]⟩) (run_next hv (by show (if bitS set (nI i) = 1 ∧ (bs < 0 ∨ worthS ρ (nN bs) t < worthS ρ i t) then _ else _) = _; rw [if_pos (show bitS set (nI i) = 1 ∧ (bs < 0 ∨ worthS ρ (nN bs) t < worthS ρ i t) from ⟨Decidable.not_not.mp (fun z => c_23 ((bit_n (by omega)).mpr z)), Or.inl c_36⟩)])))
          · have c_36n : ¬ bs = -1 := fun q => by rw [q] at c_36; exact absurd c_36 (by decide)
            refine V.iload (pc := 39) 0 hC dX3_worthiest_39 rfl ?_
            refine V.iload (pc := 41) 5 hC dX3_worthiest_41 rfl ?_
            refine V.icmp_le (pc := 43) 53 hC dX3_worthiest_43 (by decide) (fun c_43 => ?_) (fun c_43 => ?_)
            · refine V.iinc (pc := 53) 6 (nI (i + 1)) [(5, .int (nI (i + 1))), (6, .int (worthS ρ i t)), (0, .ref (a 1)), (1, .int set), (2, .int t), (3, .int bs), (4, .int mo)] hC dX3_worthiest_53 rfl (ncast (nadd rfl (nl 1)) (by omega)) (by decide) rfl ?_
              refine V.goto (pc := 56) 8 hC dX3_worthiest_56 (by decide) ?_
              exact V.sub [2, 3, 4, 5, 6, 0] rfl (ih (i + 1) bs mo f30_0 (by omega) (hb.imp_right (fun q => ⟨q.1, by omega, q.2.2⟩)) (run_next hv (by show (if bitS set (nI i) = 1 ∧ (bs < 0 ∨ worthS ρ (nN bs) t < worthS ρ i t) then _ else _) = _; rw [if_neg (show ¬ (bitS set (nI i) = 1 ∧ (bs < 0 ∨ worthS ρ (nN bs) t < worthS ρ i t)) from fun q => q.2.elim c_36 (fun z => i_ge c_43 (by rw [(hb.resolve_left (fun q => c_36n q)).2.2]; exact z)))])))
            · refine V.iload (pc := 46) 6 hC dX3_worthiest_46 rfl ?_
              refine V.istore_n (pc := 48) [(3, .int (nI i)), (6, .int (worthS ρ i t)), (0, .ref (a 1)), (1, .int set), (2, .int t), (4, .int mo), (5, .int (nI i))] hC dX3_worthiest_48 (by decide) rfl ?_
              refine V.iload (pc := 49) 1 hC dX3_worthiest_49 rfl ?_
              refine V.istore (pc := 51) [(4, .int (worthS ρ i t)), (3, .int (nI i)), (6, .int (worthS ρ i t)), (0, .ref (a 1)), (1, .int set), (2, .int t), (5, .int (nI i))] hC dX3_worthiest_51 (by decide) rfl ?_
              refine V.iinc (pc := 53) 6 (nI (i + 1)) [(5, .int (nI (i + 1))), (4, .int (worthS ρ i t)), (3, .int (nI i)), (6, .int (worthS ρ i t)), (0, .ref (a 1)), (1, .int set), (2, .int t)] hC dX3_worthiest_53 rfl (ncast (nadd rfl (nl 1)) (by omega)) (by decide) rfl ?_
              refine V.goto (pc := 56) 8 hC dX3_worthiest_56 (by decide) ?_
              exact V.sub [4, 5, 6, 2, 1, 0] rfl (ih (i + 1) (nI i) (worthS ρ i t) f30_0 (by omega) (Or.inr ⟨by rw [nN_nI (by omega)], by rw [nN_nI (by omega)]; omega, by rw [nN_nI (by omega)]⟩) (run_next hv (by show (if bitS set (nI i) = 1 ∧ (bs < 0 ∨ worthS ρ (nN bs) t < worthS ρ i t) then _ else _) = _; rw [if_pos (show bitS set (nI i) = 1 ∧ (bs < 0 ∨ worthS ρ (nN bs) t < worthS ρ i t) from ⟨Decidable.not_not.mp (fun z => c_23 ((bit_n (by omega)).mpr z)), Or.inr (by rw [← (hb.resolve_left (fun q => c_36n q)).2.2]; exact i_nle c_43)⟩)])))
  exact V.sub [3, 4, 5, 2, 1, 0] rfl (loop_8 (nN (ρ 3)) 0 (-1) 0 (ν 32) (by omega) (Or.inl rfl) rfl)
set_option maxHeartbeats 4000000 in
set_option maxRecDepth 100000 in
theorem c_X3_marksAre {l : Launch} {D : va_G} {k : Nat → ClassId} {g a : Nat → Nat} (σ ν : St) (ρ : Rw) (h s m : Nat) (hT : RT σ ρ) (hI : Inv ρ) (hh : h < nN (ρ 2)) (hs4 : s < 4) (hl : σ (94 + s) 0 = nI m) (hm : m ≤ 24) : Ct l D k g yX3_marksAre cX3_marksAre 4 (some .boolean) 3 66 [.ref (a 1), .int (nI h), .ref (a (90 + s))] (S := Unit) (wX k g a σ ν) (fun _ => wX k g a σ ν) (fun vv _ => vv = some (.int (bI (allF (fun j => decide (σ (98 + s) j = markS ρ h (ρ 0 + nI j))) m 0 = true)))) := by
  refine Ct.ofI RX3 rfl (by decide +kernel) (Nat.le_of_ble_eq_true rfl) (fun X hC hR => ?_)
  have hb4 := hI.hb; have hb8 := hI.mb; have hb6 := hI.pb; have hbm := hI.ob0; have hbt := hI.bb; have hbw := hI.wb
  show V X (wX k g a σ ν) [(0, .ref (a 1)), (1, .int (nI h)), (2, .ref (a (90 + s)))] [] 0
  refine V.iconst (pc := 0) 0 hC dX3_marksAre_0 (by decide) ?_
  refine V.istore_n (pc := 1) [(3, .int 0), (0, .ref (a 1)), (1, .int (nI h)), (2, .ref (a (90 + s)))] hC dX3_marksAre_1 (by decide) rfl ?_
  have loop_2 : ∀ (n : Nat) (i : Nat), i + n = m → allF (fun j => decide (σ (98 + s) j = markS ρ h (ρ 0 + nI j))) m 0 = allF (fun j => decide (σ (98 + s) j = markS ρ h (ρ 0 + nI j))) n i → V X (wX k g a σ ν) [(0, .ref (a 1)), (1, .int (nI h)), (2, .ref (a (90 + s))), (3, .int (nI i))] [] 2 := by
    intro n
    induction n with
    | zero =>
      intro i hi hv
      refine V.iload_n (pc := 2) 3 hC dX3_marksAre_2 rfl ?_
      refine V.aload_n (pc := 3) 2 hC dX3_marksAre_3 rfl ?_
      refine V.get (pc := 4) (v := .int (σ (94 + s) 0)) hC cf_X2 (47 + s) 1 fl_X3_149 (by decide) (gx_sho s hs4) rfl dX3_marksAre_4 ?_
      refine V.icmp_ge (pc := 7) 38 hC dX3_marksAre_7 (by decide) (fun c_7 => ?_) (fun c_7 => ?_)
      · have nc_7 : m ≤ i := (nle hl rfl (by omega) (by omega)).mp c_7
        refine V.iconst (pc := 38) 1 hC dX3_marksAre_38 (by decide) ?_
        exact hR 1 () _ _ dX3_marksAre_39 (by first | rfl | exact bI_n _) (rb1 (hv.trans rfl))
      · have nc_7 : ¬ (m ≤ i) := fun z => c_7 ((nle hl rfl (by omega) (by omega)).mpr z)
        exfalso; omega
    | succ n ih =>
      intro i hi hv
      refine V.iload_n (pc := 2) 3 hC dX3_marksAre_2 rfl ?_
      refine V.aload_n (pc := 3) 2 hC dX3_marksAre_3 rfl ?_
      refine V.get (pc := 4) (v := .int (σ (94 + s) 0)) hC cf_X2 (47 + s) 1 fl_X3_149 (by decide) (gx_sho s hs4) rfl dX3_marksAre_4 ?_
      refine V.icmp_ge (pc := 7) 38 hC dX3_marksAre_7 (by decide) (fun c_7 => ?_) (fun c_7 => ?_)
      · have nc_7 : m ≤ i := (nle hl rfl (by omega) (by omega)).mp c_7
        exfalso; omega
      · have nc_7 : ¬ (m ≤ i) := fun z => c_7 ((nle hl rfl (by omega) (by omega)).mpr z)
        refine V.aload_n (pc := 10) 0 hC dX3_marksAre_10 rfl ?_
        refine V.iload_n (pc := 11) 1 hC dX3_marksAre_11 rfl ?_
        refine V.aload_n (pc := 12) 0 hC dX3_marksAre_12 rfl ?_
        refine V.get (pc := 13) (v := .int (σ 20 0)) hC cf_X3 1 10 fl_X3_66 (by decide) gx_1 rfl dX3_marksAre_13 ?_
        refine V.eqi (y := ρ 0) (hT.2.2.2.1.1) ?_
        refine V.iload_n (pc := 16) 3 hC dX3_marksAre_16 rfl ?_
        refine V.iadd (pc := 17) hC dX3_marksAre_17 ?_
        refine V.callV0 (pc := 18) (as := [.int (nI h), .int ((ρ 0) + (nI i))]) hC (c_X3_markOf σ ν ρ h ((ρ 0) + (nI i)) hT hI hh (isN.mk (nadd hI.on0 rfl) (by omega) (by omega))) mu_X3_markOf ml_X3_97 (by decide) ⟨1, 3, TX3, 17, _, rfl, gx_1⟩ rfl (Nat.le_of_ble_eq_true rfl) dX3_marksAre_18 ?_
        rintro _ _ rfl
        show V X (wX k g a σ ν) [(0, .ref (a 1)), (1, .int (nI h)), (2, .ref (a (90 + s))), (3, .int (nI i))] [.int (markS ρ h ((ρ 0) + (nI i)))] 21
        refine V.aload_n (pc := 21) 2 hC dX3_marksAre_21 rfl ?_
        refine V.get (pc := 22) (v := .ref (a (94 + s))) hC cf_X2 (47 + s) 2 fl_X3_154 (by decide) (gx_sho s hs4) rfl dX3_marksAre_22 ?_
        refine V.iload_n (pc := 25) 3 hC dX3_marksAre_25 rfl ?_
        refine V.iald (pc := 26) (f := σ (98 + s)) hC (51 + s) i (gx_shn s hs4) rfl (by omega) (by decide) dX3_marksAre_26 ?_
        refine V.icmp_eq (pc := 27) 32 hC dX3_marksAre_27 (by decide) (fun c_27 => ?_) (fun c_27 => ?_)
        · refine V.iinc (pc := 32) 3 (nI (i + 1)) [(3, .int (nI (i + 1))), (0, .ref (a 1)), (1, .int (nI h)), (2, .ref (a (90 + s)))] hC dX3_marksAre_32 rfl (ncast (nadd rfl (nl 1)) (by omega)) (by decide) rfl ?_
          refine V.goto (pc := 35) 2 hC dX3_marksAre_35 (by decide) ?_
          exact V.sub [1, 2, 3, 0] rfl (ih (i + 1) (by omega) (hv.trans (by show (decide (σ (98 + s) i = markS ρ h (ρ 0 + nI i)) && allF _ n (i + 1)) = _; rw [decide_eq_true c_27.symm]; rfl)))
        · refine V.iconst (pc := 30) 0 hC dX3_marksAre_30 (by decide) ?_
          exact hR 0 () _ _ dX3_marksAre_31 (by first | rfl | exact bI_n _) (rb0 (by rw [hv]; show ¬ (decide (σ (98 + s) i = markS ρ h (ρ 0 + nI i)) && allF _ n (i + 1)) = true; rw [decide_eq_false (fun q => c_27 q.symm)]; exact fun q => absurd (show false = true from q) (by decide)))
  exact V.sub [1, 2, 3, 0] rfl (loop_2 m 0 (by omega) rfl)
theorem min_n {x y : Int32} {m n : Nat} (hx : x = nI m) (hy : y = nI n) (hm : m < 2147483648) (hn : n < 2147483648) : (if y < x then y else x) = nI (min m n) := by
  rw [hx, hy]
  by_cases h : nI n < nI m
  · rw [if_pos h, Nat.min_eq_right (Nat.le_of_lt ((nI_ltI hn hm).mp h))]
  · rw [if_neg h, Nat.min_eq_left (Nat.le_of_not_lt (fun z => h ((nI_ltI hn hm).mpr z)))]

set_option maxHeartbeats 4000000 in
set_option maxRecDepth 100000 in
theorem c_X3_takeOffsets {l : Launch} {D : va_G} {k : Nat → ClassId} {g a : Nat → Nat} (σ ν : St) (ρ : Rw) (s m : Nat) (hT : RT σ ρ) (hI : Inv ρ) (hs4 : s < 4) (hl : σ (94 + s) 0 = nI m) (hm : m ≤ 24) : Ct l D k g yX3_takeOffsets cX3_takeOffsets 4 (some .int) 1 22 [.ref (a 1), .ref (a (90 + s))] (S := Rw) (wX k g a σ ν) (fun uu => wX k g a (va_up σ 12 uu) ν) (fun vv uu => vv = some (.int (nI (ofsS (fun i => σ (98 + s) i) (min m (nN (ρ 2))) 0 ρ).1)) ∧ XH (σ 10) (σ 11) uu (ofsS (fun i => σ (98 + s) i) (min m (nN (ρ 2))) 0 ρ).2) := by
  refine Ct.ofI RX3 rfl (by decide +kernel) (Nat.le_of_ble_eq_true rfl) (fun X hC hR => ?_)
  have hb4 := hI.hb; have hb8 := hI.mb; have hb6 := hI.pb; have hbm := hI.ob0; have hbt := hI.bb; have hbw := hI.wb
  show V X (wX k g a σ ν) [(0, .ref (a 1)), (1, .ref (a (90 + s)))] [] 0
  refine V.aload_n (pc := 0) 1 hC dX3_takeOffsets_0 rfl ?_
  refine V.get (pc := 1) (v := .int (σ (94 + s) 0)) hC cf_X2 (47 + s) 1 fl_X3_149 (by decide) (gx_sho s hs4) rfl dX3_takeOffsets_1 ?_
  refine V.aload_n (pc := 4) 0 hC dX3_takeOffsets_4 rfl ?_
  refine V.get (pc := 5) (v := .int (σ 10 0)) hC cf_X3 1 0 fl_X3_51 (by decide) gx_1 rfl dX3_takeOffsets_5 ?_
  refine V.eqi (y := ρ 2) (hT.1.1) ?_
  refine V.mmin (pc := 8) hC ml_X3_106 ⟨Nat.le_of_ble_eq_true rfl, Nat.le_of_ble_eq_true rfl⟩ dX3_takeOffsets_8 ?_
  refine V.eqi (y := nI (min m (nN (ρ 2)))) (by rw [min_n hl hI.hn (by omega) (by omega)]) ?_
  refine V.istore_n (pc := 11) [(2, .int (nI (min m (nN (ρ 2))))), (0, .ref (a 1)), (1, .ref (a (90 + s)))] hC dX3_takeOffsets_11 (by decide) rfl ?_
  refine V.iconst (pc := 12) 0 hC dX3_takeOffsets_12 (by decide) ?_
  refine V.istore_n (pc := 13) [(3, .int 0), (2, .int (nI (min m (nN (ρ 2))))), (0, .ref (a 1)), (1, .ref (a (90 + s)))] hC dX3_takeOffsets_13 (by decide) rfl ?_
  have loop_14 : ∀ (n : Nat) (i : Nat) (f r : Rw), i + n = (min m (nN (ρ 2))) → XH (σ 10) (σ 11) f r → ofsS (fun i => σ (98 + s) i) (min m (nN (ρ 2))) 0 ρ = ofsS (fun i => σ (98 + s) i) n i r → V X (wX k g a (va_up σ 12 f) ν) [(0, .ref (a 1)), (1, .ref (a (90 + s))), (2, .int (nI (min m (nN (ρ 2))))), (3, .int (nI i))] [] 14 := by
    intro n
    induction n with
    | zero =>
      intro i f r hi hx hv
      refine V.iload_n (pc := 14) 3 hC dX3_takeOffsets_14 rfl ?_
      refine V.iload_n (pc := 15) 2 hC dX3_takeOffsets_15 rfl ?_
      refine V.icmp_ge (pc := 16) 55 hC dX3_takeOffsets_16 (by decide) (fun c_16 => ?_) (fun c_16 => ?_)
      · have nc_16 : min m (nN (ρ 2)) ≤ i := (nle rfl rfl (by omega) (by omega)).mp c_16
        refine V.iload_n (pc := 55) 2 hC dX3_takeOffsets_55 rfl ?_
        exact hR (nI (min m (nN (ρ 2)))) (f) _ _ dX3_takeOffsets_56 rfl ⟨ri (by rw [show ofsS (fun i => σ (98 + s) i) (min m (nN (ρ 2))) 0 ρ = (i, r) from hv]; congr 1; omega), by rw [show ofsS (fun i => σ (98 + s) i) (min m (nN (ρ 2))) 0 ρ = (i, r) from hv]; exact hx⟩
      · have nc_16 : ¬ (min m (nN (ρ 2)) ≤ i) := fun z => c_16 ((nle rfl rfl (by omega) (by omega)).mpr z)
        exfalso; omega
    | succ n ih =>
      intro i f r hi hx hv
      refine V.iload_n (pc := 14) 3 hC dX3_takeOffsets_14 rfl ?_
      refine V.iload_n (pc := 15) 2 hC dX3_takeOffsets_15 rfl ?_
      refine V.icmp_ge (pc := 16) 55 hC dX3_takeOffsets_16 (by decide) (fun c_16 => ?_) (fun c_16 => ?_)
      · have nc_16 : min m (nN (ρ 2)) ≤ i := (nle rfl rfl (by omega) (by omega)).mp c_16
        exfalso; omega
      · have nc_16 : ¬ (min m (nN (ρ 2)) ≤ i) := fun z => c_16 ((nle rfl rfl (by omega) (by omega)).mpr z)
        refine V.aload_n (pc := 19) 1 hC dX3_takeOffsets_19 rfl ?_
        refine V.get (pc := 20) (v := .ref (a (94 + s))) hC cf_X2 (47 + s) 2 fl_X3_154 (by decide) (gx_sho s hs4) rfl dX3_takeOffsets_20 ?_
        refine V.iload_n (pc := 23) 3 hC dX3_takeOffsets_23 rfl ?_
        refine V.iald (pc := 24) (f := (va_up σ 12 f) (98 + s)) hC (51 + s) i (gx_shn s hs4) rfl (by omega) (by decide) dX3_takeOffsets_24 ?_
        refine V.eqi (y := σ (98 + s) i) (congrFun (va_up_ne _ _ (by omega)) i) ?_
        refine V.iconst (pc := 25) 0 hC dX3_takeOffsets_25 (by decide) ?_
        refine V.sipush (pc := 26) 1439 hC dX3_takeOffsets_26 (by decide) ?_
        refine V.callN0 (pc := 29) (as := [.int (σ (98 + s) i), .int 0, .int 1439]) hC (c_X6_within (σ (98 + s) i) 0 1439 ) ms_X6_within (host := RX6) (by simp [nstW]) (by decide) rfl (Nat.le_of_ble_eq_true rfl) dX3_takeOffsets_29 ?_
        rintro _ _ rfl
        show V X (wX k g a (va_up σ 12 f) ν) [(0, .ref (a 1)), (1, .ref (a (90 + s))), (2, .int (nI (min m (nN (ρ 2))))), (3, .int (nI i))] [.int (bI (inS (σ (98 + s) i) 0 1439))] 32
        refine V.if_ne_b (P := inS (σ (98 + s) i) 0 1439) (pc := 32) 37 hC dX3_takeOffsets_32 (by decide) (fun c_32 => ?_) (fun c_32 => ?_)
        · refine V.aload_n (pc := 37) 0 hC dX3_takeOffsets_37 rfl ?_
          refine V.get (pc := 38) (v := .ref (a 12)) hC cf_X3 1 2 fl_X3_15 (by decide) gx_1 rfl dX3_takeOffsets_38 ?_
          refine V.iload_n (pc := 41) 3 hC dX3_takeOffsets_41 rfl ?_
          refine V.aload_n (pc := 42) 1 hC dX3_takeOffsets_42 rfl ?_
          refine V.get (pc := 43) (v := .ref (a (94 + s))) hC cf_X2 (47 + s) 2 fl_X3_154 (by decide) (gx_sho s hs4) rfl dX3_takeOffsets_43 ?_
          refine V.iload_n (pc := 46) 3 hC dX3_takeOffsets_46 rfl ?_
          refine V.iald (pc := 47) (f := (va_up σ 12 f) (98 + s)) hC (51 + s) i (gx_shn s hs4) rfl (by omega) (by decide) dX3_takeOffsets_47 ?_
          refine V.eqi (y := σ (98 + s) i) (congrFun (va_up_ne _ _ (by omega)) i) ?_
          refine V.iast (pc := 48) (f := f) hC 9 i (wX k g a (va_up σ 12 (upd f i (σ (98 + s) i))) ν) gx_9 rfl (by omega) (by decide) rfl dX3_takeOffsets_48 ?_
          refine V.iinc (pc := 49) 3 (nI (i + 1)) [(3, .int (nI (i + 1))), (0, .ref (a 1)), (1, .ref (a (90 + s))), (2, .int (nI (min m (nN (ρ 2)))))] hC dX3_takeOffsets_49 rfl (ncast (nadd rfl (nl 1)) (by omega)) (by decide) rfl ?_
          refine V.goto (pc := 52) 14 hC dX3_takeOffsets_52 (by decide) ?_
          exact V.sub [1, 2, 3, 0] rfl (ih (i + 1) (upd f i (σ (98 + s) i)) _ (by omega) (XH_s hx (by omega)) (hv.trans (if_pos c_32)))
        · refine V.iload_n (pc := 35) 3 hC dX3_takeOffsets_35 rfl ?_
          exact hR (nI i) (f) _ _ dX3_takeOffsets_36 rfl ⟨by rw [show ofsS (fun i => σ (98 + s) i) (min m (nN (ρ 2))) 0 ρ = (i, r) from hv.trans (if_neg c_32)], by rw [show ofsS (fun i => σ (98 + s) i) (min m (nN (ρ 2))) 0 ρ = (i, r) from hv.trans (if_neg c_32)]; exact hx⟩
  exact V.sub [2, 3, 1, 0] rfl (loop_14 (min m (nN (ρ 2))) 0 (σ 12) ρ (by omega) hT.1 rfl)
set_option maxHeartbeats 4000000 in
set_option maxRecDepth 100000 in
theorem c_X3_rightRooms {l : Launch} {D : va_G} {k : Nat → ClassId} {g a : Nat → Nat} (σ ν : St) (ρ : Rw) (s m : Nat) (hT : RT σ ρ) (hI : Inv ρ) (hs4 : s < 4) (hl : σ (94 + s) 0 = nI m) (hm : m ≤ 24) : Ct l D k g yX3_rightRooms cX3_rightRooms 4 (some .int) 1 13 [.ref (a 1), .ref (a (90 + s))] (S := Unit) (wX k g a σ ν) (fun _ => wX k g a σ ν) (fun vv _ => vv = some (.int (nI (srch (fun i => decide (¬ σ (98 + s) i = ρ (33 + 3 * i))) (min m (nN (ρ 4))) 0)))) := by
  refine Ct.ofI RX3 rfl (by decide +kernel) (Nat.le_of_ble_eq_true rfl) (fun X hC hR => ?_)
  have hb4 := hI.hb; have hb8 := hI.mb; have hb6 := hI.pb; have hbm := hI.ob0; have hbt := hI.bb; have hbw := hI.wb
  show V X (wX k g a σ ν) [(0, .ref (a 1)), (1, .ref (a (90 + s)))] [] 0
  refine V.aload_n (pc := 0) 1 hC dX3_rightRooms_0 rfl ?_
  refine V.get (pc := 1) (v := .int (σ (94 + s) 0)) hC cf_X2 (47 + s) 1 fl_X3_149 (by decide) (gx_sho s hs4) rfl dX3_rightRooms_1 ?_
  refine V.aload_n (pc := 4) 0 hC dX3_rightRooms_4 rfl ?_
  refine V.get (pc := 5) (v := .int (σ 16 0)) hC cf_X3 1 6 fl_X3_63 (by decide) gx_1 rfl dX3_rightRooms_5 ?_
  refine V.eqi (y := ρ 4) (hT.2.2.1.1) ?_
  refine V.mmin (pc := 8) hC ml_X3_106 ⟨Nat.le_of_ble_eq_true rfl, Nat.le_of_ble_eq_true rfl⟩ dX3_rightRooms_8 ?_
  refine V.eqi (y := nI (min m (nN (ρ 4)))) (by rw [min_n hl hI.pn (by omega) (by omega)]) ?_
  refine V.istore_n (pc := 11) [(2, .int (nI (min m (nN (ρ 4))))), (0, .ref (a 1)), (1, .ref (a (90 + s)))] hC dX3_rightRooms_11 (by decide) rfl ?_
  refine V.iconst (pc := 12) 0 hC dX3_rightRooms_12 (by decide) ?_
  refine V.istore_n (pc := 13) [(3, .int 0), (2, .int (nI (min m (nN (ρ 4))))), (0, .ref (a 1)), (1, .ref (a (90 + s)))] hC dX3_rightRooms_13 (by decide) rfl ?_
  have loop_14 : ∀ (n : Nat) (i : Nat), i + n = (min m (nN (ρ 4))) → srch (fun i => decide (¬ σ (98 + s) i = ρ (33 + 3 * i))) (min m (nN (ρ 4))) 0 = srch (fun i => decide (¬ σ (98 + s) i = ρ (33 + 3 * i))) n i → V X (wX k g a σ ν) [(0, .ref (a 1)), (1, .ref (a (90 + s))), (2, .int (nI (min m (nN (ρ 4))))), (3, .int (nI i))] [] 14 := by
    intro n
    induction n with
    | zero =>
      intro i hi hv
      refine V.iload_n (pc := 14) 3 hC dX3_rightRooms_14 rfl ?_
      refine V.iload_n (pc := 15) 2 hC dX3_rightRooms_15 rfl ?_
      refine V.icmp_ge (pc := 16) 42 hC dX3_rightRooms_16 (by decide) (fun c_16 => ?_) (fun c_16 => ?_)
      · have nc_16 : min m (nN (ρ 4)) ≤ i := (nle rfl rfl (by omega) (by omega)).mp c_16
        refine V.iload_n (pc := 42) 2 hC dX3_rightRooms_42 rfl ?_
        exact hR (nI (min m (nN (ρ 4)))) () _ _ dX3_rightRooms_43 rfl (ri (by rw [show srch (fun i => decide (¬ σ (98 + s) i = ρ (33 + 3 * i))) (min m (nN (ρ 4))) 0 = i from hv]; congr 1; omega))
      · have nc_16 : ¬ (min m (nN (ρ 4)) ≤ i) := fun z => c_16 ((nle rfl rfl (by omega) (by omega)).mpr z)
        exfalso; omega
    | succ n ih =>
      intro i hi hv
      refine V.iload_n (pc := 14) 3 hC dX3_rightRooms_14 rfl ?_
      refine V.iload_n (pc := 15) 2 hC dX3_rightRooms_15 rfl ?_
      refine V.icmp_ge (pc := 16) 42 hC dX3_rightRooms_16 (by decide) (fun c_16 => ?_) (fun c_16 => ?_)
      · have nc_16 : min m (nN (ρ 4)) ≤ i := (nle rfl rfl (by omega) (by omega)).mp c_16
        exfalso; omega
      · have nc_16 : ¬ (min m (nN (ρ 4)) ≤ i) := fun z => c_16 ((nle rfl rfl (by omega) (by omega)).mpr z)
        refine V.aload_n (pc := 19) 0 hC dX3_rightRooms_19 rfl ?_
        refine V.get (pc := 20) (v := .ref (a 19)) hC cf_X3 1 9 fl_X3_30 (by decide) gx_1 rfl dX3_rightRooms_20 ?_
        refine V.iload_n (pc := 23) 3 hC dX3_rightRooms_23 rfl ?_
        refine V.iald (pc := 24) (f := σ 19) hC 14 i gx_14 rfl (by omega) (by decide) dX3_rightRooms_24 ?_
        refine V.eqi (y := ρ (33 + 3 * i)) (hT.2.2.1.2.2.2 i (by omega)) ?_
        refine V.aload_n (pc := 25) 1 hC dX3_rightRooms_25 rfl ?_
        refine V.get (pc := 26) (v := .ref (a (94 + s))) hC cf_X2 (47 + s) 2 fl_X3_154 (by decide) (gx_sho s hs4) rfl dX3_rightRooms_26 ?_
        refine V.iload_n (pc := 29) 3 hC dX3_rightRooms_29 rfl ?_
        refine V.iald (pc := 30) (f := σ (98 + s)) hC (51 + s) i (gx_shn s hs4) rfl (by omega) (by decide) dX3_rightRooms_30 ?_
        refine V.icmp_eq (pc := 31) 36 hC dX3_rightRooms_31 (by decide) (fun c_31 => ?_) (fun c_31 => ?_)
        · refine V.iinc (pc := 36) 3 (nI (i + 1)) [(3, .int (nI (i + 1))), (0, .ref (a 1)), (1, .ref (a (90 + s))), (2, .int (nI (min m (nN (ρ 4)))))] hC dX3_rightRooms_36 rfl (ncast (nadd rfl (nl 1)) (by omega)) (by decide) rfl ?_
          refine V.goto (pc := 39) 14 hC dX3_rightRooms_39 (by decide) ?_
          exact V.sub [1, 2, 3, 0] rfl (ih (i + 1) (by omega) (srch_go hv (by simp only [decide_eq_true_eq]; exact not_not_intro c_31.symm)))
        · refine V.iload_n (pc := 34) 3 hC dX3_rightRooms_34 rfl ?_
          exact hR (nI i) () _ _ dX3_rightRooms_35 rfl (ri (by rw [show srch (fun i => decide (¬ σ (98 + s) i = ρ (33 + 3 * i))) (min m (nN (ρ 4))) 0 = i from srch_at hv (by simp only [decide_eq_true_eq]; exact fun q => c_31 q.symm)]))
  exact V.sub [2, 3, 1, 0] rfl (loop_14 (min m (nN (ρ 4))) 0 (by omega) rfl)
set_option maxHeartbeats 4000000 in
set_option maxRecDepth 100000 in
theorem c_X3_firstWrongMark {l : Launch} {D : va_G} {k : Nat → ClassId} {g a : Nat → Nat} (σ ν : St) (ρ : Rw) (hT : RT σ ρ) (hI : Inv ρ) : Ct l D k g yX3_firstWrongMark cX3_firstWrongMark 2 (some .int) 3 66 [.ref (a 1)] (S := Unit) (wX k g a σ ν) (fun _ => wX k g a σ ν) (fun vv _ => vv = some (.int (if chkS ρ = nN (ρ 6) then -1 else nI (chkS ρ)))) := by
  refine Ct.ofI RX3 rfl (by decide +kernel) (Nat.le_of_ble_eq_true rfl) (fun X hC hR => ?_)
  have hb4 := hI.hb; have hb8 := hI.mb; have hb6 := hI.pb; have hbm := hI.ob0; have hbt := hI.bb; have hbw := hI.wb
  show V X (wX k g a σ ν) [(0, .ref (a 1))] [] 0
  refine V.iconst (pc := 0) 0 hC dX3_firstWrongMark_0 (by decide) ?_
  refine V.istore_n (pc := 1) [(1, .int 0), (0, .ref (a 1))] hC dX3_firstWrongMark_1 (by decide) rfl ?_
  have loop_2 : ∀ (n : Nat) (i : Nat), i + n = nN (ρ 6) → chkS ρ = srch (fun i => decide (¬ (i < nN (ρ 2) ∧ ρ (109 + i) = markS ρ i (ρ 0)))) n i → V X (wX k g a σ ν) [(0, .ref (a 1)), (1, .int (nI i))] [] 2 := by
    intro n
    induction n with
    | zero =>
      intro i hi hv
      refine V.iload_n (pc := 2) 1 hC dX3_firstWrongMark_2 rfl ?_
      refine V.aload_n (pc := 3) 0 hC dX3_firstWrongMark_3 rfl ?_
      refine V.get (pc := 4) (v := .int (σ 24 0)) hC cf_X3 1 14 fl_X3_72 (by decide) gx_1 rfl dX3_firstWrongMark_4 ?_
      refine V.eqi (y := ρ 6) (hT.2.2.2.2.2.1.1) ?_
      refine V.icmp_ge (pc := 7) 44 hC dX3_firstWrongMark_7 (by decide) (fun c_7 => ?_) (fun c_7 => ?_)
      · have nc_7 : nN (ρ 6) ≤ i := (nle hI.wn rfl (by omega) (by omega)).mp c_7
        refine V.iconst (pc := 44) (-1) hC dX3_firstWrongMark_44 (by decide) ?_
        exact hR (-1) () _ _ dX3_firstWrongMark_45 rfl (ri (if_pos (hv.trans (by show i = _; omega))).symm)
      · have nc_7 : ¬ (nN (ρ 6) ≤ i) := fun z => c_7 ((nle hI.wn rfl (by omega) (by omega)).mpr z)
        exfalso; omega
    | succ n ih =>
      intro i hi hv
      refine V.iload_n (pc := 2) 1 hC dX3_firstWrongMark_2 rfl ?_
      refine V.aload_n (pc := 3) 0 hC dX3_firstWrongMark_3 rfl ?_
      refine V.get (pc := 4) (v := .int (σ 24 0)) hC cf_X3 1 14 fl_X3_72 (by decide) gx_1 rfl dX3_firstWrongMark_4 ?_
      refine V.eqi (y := ρ 6) (hT.2.2.2.2.2.1.1) ?_
      refine V.icmp_ge (pc := 7) 44 hC dX3_firstWrongMark_7 (by decide) (fun c_7 => ?_) (fun c_7 => ?_)
      · have nc_7 : nN (ρ 6) ≤ i := (nle hI.wn rfl (by omega) (by omega)).mp c_7
        exfalso; omega
      · have nc_7 : ¬ (nN (ρ 6) ≤ i) := fun z => c_7 ((nle hI.wn rfl (by omega) (by omega)).mpr z)
        refine V.aload_n (pc := 10) 0 hC dX3_firstWrongMark_10 rfl ?_
        refine V.iload_n (pc := 11) 1 hC dX3_firstWrongMark_11 rfl ?_
        refine V.callV0 (pc := 12) (as := [.int (nI i)]) hC (c_X3_hasHand σ ν ρ (nI i) hT hI) mu_X3_hasHand ml_X3_157 (by decide) ⟨1, 3, TX3, 17, _, rfl, gx_1⟩ rfl (Nat.le_of_ble_eq_true rfl) dX3_firstWrongMark_12 ?_
        rintro _ _ rfl
        show V X (wX k g a σ ν) [(0, .ref (a 1)), (1, .int (nI i))] [.int (bI (inS (nI i) 0 (ρ 2 - 1)))] 15
        refine V.if_eq_b (P := inS (nI i) 0 (ρ 2 - 1)) (pc := 15) 36 hC dX3_firstWrongMark_15 (by decide) (fun c_15 => ?_) (fun c_15 => ?_)
        · refine V.iload_n (pc := 36) 1 hC dX3_firstWrongMark_36 rfl ?_
          exact hR (nI i) () _ _ dX3_firstWrongMark_37 rfl (ri (by rw [show chkS ρ = i from srch_at hv (by simp only [decide_eq_true_eq]; exact fun q => c_15 ((inS_i hI.hn (by omega) (by omega)).mpr q.1)), if_neg (by omega)]))
        · refine V.aload_n (pc := 18) 0 hC dX3_firstWrongMark_18 rfl ?_
          refine V.get (pc := 19) (v := .ref (a 25)) hC cf_X3 1 15 fl_X3_41 (by decide) gx_1 rfl dX3_firstWrongMark_19 ?_
          refine V.iload_n (pc := 22) 1 hC dX3_firstWrongMark_22 rfl ?_
          refine V.iald (pc := 23) (f := σ 25) hC 16 i gx_16 rfl (by omega) (by decide) dX3_firstWrongMark_23 ?_
          refine V.eqi (y := ρ (109 + i)) (hT.2.2.2.2.2.1.2 i (by omega)) ?_
          refine V.aload_n (pc := 24) 0 hC dX3_firstWrongMark_24 rfl ?_
          refine V.iload_n (pc := 25) 1 hC dX3_firstWrongMark_25 rfl ?_
          refine V.aload_n (pc := 26) 0 hC dX3_firstWrongMark_26 rfl ?_
          refine V.get (pc := 27) (v := .int (σ 20 0)) hC cf_X3 1 10 fl_X3_66 (by decide) gx_1 rfl dX3_firstWrongMark_27 ?_
          refine V.eqi (y := ρ 0) (hT.2.2.2.1.1) ?_
          refine V.callV0 (pc := 30) (as := [.int (nI i), .int (ρ 0)]) hC (c_X3_markOf σ ν ρ i (ρ 0) hT hI ((inS_i hI.hn (by omega) (by omega)).mp c_15) (isN.mk hI.on0 (by omega) (by omega))) mu_X3_markOf ml_X3_97 (by decide) ⟨1, 3, TX3, 17, _, rfl, gx_1⟩ rfl (Nat.le_of_ble_eq_true rfl) dX3_firstWrongMark_30 ?_
          rintro _ _ rfl
          show V X (wX k g a σ ν) [(0, .ref (a 1)), (1, .int (nI i))] [.int (markS ρ i (ρ 0)), .int (ρ (109 + i))] 33
          refine V.icmp_eq (pc := 33) 38 hC dX3_firstWrongMark_33 (by decide) (fun c_33 => ?_) (fun c_33 => ?_)
          · refine V.iinc (pc := 38) 1 (nI (i + 1)) [(1, .int (nI (i + 1))), (0, .ref (a 1))] hC dX3_firstWrongMark_38 rfl (ncast (nadd rfl (nl 1)) (by omega)) (by decide) rfl ?_
            refine V.goto (pc := 41) 2 hC dX3_firstWrongMark_41 (by decide) ?_
            exact V.sub [1, 0] rfl (ih (i + 1) (by omega) (srch_go hv (by simp only [decide_eq_true_eq]; exact not_not_intro ⟨(inS_i hI.hn (by omega) (by omega)).mp c_15, c_33⟩)))
          · refine V.iload_n (pc := 36) 1 hC dX3_firstWrongMark_36 rfl ?_
            exact hR (nI i) () _ _ dX3_firstWrongMark_37 rfl (ri (by rw [show chkS ρ = i from srch_at hv (by simp only [decide_eq_true_eq]; exact fun q => c_33 q.2), if_neg (by omega)]))
  exact V.sub [1, 0] rfl (loop_2 (nN (ρ 6)) 0 (by omega) rfl)
set_option maxHeartbeats 4000000 in
set_option maxRecDepth 100000 in
theorem c_X2_isMissing {l : Launch} {D : va_G} {k : Nat → ClassId} {g a : Nat → Nat} (σ ν : St) (s : Nat) (hs4 : s < 4) : Ct l D k g yX2_isMissing cX2_isMissing 1 (some .boolean) 0 0 [.ref (a (90 + s))] (S := Unit) (wX k g a σ ν) (fun _ => wX k g a σ ν) (fun vv _ => vv = some (.int (bI (σ (90 + s) 0 = 0)))) := by
  refine Ct.ofI RX2 rfl (by decide +kernel) (Nat.le_of_ble_eq_true rfl) (fun X hC hR => ?_)
  show V X (wX k g a σ ν) [(0, .ref (a (90 + s)))] [] 0
  refine V.aload_n (pc := 0) 0 hC dX2_isMissing_0 rfl ?_
  refine V.get (pc := 1) (v := .int (σ (90 + s) 0)) hC cf_X2 (47 + s) 0 fl_X2_15 (by decide) (gx_sho s hs4) rfl dX2_isMissing_1 ?_
  refine V.if_ne (pc := 4) 11 hC dX2_isMissing_4 (by decide) (fun c_4 => ?_) (fun c_4 => ?_)
  · refine V.iconst (pc := 11) 0 hC dX2_isMissing_11 (by decide) ?_
    exact hR 0 () _ _ dX2_isMissing_12 (by first | rfl | exact bI_n _) (rb0 c_4)
  · refine V.iconst (pc := 7) 1 hC dX2_isMissing_7 (by decide) ?_
    refine V.goto (pc := 8) 12 hC dX2_isMissing_8 (by decide) ?_
    exact hR 1 () _ _ dX2_isMissing_12 (by first | rfl | exact bI_n _) (rb1 c_4)
set_option maxHeartbeats 4000000 in
set_option maxRecDepth 100000 in
theorem c_X2_holds {l : Launch} {D : va_G} {k : Nat → ClassId} {g a : Nat → Nat} (σ ν : St) (s : Nat) (i q : Int32) (hs4 : s < 4) : Ct l D k g yX2_holds cX2_holds 3 (some .boolean) 0 0 [.ref (a (90 + s)), .int i, .int q] (S := Unit) (wX k g a σ ν) (fun _ => wX k g a σ ν) (fun vv _ => vv = some (.int (bI (0 ≤ i ∧ 0 ≤ q ∧ i ≤ σ (94 + s) 0 - q)))) := by
  refine Ct.ofI RX2 rfl (by decide +kernel) (Nat.le_of_ble_eq_true rfl) (fun X hC hR => ?_)
  show V X (wX k g a σ ν) [(0, .ref (a (90 + s))), (1, .int i), (2, .int q)] [] 0
  refine V.iload_n (pc := 0) 1 hC dX2_holds_0 rfl ?_
  refine V.if_lt (pc := 1) 22 hC dX2_holds_1 (by decide) (fun c_1 => ?_) (fun c_1 => ?_)
  · refine V.iconst (pc := 22) 0 hC dX2_holds_22 (by decide) ?_
    exact hR 0 () _ _ dX2_holds_23 (by first | rfl | exact bI_n _) (rb0 (fun z => i_gt c_1 z.1))
  · refine V.iload_n (pc := 4) 2 hC dX2_holds_4 rfl ?_
    refine V.if_lt (pc := 5) 22 hC dX2_holds_5 (by decide) (fun c_5 => ?_) (fun c_5 => ?_)
    · refine V.iconst (pc := 22) 0 hC dX2_holds_22 (by decide) ?_
      exact hR 0 () _ _ dX2_holds_23 (by first | rfl | exact bI_n _) (rb0 (fun z => i_gt c_5 z.2.1))
    · refine V.iload_n (pc := 8) 1 hC dX2_holds_8 rfl ?_
      refine V.aload_n (pc := 9) 0 hC dX2_holds_9 rfl ?_
      refine V.get (pc := 10) (v := .int (σ (94 + s) 0)) hC cf_X2 (47 + s) 1 fl_X2_19 (by decide) (gx_sho s hs4) rfl dX2_holds_10 ?_
      refine V.iload_n (pc := 13) 2 hC dX2_holds_13 rfl ?_
      refine V.isub (pc := 14) hC dX2_holds_14 ?_
      refine V.icmp_gt (pc := 15) 22 hC dX2_holds_15 (by decide) (fun c_15 => ?_) (fun c_15 => ?_)
      · refine V.iconst (pc := 22) 0 hC dX2_holds_22 (by decide) ?_
        exact hR 0 () _ _ dX2_holds_23 (by first | rfl | exact bI_n _) (rb0 (fun z => i_gt c_15 z.2.2))
      · refine V.iconst (pc := 18) 1 hC dX2_holds_18 (by decide) ?_
        refine V.goto (pc := 19) 23 hC dX2_holds_19 (by decide) ?_
        exact hR 1 () _ _ dX2_holds_23 (by first | rfl | exact bI_n _) (rb1 ⟨i_nlt c_1, i_nlt c_5, i_nlt c_15⟩)
set_option maxHeartbeats 4000000 in
set_option maxRecDepth 100000 in
theorem c_X2_write {l : Launch} {D : va_G} {k : Nat → ClassId} {g a : Nat → Nat} (σ ν : St) (s : Nat) (i : Nat) (v : Int32) (hs4 : s < 4) (hi : i < 24) : Ct l D k g yX2_write cX2_write 3 none 0 0 [.ref (a (90 + s)), .int (nI i), .int v] (S := Rw) (wX k g a σ ν) (fun uu => wX k g a (va_up σ (98 + s) uu) ν) (fun vv uu => vv = none ∧ uu = upd (σ (98 + s)) i (cstS (σ (90 + s) 0) v)) := by
  refine Ct.ofV RX2 rfl (by decide +kernel) (Nat.le_of_ble_eq_true rfl) (fun X hC hR => ?_)
  show V X (wX k g a σ ν) [(0, .ref (a (90 + s))), (1, .int (nI i)), (2, .int v)] [] 0
  refine V.aload_n (pc := 0) 0 hC dX2_write_0 rfl ?_
  refine V.get (pc := 1) (v := .ref (a (94 + s))) hC cf_X2 (47 + s) 2 fl_X2_9 (by decide) (gx_sho s hs4) rfl dX2_write_1 ?_
  refine V.iload_n (pc := 4) 1 hC dX2_write_4 rfl ?_
  refine V.aload_n (pc := 5) 0 hC dX2_write_5 rfl ?_
  refine V.get (pc := 6) (v := .int (σ (90 + s) 0)) hC cf_X2 (47 + s) 0 fl_X2_15 (by decide) (gx_sho s hs4) rfl dX2_write_6 ?_
  refine V.bipush (pc := 9) 8 hC dX2_write_9 (by decide) ?_
  refine V.icmp_ne (pc := 11) 19 hC dX2_write_11 (by decide) (fun c_11 => ?_) (fun c_11 => ?_)
  · refine V.aload_n (pc := 19) 0 hC dX2_write_19 rfl ?_
    refine V.get (pc := 20) (v := .int (σ (90 + s) 0)) hC cf_X2 (47 + s) 0 fl_X2_15 (by decide) (gx_sho s hs4) rfl dX2_write_20 ?_
    refine V.bipush (pc := 23) 16 hC dX2_write_23 (by decide) ?_
    refine V.icmp_ne (pc := 25) 33 hC dX2_write_25 (by decide) (fun c_25 => ?_) (fun c_25 => ?_)
    · refine V.iload_n (pc := 33) 2 hC dX2_write_33 rfl ?_
      refine V.iast (pc := 34) (f := σ (98 + s)) hC (51 + s) i (wX k g a (va_up σ (98 + s) (upd (σ (98 + s)) i v)) ν) (gx_shn s hs4) rfl (by omega) (by decide) (sx_shn s hs4) dX2_write_34 ?_
      exact hR (upd (σ (98 + s)) i v) _ _ dX2_write_35 ⟨rfl, by rw [cstS, if_neg c_11, if_neg c_25]⟩
    · refine V.iload_n (pc := 28) 2 hC dX2_write_28 rfl ?_
      refine V.i2s (pc := 29) hC dX2_write_29 ?_
      refine V.goto (pc := 30) 34 hC dX2_write_30 (by decide) ?_
      refine V.iast (pc := 34) (f := σ (98 + s)) hC (51 + s) i (wX k g a (va_up σ (98 + s) (upd (σ (98 + s)) i v.toInt16.toInt32)) ν) (gx_shn s hs4) rfl (by omega) (by decide) (sx_shn s hs4) dX2_write_34 ?_
      exact hR (upd (σ (98 + s)) i v.toInt16.toInt32) _ _ dX2_write_35 ⟨rfl, by rw [cstS, if_neg c_11, if_pos c_25]⟩
  · refine V.iload_n (pc := 14) 2 hC dX2_write_14 rfl ?_
    refine V.i2b (pc := 15) hC dX2_write_15 ?_
    refine V.goto (pc := 16) 34 hC dX2_write_16 (by decide) ?_
    refine V.iast (pc := 34) (f := σ (98 + s)) hC (51 + s) i (wX k g a (va_up σ (98 + s) (upd (σ (98 + s)) i v.toInt8.toInt32)) ν) (gx_shn s hs4) rfl (by omega) (by decide) (sx_shn s hs4) dX2_write_34 ?_
    exact hR (upd (σ (98 + s)) i v.toInt8.toInt32) _ _ dX2_write_35 ⟨rfl, by rw [cstS, if_pos c_11]⟩
set_option maxHeartbeats 4000000 in
set_option maxRecDepth 100000 in
theorem c_X2_lay_0 {l : Launch} {D : va_G} {k : Nat → ClassId} {g a : Nat → Nat} (σ ν : St) (x : Int32) (m : Nat) (hm : m ≤ 24) : Ct l D k g yX2_lay cX2_lay 4 none 0 0 [.ref (a 90), .int x, .int (nI m)] (S := Int32 × Int32 × Rw) (wX k g a σ ν) (fun uu => wX k g a (va_up (va_up (va_up σ 90 (fun _ => uu.1)) 94 (fun _ => uu.2.1)) 98 uu.2.2) ν) (fun vv uu => vv = none ∧ uu.1 = x ∧ uu.2.1 = nI m ∧ ∀ i, i < m → uu.2.2 i = 0) := by
  refine Ct.ofV RX2 rfl (by decide +kernel) (Nat.le_of_ble_eq_true rfl) (fun X hC hR => ?_)
  show V X (wX k g a σ ν) [(0, .ref (a 90)), (1, .int x), (2, .int (nI m))] [] 0
  refine V.aload_n (pc := 0) 0 hC dX2_lay_0 rfl ?_
  refine V.iload_n (pc := 1) 1 hC dX2_lay_1 rfl ?_
  refine V.put (pc := 2) (v := .int x) hC cf_X2 47 0 (wX k g a (va_up σ 90 (fun _ => x)) ν) fl_X2_15 (by decide) gx_47 rfl rfl rfl (Nat.le_of_ble_eq_true rfl) rfl dX2_lay_2 ?_
  refine V.aload_n (pc := 5) 0 hC dX2_lay_5 rfl ?_
  refine V.iload_n (pc := 6) 2 hC dX2_lay_6 rfl ?_
  refine V.put (pc := 7) (v := .int (nI m)) hC cf_X2 47 1 (wX k g a (va_up (va_up σ 90 (fun _ => x)) 94 (fun _ => nI m)) ν) fl_X2_19 (by decide) gx_47 rfl rfl rfl (Nat.le_of_ble_eq_true rfl) rfl dX2_lay_7 ?_
  refine V.iconst (pc := 10) 0 hC dX2_lay_10 (by decide) ?_
  refine V.istore_n (pc := 11) [(3, .int 0), (0, .ref (a 90)), (1, .int x), (2, .int (nI m))] hC dX2_lay_11 (by decide) rfl ?_
  have loop_12 : ∀ (n : Nat) (i : Nat) (f : Rw), i + n = m → (∀ j, j < i → f j = 0) → V X (wX k g a (va_up (va_up (va_up σ 90 (fun _ => x)) 94 (fun _ => nI m)) 98 f) ν) [(0, .ref (a 90)), (2, .int (nI m)), (3, .int (nI i))] [] 12 := by
    intro n
    induction n with
    | zero =>
      intro i f hi hf
      refine V.iload_n (pc := 12) 2 hC dX2_lay_12 rfl ?_
      refine V.iload_n (pc := 13) 1 hC dX2_lay_13 rfl ?_
      refine V.icmp_ge (pc := 14) 30 hC dX2_lay_14 (by decide) (fun c_14 => ?_) (fun c_14 => ?_)
      · have nc_14 : m ≤ i := (nle rfl rfl (by omega) (by omega)).mp c_14
        exact hR (x, nI m, f) _ _ dX2_lay_30 ⟨rfl, rfl, rfl, fun j hj => hf j (by omega)⟩
      · have nc_14 : ¬ (m ≤ i) := fun z => c_14 ((nle rfl rfl (by omega) (by omega)).mpr z)
        exfalso; omega
    | succ n ih =>
      intro i f hi hf
      refine V.iload_n (pc := 12) 2 hC dX2_lay_12 rfl ?_
      refine V.iload_n (pc := 13) 1 hC dX2_lay_13 rfl ?_
      refine V.icmp_ge (pc := 14) 30 hC dX2_lay_14 (by decide) (fun c_14 => ?_) (fun c_14 => ?_)
      · have nc_14 : m ≤ i := (nle rfl rfl (by omega) (by omega)).mp c_14
        exfalso; omega
      · have nc_14 : ¬ (m ≤ i) := fun z => c_14 ((nle rfl rfl (by omega) (by omega)).mpr z)
        refine V.aload_n (pc := 17) 0 hC dX2_lay_17 rfl ?_
        refine V.get (pc := 18) (v := .ref (a 94)) hC cf_X2 47 2 fl_X2_9 (by decide) gx_47 rfl dX2_lay_18 ?_
        refine V.iload_n (pc := 21) 2 hC dX2_lay_21 rfl ?_
        refine V.iconst (pc := 22) 0 hC dX2_lay_22 (by decide) ?_
        refine V.iast (pc := 23) (f := f) hC 51 i (wX k g a (va_up (va_up (va_up σ 90 (fun _ => x)) 94 (fun _ => nI m)) 98 (upd f i 0)) ν) gx_51 rfl (by omega) (by decide) rfl dX2_lay_23 ?_
        refine V.iinc (pc := 24) 2 (nI (i + 1)) [(3, .int (nI (i + 1))), (0, .ref (a 90)), (2, .int (nI m))] hC dX2_lay_24 rfl (ncast (nadd rfl (nl 1)) (by omega)) (by decide) rfl ?_
        refine V.goto (pc := 27) 12 hC dX2_lay_27 (by decide) ?_
        exact V.sub [1, 2, 0] rfl (ih (i + 1) (upd f i 0) (by omega) (fun j hj => (Nat.lt_or_ge j i).elim (fun e => (upd_ne (by omega)).trans (hf j e)) (fun e => by rw [show j = i by omega]; exact upd_eq)))
  exact V.sub [1, 3, 0] rfl (loop_12 m 0 (σ 98) (by omega) (fun j hj => absurd hj (by omega)))
set_option maxHeartbeats 4000000 in
set_option maxRecDepth 100000 in
theorem c_X2_lay_1 {l : Launch} {D : va_G} {k : Nat → ClassId} {g a : Nat → Nat} (σ ν : St) (x : Int32) (m : Nat) (hm : m ≤ 24) : Ct l D k g yX2_lay cX2_lay 4 none 0 0 [.ref (a 91), .int x, .int (nI m)] (S := Int32 × Int32 × Rw) (wX k g a σ ν) (fun uu => wX k g a (va_up (va_up (va_up σ 91 (fun _ => uu.1)) 95 (fun _ => uu.2.1)) 99 uu.2.2) ν) (fun vv uu => vv = none ∧ uu.1 = x ∧ uu.2.1 = nI m ∧ ∀ i, i < m → uu.2.2 i = 0) := by
  refine Ct.ofV RX2 rfl (by decide +kernel) (Nat.le_of_ble_eq_true rfl) (fun X hC hR => ?_)
  show V X (wX k g a σ ν) [(0, .ref (a 91)), (1, .int x), (2, .int (nI m))] [] 0
  refine V.aload_n (pc := 0) 0 hC dX2_lay_0 rfl ?_
  refine V.iload_n (pc := 1) 1 hC dX2_lay_1 rfl ?_
  refine V.put (pc := 2) (v := .int x) hC cf_X2 48 0 (wX k g a (va_up σ 91 (fun _ => x)) ν) fl_X2_15 (by decide) gx_48 rfl rfl rfl (Nat.le_of_ble_eq_true rfl) rfl dX2_lay_2 ?_
  refine V.aload_n (pc := 5) 0 hC dX2_lay_5 rfl ?_
  refine V.iload_n (pc := 6) 2 hC dX2_lay_6 rfl ?_
  refine V.put (pc := 7) (v := .int (nI m)) hC cf_X2 48 1 (wX k g a (va_up (va_up σ 91 (fun _ => x)) 95 (fun _ => nI m)) ν) fl_X2_19 (by decide) gx_48 rfl rfl rfl (Nat.le_of_ble_eq_true rfl) rfl dX2_lay_7 ?_
  refine V.iconst (pc := 10) 0 hC dX2_lay_10 (by decide) ?_
  refine V.istore_n (pc := 11) [(3, .int 0), (0, .ref (a 91)), (1, .int x), (2, .int (nI m))] hC dX2_lay_11 (by decide) rfl ?_
  have loop_12 : ∀ (n : Nat) (i : Nat) (f : Rw), i + n = m → (∀ j, j < i → f j = 0) → V X (wX k g a (va_up (va_up (va_up σ 91 (fun _ => x)) 95 (fun _ => nI m)) 99 f) ν) [(0, .ref (a 91)), (2, .int (nI m)), (3, .int (nI i))] [] 12 := by
    intro n
    induction n with
    | zero =>
      intro i f hi hf
      refine V.iload_n (pc := 12) 2 hC dX2_lay_12 rfl ?_
      refine V.iload_n (pc := 13) 1 hC dX2_lay_13 rfl ?_
      refine V.icmp_ge (pc := 14) 30 hC dX2_lay_14 (by decide) (fun c_14 => ?_) (fun c_14 => ?_)
      · have nc_14 : m ≤ i := (nle rfl rfl (by omega) (by omega)).mp c_14
        exact hR (x, nI m, f) _ _ dX2_lay_30 ⟨rfl, rfl, rfl, fun j hj => hf j (by omega)⟩
      · have nc_14 : ¬ (m ≤ i) := fun z => c_14 ((nle rfl rfl (by omega) (by omega)).mpr z)
        exfalso; omega
    | succ n ih =>
      intro i f hi hf
      refine V.iload_n (pc := 12) 2 hC dX2_lay_12 rfl ?_
      refine V.iload_n (pc := 13) 1 hC dX2_lay_13 rfl ?_
      refine V.icmp_ge (pc := 14) 30 hC dX2_lay_14 (by decide) (fun c_14 => ?_) (fun c_14 => ?_)
      · have nc_14 : m ≤ i := (nle rfl rfl (by omega) (by omega)).mp c_14
        exfalso; omega
      · have nc_14 : ¬ (m ≤ i) := fun z => c_14 ((nle rfl rfl (by omega) (by omega)).mpr z)
        refine V.aload_n (pc := 17) 0 hC dX2_lay_17 rfl ?_
        refine V.get (pc := 18) (v := .ref (a 95)) hC cf_X2 48 2 fl_X2_9 (by decide) gx_48 rfl dX2_lay_18 ?_
        refine V.iload_n (pc := 21) 2 hC dX2_lay_21 rfl ?_
        refine V.iconst (pc := 22) 0 hC dX2_lay_22 (by decide) ?_
        refine V.iast (pc := 23) (f := f) hC 52 i (wX k g a (va_up (va_up (va_up σ 91 (fun _ => x)) 95 (fun _ => nI m)) 99 (upd f i 0)) ν) gx_52 rfl (by omega) (by decide) rfl dX2_lay_23 ?_
        refine V.iinc (pc := 24) 2 (nI (i + 1)) [(3, .int (nI (i + 1))), (0, .ref (a 91)), (2, .int (nI m))] hC dX2_lay_24 rfl (ncast (nadd rfl (nl 1)) (by omega)) (by decide) rfl ?_
        refine V.goto (pc := 27) 12 hC dX2_lay_27 (by decide) ?_
        exact V.sub [1, 2, 0] rfl (ih (i + 1) (upd f i 0) (by omega) (fun j hj => (Nat.lt_or_ge j i).elim (fun e => (upd_ne (by omega)).trans (hf j e)) (fun e => by rw [show j = i by omega]; exact upd_eq)))
  exact V.sub [1, 3, 0] rfl (loop_12 m 0 (σ 99) (by omega) (fun j hj => absurd hj (by omega)))
set_option maxHeartbeats 4000000 in
set_option maxRecDepth 100000 in
theorem c_X2_lay_2 {l : Launch} {D : va_G} {k : Nat → ClassId} {g a : Nat → Nat} (σ ν : St) (x : Int32) (m : Nat) (hm : m ≤ 24) : Ct l D k g yX2_lay cX2_lay 4 none 0 0 [.ref (a 92), .int x, .int (nI m)] (S := Int32 × Int32 × Rw) (wX k g a σ ν) (fun uu => wX k g a (va_up (va_up (va_up σ 92 (fun _ => uu.1)) 96 (fun _ => uu.2.1)) 100 uu.2.2) ν) (fun vv uu => vv = none ∧ uu.1 = x ∧ uu.2.1 = nI m ∧ ∀ i, i < m → uu.2.2 i = 0) := by
  refine Ct.ofV RX2 rfl (by decide +kernel) (Nat.le_of_ble_eq_true rfl) (fun X hC hR => ?_)
  show V X (wX k g a σ ν) [(0, .ref (a 92)), (1, .int x), (2, .int (nI m))] [] 0
  refine V.aload_n (pc := 0) 0 hC dX2_lay_0 rfl ?_
  refine V.iload_n (pc := 1) 1 hC dX2_lay_1 rfl ?_
  refine V.put (pc := 2) (v := .int x) hC cf_X2 49 0 (wX k g a (va_up σ 92 (fun _ => x)) ν) fl_X2_15 (by decide) gx_49 rfl rfl rfl (Nat.le_of_ble_eq_true rfl) rfl dX2_lay_2 ?_
  refine V.aload_n (pc := 5) 0 hC dX2_lay_5 rfl ?_
  refine V.iload_n (pc := 6) 2 hC dX2_lay_6 rfl ?_
  refine V.put (pc := 7) (v := .int (nI m)) hC cf_X2 49 1 (wX k g a (va_up (va_up σ 92 (fun _ => x)) 96 (fun _ => nI m)) ν) fl_X2_19 (by decide) gx_49 rfl rfl rfl (Nat.le_of_ble_eq_true rfl) rfl dX2_lay_7 ?_
  refine V.iconst (pc := 10) 0 hC dX2_lay_10 (by decide) ?_
  refine V.istore_n (pc := 11) [(3, .int 0), (0, .ref (a 92)), (1, .int x), (2, .int (nI m))] hC dX2_lay_11 (by decide) rfl ?_
  have loop_12 : ∀ (n : Nat) (i : Nat) (f : Rw), i + n = m → (∀ j, j < i → f j = 0) → V X (wX k g a (va_up (va_up (va_up σ 92 (fun _ => x)) 96 (fun _ => nI m)) 100 f) ν) [(0, .ref (a 92)), (2, .int (nI m)), (3, .int (nI i))] [] 12 := by
    intro n
    induction n with
    | zero =>
      intro i f hi hf
      refine V.iload_n (pc := 12) 2 hC dX2_lay_12 rfl ?_
      refine V.iload_n (pc := 13) 1 hC dX2_lay_13 rfl ?_
      refine V.icmp_ge (pc := 14) 30 hC dX2_lay_14 (by decide) (fun c_14 => ?_) (fun c_14 => ?_)
      · have nc_14 : m ≤ i := (nle rfl rfl (by omega) (by omega)).mp c_14
        exact hR (x, nI m, f) _ _ dX2_lay_30 ⟨rfl, rfl, rfl, fun j hj => hf j (by omega)⟩
      · have nc_14 : ¬ (m ≤ i) := fun z => c_14 ((nle rfl rfl (by omega) (by omega)).mpr z)
        exfalso; omega
    | succ n ih =>
      intro i f hi hf
      refine V.iload_n (pc := 12) 2 hC dX2_lay_12 rfl ?_
      refine V.iload_n (pc := 13) 1 hC dX2_lay_13 rfl ?_
      refine V.icmp_ge (pc := 14) 30 hC dX2_lay_14 (by decide) (fun c_14 => ?_) (fun c_14 => ?_)
      · have nc_14 : m ≤ i := (nle rfl rfl (by omega) (by omega)).mp c_14
        exfalso; omega
      · have nc_14 : ¬ (m ≤ i) := fun z => c_14 ((nle rfl rfl (by omega) (by omega)).mpr z)
        refine V.aload_n (pc := 17) 0 hC dX2_lay_17 rfl ?_
        refine V.get (pc := 18) (v := .ref (a 96)) hC cf_X2 49 2 fl_X2_9 (by decide) gx_49 rfl dX2_lay_18 ?_
        refine V.iload_n (pc := 21) 2 hC dX2_lay_21 rfl ?_
        refine V.iconst (pc := 22) 0 hC dX2_lay_22 (by decide) ?_
        refine V.iast (pc := 23) (f := f) hC 53 i (wX k g a (va_up (va_up (va_up σ 92 (fun _ => x)) 96 (fun _ => nI m)) 100 (upd f i 0)) ν) gx_53 rfl (by omega) (by decide) rfl dX2_lay_23 ?_
        refine V.iinc (pc := 24) 2 (nI (i + 1)) [(3, .int (nI (i + 1))), (0, .ref (a 92)), (2, .int (nI m))] hC dX2_lay_24 rfl (ncast (nadd rfl (nl 1)) (by omega)) (by decide) rfl ?_
        refine V.goto (pc := 27) 12 hC dX2_lay_27 (by decide) ?_
        exact V.sub [1, 2, 0] rfl (ih (i + 1) (upd f i 0) (by omega) (fun j hj => (Nat.lt_or_ge j i).elim (fun e => (upd_ne (by omega)).trans (hf j e)) (fun e => by rw [show j = i by omega]; exact upd_eq)))
  exact V.sub [1, 3, 0] rfl (loop_12 m 0 (σ 100) (by omega) (fun j hj => absurd hj (by omega)))
set_option maxHeartbeats 4000000 in
set_option maxRecDepth 100000 in
theorem c_X2_lay_3 {l : Launch} {D : va_G} {k : Nat → ClassId} {g a : Nat → Nat} (σ ν : St) (x : Int32) (m : Nat) (hm : m ≤ 24) : Ct l D k g yX2_lay cX2_lay 4 none 0 0 [.ref (a 93), .int x, .int (nI m)] (S := Int32 × Int32 × Rw) (wX k g a σ ν) (fun uu => wX k g a (va_up (va_up (va_up σ 93 (fun _ => uu.1)) 97 (fun _ => uu.2.1)) 101 uu.2.2) ν) (fun vv uu => vv = none ∧ uu.1 = x ∧ uu.2.1 = nI m ∧ ∀ i, i < m → uu.2.2 i = 0) := by
  refine Ct.ofV RX2 rfl (by decide +kernel) (Nat.le_of_ble_eq_true rfl) (fun X hC hR => ?_)
  show V X (wX k g a σ ν) [(0, .ref (a 93)), (1, .int x), (2, .int (nI m))] [] 0
  refine V.aload_n (pc := 0) 0 hC dX2_lay_0 rfl ?_
  refine V.iload_n (pc := 1) 1 hC dX2_lay_1 rfl ?_
  refine V.put (pc := 2) (v := .int x) hC cf_X2 50 0 (wX k g a (va_up σ 93 (fun _ => x)) ν) fl_X2_15 (by decide) gx_50 rfl rfl rfl (Nat.le_of_ble_eq_true rfl) rfl dX2_lay_2 ?_
  refine V.aload_n (pc := 5) 0 hC dX2_lay_5 rfl ?_
  refine V.iload_n (pc := 6) 2 hC dX2_lay_6 rfl ?_
  refine V.put (pc := 7) (v := .int (nI m)) hC cf_X2 50 1 (wX k g a (va_up (va_up σ 93 (fun _ => x)) 97 (fun _ => nI m)) ν) fl_X2_19 (by decide) gx_50 rfl rfl rfl (Nat.le_of_ble_eq_true rfl) rfl dX2_lay_7 ?_
  refine V.iconst (pc := 10) 0 hC dX2_lay_10 (by decide) ?_
  refine V.istore_n (pc := 11) [(3, .int 0), (0, .ref (a 93)), (1, .int x), (2, .int (nI m))] hC dX2_lay_11 (by decide) rfl ?_
  have loop_12 : ∀ (n : Nat) (i : Nat) (f : Rw), i + n = m → (∀ j, j < i → f j = 0) → V X (wX k g a (va_up (va_up (va_up σ 93 (fun _ => x)) 97 (fun _ => nI m)) 101 f) ν) [(0, .ref (a 93)), (2, .int (nI m)), (3, .int (nI i))] [] 12 := by
    intro n
    induction n with
    | zero =>
      intro i f hi hf
      refine V.iload_n (pc := 12) 2 hC dX2_lay_12 rfl ?_
      refine V.iload_n (pc := 13) 1 hC dX2_lay_13 rfl ?_
      refine V.icmp_ge (pc := 14) 30 hC dX2_lay_14 (by decide) (fun c_14 => ?_) (fun c_14 => ?_)
      · have nc_14 : m ≤ i := (nle rfl rfl (by omega) (by omega)).mp c_14
        exact hR (x, nI m, f) _ _ dX2_lay_30 ⟨rfl, rfl, rfl, fun j hj => hf j (by omega)⟩
      · have nc_14 : ¬ (m ≤ i) := fun z => c_14 ((nle rfl rfl (by omega) (by omega)).mpr z)
        exfalso; omega
    | succ n ih =>
      intro i f hi hf
      refine V.iload_n (pc := 12) 2 hC dX2_lay_12 rfl ?_
      refine V.iload_n (pc := 13) 1 hC dX2_lay_13 rfl ?_
      refine V.icmp_ge (pc := 14) 30 hC dX2_lay_14 (by decide) (fun c_14 => ?_) (fun c_14 => ?_)
      · have nc_14 : m ≤ i := (nle rfl rfl (by omega) (by omega)).mp c_14
        exfalso; omega
      · have nc_14 : ¬ (m ≤ i) := fun z => c_14 ((nle rfl rfl (by omega) (by omega)).mpr z)
        refine V.aload_n (pc := 17) 0 hC dX2_lay_17 rfl ?_
        refine V.get (pc := 18) (v := .ref (a 97)) hC cf_X2 50 2 fl_X2_9 (by decide) gx_50 rfl dX2_lay_18 ?_
        refine V.iload_n (pc := 21) 2 hC dX2_lay_21 rfl ?_
        refine V.iconst (pc := 22) 0 hC dX2_lay_22 (by decide) ?_
        refine V.iast (pc := 23) (f := f) hC 54 i (wX k g a (va_up (va_up (va_up σ 93 (fun _ => x)) 97 (fun _ => nI m)) 101 (upd f i 0)) ν) gx_54 rfl (by omega) (by decide) rfl dX2_lay_23 ?_
        refine V.iinc (pc := 24) 2 (nI (i + 1)) [(3, .int (nI (i + 1))), (0, .ref (a 93)), (2, .int (nI m))] hC dX2_lay_24 rfl (ncast (nadd rfl (nl 1)) (by omega)) (by decide) rfl ?_
        refine V.goto (pc := 27) 12 hC dX2_lay_27 (by decide) ?_
        exact V.sub [1, 2, 0] rfl (ih (i + 1) (upd f i 0) (by omega) (fun j hj => (Nat.lt_or_ge j i).elim (fun e => (upd_ne (by omega)).trans (hf j e)) (fun e => by rw [show j = i by omega]; exact upd_eq)))
  exact V.sub [1, 3, 0] rfl (loop_12 m 0 (σ 101) (by omega) (fun j hj => absurd hj (by omega)))
