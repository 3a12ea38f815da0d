theorem rnd_in {ρ : Rw} {al : Rw} {s : Int32} (hal : ∀ x, x < nN (ρ 3) → ∀ j, j < 32 → bt (al x) j = true → j < nN (ρ 3)) (hs : ∀ j, j < 32 → bt s j = true → j < nN (ρ 3)) : ∀ j, j < 32 → bt (run (rndF al) (nN (ρ 3)) 0 s) j = true → j < nN (ρ 3) := by
  intro j hj h
  have := run_ind (f := rndF al) (fun _ s => bt s j = true → j < nN (ρ 3)) (nN (ρ 3)) 0 s (hs j hj) (fun x s' h1 h2 hs' => by
    unfold rndF
    split
    · exact hs'
    · intro q
      rcases bt_or.mp q with q | q
      · exact hs' q
      · exact hal x (by omega) j hj q)
  exact this h
theorem spr_s {ρ : Rw} (hI : Inv ρ) {p : Nat} {al : Rw} (ha : AL ρ p al) {s : Int32} {i : Nat} (hs : ∀ j, j < 32 → bt s j = true → j < nN (ρ 3)) (h : Clo ρ al s ∨ i ≤ cnt (bt s) (nN (ρ 3))) : Clo ρ al (run (rndF al) (nN (ρ 3)) 0 s) ∨ i + 1 ≤ cnt (bt (run (rndF al) (nN (ρ 3)) 0 s)) (nN (ρ 3)) := by
  rcases h with h | h
  · left; rw [clo_fix hI h]; exact h
  · rcases rnd_grow hI (al_in ha) hs with q | q
    · left; rw [clo_fix hI q]; exact q
    · right; omega
theorem but_mono {ρ : Rw} {re : Rw} {shut : Int32} {j : Nat} : ∀ (n i : Nat) (s : Int32), bt s j = true → bt (run (fun i s => run (butF ρ re i shut s) (nN (ρ 3)) 0 s) n i s) j = true := fun n i s h => run_ind (fun _ s => bt s j = true) n i s h (fun k s _ _ hs => run_ind (fun _ nx => bt nx j = true) (nN (ρ 3)) 0 s hs (fun x nx _ _ hq => b_or_t hq))
theorem bit_ne {s : Int32} {h : Nat} (hh : h < 32) : ¬ bitS s (nI h) = 0 ↔ bt s h = true := by
  rw [bit_0 hh]
  cases bt s h <;> decide

theorem wat_c {ρ re re' : Rw} {p m : Nat} {h : Int32} (e : ∀ i x, i < m → x < nN (ρ 3) → re (8 * i + x) = re' (8 * i + x)) : run (watF ρ p m h re) (2 ^ nN (ρ 3)) 0 (-1) = run (watF ρ p m h re') (2 ^ nN (ρ 3)) 0 (-1) := run_congr _ _ _ (fun i _ _ s => by unfold watF; rw [but_c e])

set_option maxHeartbeats 4000000 in
set_option maxRecDepth 100000 in
theorem c_X5_waysFrom {l : Launch} {D : va_G} {k : Nat → ClassId} {g a : Nat → Nat} (σ ν : St) (ρ : Rw) (p x : Nat) (t : Int32) (hT : RT σ ρ) (hI : Inv ρ) (hp : p < nN (ρ 4)) (hal : AL ρ p (ν 77)) (hnr : NR ρ t (leapsS ρ p t) (nN (ρ 2)) (ν 76)) (ht : isN t 100000) (hx : x < nN (ρ 3)) : Ct l D k g yX5_waysFrom cX5_waysFrom 2 (some .int) 0 0 [.ref (a 4), .int (nI x)] (S := Unit) (wX k g a σ ν) (fun _ => wX k g a σ ν) (fun vv _ => vv = some (.int (wayS ρ p x t))) := by
  refine Ct.ofI RX5 rfl (by decide +kernel) (Nat.le_of_ble_eq_true rfl) (fun X hC hR => ?_)
  have hb4 := hI.hb; have hb8 := hI.mb; have hb6 := hI.pb; have hbm := hI.ob0; have hbt := hI.bb; have hbw := hI.wb
  have hrb := hI.rb hx
  show V X (wX k g a σ ν) [(0, .ref (a 4)), (1, .int (nI x))] [] 0
  refine V.aload_n (pc := 0) 0 hC dX5_waysFrom_0 rfl ?_
  refine V.get (pc := 1) (v := .ref (a 77)) hC cf_X5 4 4 fl_X5_21 (by decide) gx_4 rfl dX5_waysFrom_1 ?_
  refine V.iload_n (pc := 4) 1 hC dX5_waysFrom_4 rfl ?_
  refine V.iald (pc := 5) (f := ν 77) hC 44 x gx_44 rfl (by omega) (by decide) dX5_waysFrom_5 ?_
  refine V.aload_n (pc := 6) 0 hC dX5_waysFrom_6 rfl ?_
  refine V.get (pc := 7) (v := .ref (a 76)) hC cf_X5 4 3 fl_X5_18 (by decide) gx_4 rfl dX5_waysFrom_7 ?_
  refine V.aload_n (pc := 10) 0 hC dX5_waysFrom_10 rfl ?_
  refine V.get (pc := 11) (v := .ref (a 1)) hC cf_X5 4 0 fl_X5_27 (by decide) gx_4 rfl dX5_waysFrom_11 ?_
  refine V.get (pc := 14) (v := .ref (a 14)) hC cf_X3 1 4 fl_X5_101 (by decide) gx_1 rfl dX5_waysFrom_14 ?_
  refine V.iload_n (pc := 17) 1 hC dX5_waysFrom_17 rfl ?_
  refine V.iald (pc := 18) (f := σ 14) hC 10 x gx_10 rfl (by omega) (by decide) dX5_waysFrom_18 ?_
  refine V.eqi (y := ρ (15 + 2 * x)) (hT.2.1.2.1 x (by omega)) ?_
  refine V.iald (pc := 19) (f := ν 76) hC 43 (nN (ρ (15 + 2 * x))) gx_43 (hI.rn (by omega)) (by omega) (by decide) dX5_waysFrom_19 ?_
  refine V.iand (pc := 20) hC dX5_waysFrom_20 ?_
  exact hR ((ν 77 x) &&& (ν 76 (nN (ρ (15 + 2 * x))))) () _ _ dX5_waysFrom_21 rfl (ri (way_eq hI hp ht hal hnr hx))
set_option maxHeartbeats 4000000 in
set_option maxRecDepth 100000 in
theorem c_X5_step {l : Launch} {D : va_G} {k : Nat → ClassId} {g a : Nat → Nat} (σ ν : St) (ρ : Rw) (p : Nat) (set t : Int32) (hT : RT σ ρ) (hI : Inv ρ) (hp : p < nN (ρ 4)) (hal : AL ρ p (ν 77)) (hnr : NR ρ t (leapsS ρ p t) (nN (ρ 2)) (ν 76)) (ht : isN t 100000) : Ct l D k g yX5_step cX5_step 4 (some .int) 1 21 [.ref (a 4), .int set] (S := Unit) (wX k g a σ ν) (fun _ => wX k g a σ ν) (fun vv _ => vv = some (.int (onwardS ρ p set t))) := by
  refine Ct.ofI RX5 rfl (by decide +kernel) (Nat.le_of_ble_eq_true rfl) (fun X hC hR => ?_)
  have hb4 := hI.hb; have hb8 := hI.mb; have hb6 := hI.pb; have hbm := hI.ob0; have hbt := hI.bb; have hbw := hI.wb
  show V X (wX k g a σ ν) [(0, .ref (a 4)), (1, .int set)] [] 0
  refine V.iload_n (pc := 0) 1 hC dX5_step_0 rfl ?_
  refine V.istore_n (pc := 1) [(2, .int set), (0, .ref (a 4)), (1, .int set)] hC dX5_step_1 (by decide) rfl ?_
  refine V.iconst (pc := 2) 0 hC dX5_step_2 (by decide) ?_
  refine V.istore_n (pc := 3) [(3, .int 0), (2, .int set), (0, .ref (a 4)), (1, .int set)] hC dX5_step_3 (by decide) rfl ?_
  have loop_4 : ∀ (n : Nat) (i : Nat) (nx : Int32), i + n = nN (ρ 3) → onwardS ρ p set t = run (fun x nx => nx ||| (if bitS set (nI x) = 1 then wayS ρ p x t else 0)) n i nx → V X (wX k g a σ ν) [(0, .ref (a 4)), (1, .int set), (2, .int nx), (3, .int (nI i))] [] 4 := by
    intro n
    induction n with
    | zero =>
      intro i nx hi hv
      refine V.iload_n (pc := 4) 3 hC dX5_step_4 rfl ?_
      refine V.aload_n (pc := 5) 0 hC dX5_step_5 rfl ?_
      refine V.get (pc := 6) (v := .ref (a 1)) hC cf_X5 4 0 fl_X5_27 (by decide) gx_4 rfl dX5_step_6 ?_
      refine V.get (pc := 9) (v := .int (σ 13 0)) hC cf_X3 1 3 fl_X5_59 (by decide) gx_1 rfl dX5_step_9 ?_
      refine V.eqi (y := ρ 3) (hT.2.1.1) ?_
      refine V.icmp_ge (pc := 12) 37 hC dX5_step_12 (by decide) (fun c_12 => ?_) (fun c_12 => ?_)
      · have nc_12 : nN (ρ 3) ≤ i := (nle hI.mn rfl (by omega) (by omega)).mp c_12
        refine V.iload_n (pc := 37) 2 hC dX5_step_37 rfl ?_
        exact hR nx () _ _ dX5_step_38 rfl (ri hv.symm)
      · have nc_12 : ¬ (nN (ρ 3) ≤ i) := fun z => c_12 ((nle hI.mn rfl (by omega) (by omega)).mpr z)
        exfalso; omega
    | succ n ih =>
      intro i nx hi hv
      refine V.iload_n (pc := 4) 3 hC dX5_step_4 rfl ?_
      refine V.aload_n (pc := 5) 0 hC dX5_step_5 rfl ?_
      refine V.get (pc := 6) (v := .ref (a 1)) hC cf_X5 4 0 fl_X5_27 (by decide) gx_4 rfl dX5_step_6 ?_
      refine V.get (pc := 9) (v := .int (σ 13 0)) hC cf_X3 1 3 fl_X5_59 (by decide) gx_1 rfl dX5_step_9 ?_
      refine V.eqi (y := ρ 3) (hT.2.1.1) ?_
      refine V.icmp_ge (pc := 12) 37 hC dX5_step_12 (by decide) (fun c_12 => ?_) (fun c_12 => ?_)
      · have nc_12 : nN (ρ 3) ≤ i := (nle hI.mn rfl (by omega) (by omega)).mp c_12
        exfalso; omega
      · have nc_12 : ¬ (nN (ρ 3) ≤ i) := fun z => c_12 ((nle hI.mn rfl (by omega) (by omega)).mpr z)
        refine V.iload_n (pc := 15) 1 hC dX5_step_15 rfl ?_
        refine V.iload_n (pc := 16) 3 hC dX5_step_16 rfl ?_
        refine V.callN0 (pc := 17) (as := [.int set, .int (nI i)]) hC (c_X6_isIn set (nI i) ) ms_X6_isIn (host := RX6) (by simp [nstW]) (by decide) rfl (Nat.le_of_ble_eq_true rfl) dX5_step_17 ?_
        rintro _ _ rfl
        show V X (wX k g a σ ν) [(0, .ref (a 4)), (1, .int set), (2, .int nx), (3, .int (nI i))] [.int (bI (¬ bitS set (nI i) = 0))] 20
        refine V.if_eq_b (P := ¬ bitS set (nI i) = 0) (pc := 20) 31 hC dX5_step_20 (by decide) (fun c_20 => ?_) (fun c_20 => ?_)
        · refine V.iinc (pc := 31) 3 (nI (i + 1)) [(3, .int (nI (i + 1))), (0, .ref (a 4)), (1, .int set), (2, .int nx)] hC dX5_step_31 rfl (ncast (nadd rfl (nl 1)) (by omega)) (by decide) rfl ?_
          refine V.goto (pc := 34) 4 hC dX5_step_34 (by decide) ?_
          exact V.sub [1, 2, 3, 0] rfl (ih (i + 1) nx (by omega) (run_next hv (by show nx ||| (if bitS set (nI i) = 1 then wayS ρ p i t else 0) = _; rw [if_neg (fun z => c_20 (fun y => (bit_n (by omega)).mp y z)), or_self_0])))
        · refine V.iload_n (pc := 23) 2 hC dX5_step_23 rfl ?_
          refine V.aload_n (pc := 24) 0 hC dX5_step_24 rfl ?_
          refine V.iload_n (pc := 25) 3 hC dX5_step_25 rfl ?_
          refine V.callV0 (pc := 26) (as := [.int (nI i)]) hC (c_X5_waysFrom σ ν ρ p i t hT hI hp hal hnr ht (by omega)) mu_X5_waysFrom ml_X5_62 (by decide) ⟨4, 5, TX5, 6, _, rfl, gx_4⟩ rfl (Nat.le_of_ble_eq_true rfl) dX5_step_26 ?_
          rintro _ _ rfl
          show V X (wX k g a σ ν) [(0, .ref (a 4)), (1, .int set), (2, .int nx), (3, .int (nI i))] [.int (wayS ρ p i t), .int nx] 29
          refine V.ior (pc := 29) hC dX5_step_29 ?_
          refine V.istore_n (pc := 30) [(2, .int (nx ||| (wayS ρ p i t))), (0, .ref (a 4)), (1, .int set), (3, .int (nI i))] hC dX5_step_30 (by decide) rfl ?_
          refine V.iinc (pc := 31) 3 (nI (i + 1)) [(3, .int (nI (i + 1))), (2, .int (nx ||| (wayS ρ p i t))), (0, .ref (a 4)), (1, .int set)] hC dX5_step_31 rfl (ncast (nadd rfl (nl 1)) (by omega)) (by decide) rfl ?_
          refine V.goto (pc := 34) 4 hC dX5_step_34 (by decide) ?_
          exact V.sub [2, 3, 1, 0] rfl (ih (i + 1) (nx ||| (wayS ρ p i t)) (by omega) (run_next hv (by show nx ||| (if bitS set (nI i) = 1 then wayS ρ p i t else 0) = _; rw [if_pos (Decidable.not_not.mp (fun z => c_20 ((bit_n (by omega)).mpr z)))])))
  exact V.sub [2, 3, 1, 0] rfl (loop_4 (nN (ρ 3)) 0 set (by omega) (onw_stp hI))
set_option maxHeartbeats 4000000 in
set_option maxRecDepth 100000 in
theorem c_X5_spread {l : Launch} {D : va_G} {k : Nat → ClassId} {g a : Nat → Nat} (σ ν : St) (ρ : Rw) (p x0 : Nat) (start : Int32) (hT : RT σ ρ) (hI : Inv ρ) (hal : AL ρ p (ν 77)) (hx0 : x0 < nN (ρ 3)) (h0 : start = b1 (nI x0)) : Ct l D k g yX5_spread cX5_spread 5 (some .int) 1 21 [.ref (a 4), .int start] (S := Int32) (wX k g a σ ν) (fun _ => wX k g a σ ν) (fun vv uu => vv = some (.int uu) ∧ Clo ρ (ν 77) uu ∧ (∀ j, bt start j = true → bt uu j = true)) := by
  refine Ct.ofI RX5 rfl (by decide +kernel) (Nat.le_of_ble_eq_true rfl) (fun X hC hR => ?_)
  have hb8 := hI.mb
  have hst : ∀ j, j < 32 → bt start j = true → j < nN (ρ 3) := fun j hj h => by rw [h0] at h; rw [(bt_b1 (by omega) hj).mp h]; exact hx0
  show V X (wX k g a σ ν) [(0, .ref (a 4)), (1, .int start)] [] 0
  refine V.iload_n (pc := 0) 1 hC dX5_spread_0 rfl ?_
  refine V.istore_n (pc := 1) [(2, .int start), (0, .ref (a 4)), (1, .int start)] hC dX5_spread_1 (by decide) rfl ?_
  refine V.iconst (pc := 2) 1 hC dX5_spread_2 (by decide) ?_
  refine V.istore_n (pc := 3) [(3, .int 1), (2, .int start), (0, .ref (a 4)), (1, .int start)] hC dX5_spread_3 (by decide) rfl ?_
  have loop_4 : ∀ (n : Nat) (i : Nat) (s : Int32), i + n = nN (ρ 3) → (∀ j, bt start j = true → bt s j = true) → (∀ j, j < 32 → bt s j = true → j < nN (ρ 3)) → Clo ρ (ν 77) s ∨ i ≤ cnt (bt s) (nN (ρ 3)) → V X (wX k g a σ ν) [(0, .ref (a 4)), (2, .int s), (3, .int (nI i))] [] 4 := by
    intro n
    induction n with
    | zero =>
      intro i s hi hsb hin hcl
      refine V.iload_n (pc := 4) 2 hC dX5_spread_4 rfl ?_
      refine V.aload_n (pc := 5) 0 hC dX5_spread_5 rfl ?_
      refine V.get (pc := 6) (v := .ref (a 1)) hC cf_X5 4 0 fl_X5_27 (by decide) gx_4 rfl dX5_spread_6 ?_
      refine V.get (pc := 9) (v := .int (σ 13 0)) hC cf_X3 1 3 fl_X5_59 (by decide) gx_1 rfl dX5_spread_9 ?_
      refine V.eqi (y := ρ 3) (hT.2.1.1) ?_
      refine V.icmp_ge (pc := 12) 61 hC dX5_spread_12 (by decide) (fun c_12 => ?_) (fun c_12 => ?_)
      · have nc_12 : nN (ρ 3) ≤ i := (nle hI.mn rfl (by omega) (by omega)).mp c_12
        refine V.iload_n (pc := 61) 1 hC dX5_spread_61 rfl ?_
        exact hR s (s) _ _ dX5_spread_62 rfl ⟨rfl, hcl.elim id (fun q => clo_full hal (by have := cnt_le (f := bt s) (nN (ρ 3)); omega)), hsb⟩
      · have nc_12 : ¬ (nN (ρ 3) ≤ i) := fun z => c_12 ((nle hI.mn rfl (by omega) (by omega)).mpr z)
        exfalso; omega
    | succ n ih =>
      intro i s hi hsb hin hcl
      refine V.iload_n (pc := 4) 2 hC dX5_spread_4 rfl ?_
      refine V.aload_n (pc := 5) 0 hC dX5_spread_5 rfl ?_
      refine V.get (pc := 6) (v := .ref (a 1)) hC cf_X5 4 0 fl_X5_27 (by decide) gx_4 rfl dX5_spread_6 ?_
      refine V.get (pc := 9) (v := .int (σ 13 0)) hC cf_X3 1 3 fl_X5_59 (by decide) gx_1 rfl dX5_spread_9 ?_
      refine V.eqi (y := ρ 3) (hT.2.1.1) ?_
      refine V.icmp_ge (pc := 12) 61 hC dX5_spread_12 (by decide) (fun c_12 => ?_) (fun c_12 => ?_)
      · have nc_12 : nN (ρ 3) ≤ i := (nle hI.mn rfl (by omega) (by omega)).mp c_12
        exfalso; omega
      · have nc_12 : ¬ (nN (ρ 3) ≤ i) := fun z => c_12 ((nle hI.mn rfl (by omega) (by omega)).mpr z)
        refine V.iconst (pc := 15) 0 hC dX5_spread_15 (by decide) ?_
        refine V.istore (pc := 16) [(4, .int 0), (0, .ref (a 4)), (2, .int s), (3, .int (nI i))] hC dX5_spread_16 (by decide) rfl ?_
        have loop_18 : ∀ (n : Nat) (j : Nat) (r : Int32), j + n = nN (ρ 3) → run (rndF (ν 77)) (nN (ρ 3)) 0 s = run (rndF (ν 77)) n j r → V X (wX k g a σ ν) [(0, .ref (a 4)), (2, .int r), (3, .int (nI i)), (4, .int (nI j))] [] 18 := by
          intro n
          induction n with
          | zero =>
            intro j r hj hv
            refine V.iload (pc := 18) 3 hC dX5_spread_18 rfl ?_
            refine V.aload_n (pc := 20) 0 hC dX5_spread_20 rfl ?_
            refine V.get (pc := 21) (v := .ref (a 1)) hC cf_X5 4 0 fl_X5_27 (by decide) gx_4 rfl dX5_spread_21 ?_
            refine V.get (pc := 24) (v := .int (σ 13 0)) hC cf_X3 1 3 fl_X5_59 (by decide) gx_1 rfl dX5_spread_24 ?_
            refine V.eqi (y := ρ 3) (hT.2.1.1) ?_
            refine V.icmp_ge (pc := 27) 55 hC dX5_spread_27 (by decide) (fun c_27 => ?_) (fun c_27 => ?_)
            · have nc_27 : nN (ρ 3) ≤ j := (nle hI.mn rfl (by omega) (by omega)).mp c_27
              refine V.iinc (pc := 55) 2 (nI (i + 1)) [(3, .int (nI (i + 1))), (0, .ref (a 4)), (2, .int r), (4, .int (nI j))] hC dX5_spread_55 rfl (ncast (nadd rfl (nl 1)) (by omega)) (by decide) rfl ?_
              refine V.goto (pc := 58) 4 hC dX5_spread_58 (by decide) ?_
              exact V.sub [1, 2, 0] rfl (ih (i + 1) r (by omega) (fun j h => by rw [← show run (rndF (ν 77)) (nN (ρ 3)) 0 s = r from hv]; exact rnd_mono _ _ _ (hsb j h)) (by rw [← show run (rndF (ν 77)) (nN (ρ 3)) 0 s = r from hv]; exact rnd_in (al_in hal) hin) (by rw [← show run (rndF (ν 77)) (nN (ρ 3)) 0 s = r from hv]; exact spr_s hI hal hin hcl))
            · have nc_27 : ¬ (nN (ρ 3) ≤ j) := fun z => c_27 ((nle hI.mn rfl (by omega) (by omega)).mpr z)
              exfalso; omega
          | succ n ih =>
            intro j r hj hv
            refine V.iload (pc := 18) 3 hC dX5_spread_18 rfl ?_
            refine V.aload_n (pc := 20) 0 hC dX5_spread_20 rfl ?_
            refine V.get (pc := 21) (v := .ref (a 1)) hC cf_X5 4 0 fl_X5_27 (by decide) gx_4 rfl dX5_spread_21 ?_
            refine V.get (pc := 24) (v := .int (σ 13 0)) hC cf_X3 1 3 fl_X5_59 (by decide) gx_1 rfl dX5_spread_24 ?_
            refine V.eqi (y := ρ 3) (hT.2.1.1) ?_
            refine V.icmp_ge (pc := 27) 55 hC dX5_spread_27 (by decide) (fun c_27 => ?_) (fun c_27 => ?_)
            · have nc_27 : nN (ρ 3) ≤ j := (nle hI.mn rfl (by omega) (by omega)).mp c_27
              exfalso; omega
            · have nc_27 : ¬ (nN (ρ 3) ≤ j) := fun z => c_27 ((nle hI.mn rfl (by omega) (by omega)).mpr z)
              refine V.iload_n (pc := 30) 1 hC dX5_spread_30 rfl ?_
              refine V.iload (pc := 31) 3 hC dX5_spread_31 rfl ?_
              refine V.callN0 (pc := 33) (as := [.int r, .int (nI j)]) hC (c_X6_isIn r (nI j) ) ms_X6_isIn (host := RX6) (by simp [nstW]) (by decide) rfl (Nat.le_of_ble_eq_true rfl) dX5_spread_33 ?_
              rintro _ _ rfl
              show V X (wX k g a σ ν) [(0, .ref (a 4)), (2, .int r), (3, .int (nI i)), (4, .int (nI j))] [.int (bI (¬ bitS r (nI j) = 0))] 36
              refine V.if_eq_b (P := ¬ bitS r (nI j) = 0) (pc := 36) 49 hC dX5_spread_36 (by decide) (fun c_36 => ?_) (fun c_36 => ?_)
              · refine V.iinc (pc := 49) 3 (nI (j + 1)) [(4, .int (nI (j + 1))), (0, .ref (a 4)), (2, .int r), (3, .int (nI i))] hC dX5_spread_49 rfl (ncast (nadd rfl (nl 1)) (by omega)) (by decide) rfl ?_
                refine V.goto (pc := 52) 18 hC dX5_spread_52 (by decide) ?_
                exact V.sub [1, 2, 3, 0] rfl (ih (j + 1) r (by omega) (run_next hv (by unfold rndF; rw [if_pos (Decidable.not_not.mp c_36)])))
              · refine V.iload_n (pc := 39) 1 hC dX5_spread_39 rfl ?_
                refine V.aload_n (pc := 40) 0 hC dX5_spread_40 rfl ?_
                refine V.get (pc := 41) (v := .ref (a 77)) hC cf_X5 4 4 fl_X5_21 (by decide) gx_4 rfl dX5_spread_41 ?_
                refine V.iload (pc := 44) 3 hC dX5_spread_44 rfl ?_
                refine V.iald (pc := 46) (f := ν 77) hC 44 j gx_44 rfl (by omega) (by decide) dX5_spread_46 ?_
                refine V.ior (pc := 47) hC dX5_spread_47 ?_
                refine V.istore_n (pc := 48) [(2, .int (r ||| (ν 77 j))), (0, .ref (a 4)), (3, .int (nI i)), (4, .int (nI j))] hC dX5_spread_48 (by decide) rfl ?_
                refine V.iinc (pc := 49) 3 (nI (j + 1)) [(4, .int (nI (j + 1))), (2, .int (r ||| (ν 77 j))), (0, .ref (a 4)), (3, .int (nI i))] hC dX5_spread_49 rfl (ncast (nadd rfl (nl 1)) (by omega)) (by decide) rfl ?_
                refine V.goto (pc := 52) 18 hC dX5_spread_52 (by decide) ?_
                exact V.sub [2, 1, 3, 0] rfl (ih (j + 1) (r ||| (ν 77 j)) (by omega) (run_next hv (by unfold rndF; rw [if_neg c_36])))
        exact V.sub [1, 2, 3, 0] rfl (loop_18 (nN (ρ 3)) 0 s (by omega) rfl)
  exact V.sub [2, 1, 0] rfl (loop_4 (nN (ρ 3) - 1) 1 start (by omega) (fun j h => h) hst (Or.inr (cnt_pos (i := x0) (by rw [h0]; exact (bt_b1 (by omega) (by omega)).mpr rfl) _ hx0)))
set_option maxHeartbeats 4000000 in
set_option maxRecDepth 100000 in
theorem c_X5_roomsBehind {l : Launch} {D : va_G} {k : Nat → ClassId} {g a : Nat → Nat} (σ ν : St) (ρ : Rw) (p m : Nat) (hT : RT σ ρ) (hI : Inv ρ) (hp : p < nN (ρ 4)) (hm : m ≤ 720) : Ct l D k g yX5_roomsBehind cX5_roomsBehind 6 (some .int) 5 122 [.ref (a 4), .int (nI p), .int (nI m)] (S := Rw × Rw × Rw × Rw × Rw) (wX k g a σ ν) (fun uu => wX k g a σ (va_up (va_up (va_up (va_up (va_up ν 31 uu.1) 74 uu.2.1) 75 uu.2.2.1) 76 uu.2.2.2.1) 77 uu.2.2.2.2)) (fun vv uu => vv = some (.int (roomsByS ρ p m))) := by
  refine Ct.ofI RX5 rfl (by decide +kernel) (Nat.le_of_ble_eq_true rfl) (fun X hC hR => ?_)
  have hb4 := hI.hb; have hb8 := hI.mb; have hb6 := hI.pb; have hbm := hI.ob0; have hbt := hI.bb; have hbw := hI.wb
  have hab := hI.ab hp
  show V X (wX k g a σ ν) [(0, .ref (a 4)), (1, .int (nI p)), (2, .int (nI m))] [] 0
  refine V.aload_n (pc := 0) 0 hC dX5_roomsBehind_0 rfl ?_
  refine V.iload_n (pc := 1) 1 hC dX5_roomsBehind_1 rfl ?_
  refine V.callV0 (pc := 2) (as := [.int (nI p)]) hC (c_X5_begin σ ν ρ p hT hI hp) mu_X5_begin ml_X5_31 (by decide) ⟨4, 5, TX5, 6, _, rfl, gx_4⟩ rfl (Nat.le_of_ble_eq_true rfl) dX5_roomsBehind_2 ?_
  rintro _ ⟨f2_0, f2_1⟩ ⟨rfl, hu2_0, hu2_1⟩
  have hu2_0 : RD ρ f2_0 := hu2_0
  have hu2_1 : AL ρ p f2_1 := hu2_1
  show V X (wX k g a σ (va_up (va_up ν 75 f2_0) 77 f2_1)) [(0, .ref (a 4)), (1, .int (nI p)), (2, .int (nI m))] [] 5
  refine V.iconst (pc := 5) 1 hC dX5_roomsBehind_5 (by decide) ?_
  refine V.aload_n (pc := 6) 0 hC dX5_roomsBehind_6 rfl ?_
  refine V.get (pc := 7) (v := .ref (a 1)) hC cf_X5 4 0 fl_X5_27 (by decide) gx_4 rfl dX5_roomsBehind_7 ?_
  refine V.get (pc := 10) (v := .ref (a 19)) hC cf_X3 1 9 fl_X5_35 (by decide) gx_1 rfl dX5_roomsBehind_10 ?_
  refine V.iload_n (pc := 13) 1 hC dX5_roomsBehind_13 rfl ?_
  refine V.iald (pc := 14) (f := σ 19) hC 14 p gx_14 rfl (by omega) (by decide) dX5_roomsBehind_14 ?_
  refine V.eqi (y := ρ (33 + 3 * p)) (hT.2.2.1.2.2.2 p (by omega)) ?_
  refine V.ishl (pc := 15) hC dX5_roomsBehind_15 ?_
  refine V.istore_n (pc := 16) [(3, .int (1 <<< ((ρ (33 + 3 * p)) &&& 31))), (0, .ref (a 4)), (1, .int (nI p)), (2, .int (nI m))] hC dX5_roomsBehind_16 (by decide) rfl ?_
  refine V.aload_n (pc := 17) 1 hC dX5_roomsBehind_17 rfl ?_
  refine V.iload_n (pc := 18) 0 hC dX5_roomsBehind_18 rfl ?_
  refine V.callV0 (pc := 19) (as := [.int (1 <<< ((ρ (33 + 3 * p)) &&& 31))]) hC (c_X5_spread σ (va_up (va_up ν 75 f2_0) 77 f2_1) ρ p (nN (ρ (33 + 3 * p))) (1 <<< ((ρ (33 + 3 * p)) &&& 31)) hT hI hu2_1 hab (by rw [← hI.an hp]; rfl)) mu_X5_spread ml_X5_40 (by decide) ⟨4, 5, TX5, 6, _, rfl, gx_4⟩ rfl (Nat.le_of_ble_eq_true rfl) dX5_roomsBehind_19 ?_
  rintro _ e19_0 ⟨rfl, hu19_0, hu19_1⟩
  have hu19_0 : Clo ρ (f2_1) e19_0 := hu19_0
  have hu19_1 : (∀ j, bt (1 <<< ((ρ (33 + 3 * p)) &&& 31)) j = true → bt e19_0 j = true) := hu19_1
  show V X (wX k g a σ (va_up (va_up ν 75 f2_0) 77 f2_1)) [(3, .int (1 <<< ((ρ (33 + 3 * p)) &&& 31))), (0, .ref (a 4)), (1, .int (nI p)), (2, .int (nI m))] [.int e19_0] 22
  refine V.istore (pc := 22) [(4, .int e19_0), (3, .int (1 <<< ((ρ (33 + 3 * p)) &&& 31))), (0, .ref (a 4)), (1, .int (nI p)), (2, .int (nI m))] hC dX5_roomsBehind_22 (by decide) rfl ?_
  refine V.iconst (pc := 24) 0 hC dX5_roomsBehind_24 (by decide) ?_
  refine V.istore (pc := 25) [(5, .int 0), (4, .int e19_0), (3, .int (1 <<< ((ρ (33 + 3 * p)) &&& 31))), (0, .ref (a 4)), (1, .int (nI p)), (2, .int (nI m))] hC dX5_roomsBehind_25 (by decide) rfl ?_
  have loop_27 : ∀ (n : Nat) (i : Nat) (s : Int32) (g31 g74 g76 : Rw), i + n = m → (∀ j, bt s j = true → bt e19_0 j = true) → roomsByS ρ p m = run (fun i s => onwardS ρ p s (ρ 0 + nI i)) n i s → V X (wX k g a σ (va_up (va_up (va_up (va_up (va_up ν 75 f2_0) 77 f2_1) 31 g31) 74 g74) 76 g76)) [(5, .int (nI i)), (4, .int e19_0), (3, .int s), (0, .ref (a 4)), (1, .int (nI p)), (2, .int (nI m))] [] 27 := by
    intro n
    induction n with
    | zero =>
      intro i s g31 g74 g76 hi hsm hv
      refine V.iload (pc := 27) 0 hC dX5_roomsBehind_27 rfl ?_
      refine V.iload_n (pc := 29) 5 hC dX5_roomsBehind_29 rfl ?_
      refine V.icmp_ge (pc := 30) 66 hC dX5_roomsBehind_30 (by decide) (fun c_30 => ?_) (fun c_30 => ?_)
      · have nc_30 : m ≤ i := (nle rfl rfl (by omega) (by omega)).mp c_30
        refine V.iload_n (pc := 66) 2 hC dX5_roomsBehind_66 rfl ?_
        exact hR s (g31, g74, f2_0, g76, f2_1) _ _ dX5_roomsBehind_67 rfl (ri hv.symm)
      · have nc_30 : ¬ (m ≤ i) := fun z => c_30 ((nle rfl rfl (by omega) (by omega)).mpr z)
        exfalso; omega
    | succ n ih =>
      intro i s g31 g74 g76 hi hsm hv
      refine V.iload (pc := 27) 0 hC dX5_roomsBehind_27 rfl ?_
      refine V.iload_n (pc := 29) 5 hC dX5_roomsBehind_29 rfl ?_
      refine V.icmp_ge (pc := 30) 66 hC dX5_roomsBehind_30 (by decide) (fun c_30 => ?_) (fun c_30 => ?_)
      · have nc_30 : m ≤ i := (nle rfl rfl (by omega) (by omega)).mp c_30
        exfalso; omega
      · have nc_30 : ¬ (m ≤ i) := fun z => c_30 ((nle rfl rfl (by omega) (by omega)).mpr z)
        refine V.iload_n (pc := 33) 2 hC dX5_roomsBehind_33 rfl ?_
        refine V.iload (pc := 34) 1 hC dX5_roomsBehind_34 rfl ?_
        refine V.icmp_eq (pc := 36) 66 hC dX5_roomsBehind_36 (by decide) (fun c_36 => ?_) (fun c_36 => ?_)
        · refine V.iload_n (pc := 66) 2 hC dX5_roomsBehind_66 rfl ?_
          exact hR s (g31, g74, f2_0, g76, f2_1) _ _ dX5_roomsBehind_67 rfl (ri (by rw [hv, c_36]; exact (run_fix (f := (fun i s => onwardS ρ p s (ρ 0 + nI i))) (s := e19_0) (fun i => onw_clo hI hu2_1 hu19_0) _ _).symm))
        · refine V.aload_n (pc := 39) 3 hC dX5_roomsBehind_39 rfl ?_
          refine V.iload_n (pc := 40) 4 hC dX5_roomsBehind_40 rfl ?_
          refine V.aload_n (pc := 41) 3 hC dX5_roomsBehind_41 rfl ?_
          refine V.get (pc := 42) (v := .ref (a 1)) hC cf_X5 4 0 fl_X5_27 (by decide) gx_4 rfl dX5_roomsBehind_42 ?_
          refine V.get (pc := 45) (v := .int (σ 20 0)) hC cf_X3 1 10 fl_X5_44 (by decide) gx_1 rfl dX5_roomsBehind_45 ?_
          refine V.eqi (y := ρ 0) (hT.2.2.2.1.1) ?_
          refine V.iload (pc := 48) 0 hC dX5_roomsBehind_48 rfl ?_
          refine V.iadd (pc := 50) hC dX5_roomsBehind_50 ?_
          refine V.callV0 (pc := 51) (as := [.int (nI p), .int ((ρ 0) + (nI i))]) hC (c_X5_lookAt σ (va_up (va_up (va_up (va_up (va_up ν 75 f2_0) 77 f2_1) 31 g31) 74 g74) 76 g76) ρ p ((ρ 0) + (nI i)) hT hI hp hu2_0 (isN.mk (nadd hI.on0 rfl) (by omega) (by omega))) mu_X5_lookAt ml_X5_48 (by decide) ⟨4, 5, TX5, 6, _, rfl, gx_4⟩ rfl (Nat.le_of_ble_eq_true rfl) dX5_roomsBehind_51 ?_
          rintro _ ⟨f51_0, f51_1, f51_2⟩ ⟨rfl, hu51_0⟩
          have hu51_0 : NR ρ ((ρ 0) + (nI i)) (leapsS ρ p ((ρ 0) + (nI i))) (nN (ρ 2)) f51_2 := hu51_0
          show V X (wX k g a σ (va_up (va_up (va_up (va_up (va_up ν 75 f2_0) 77 f2_1) 31 f51_0) 74 f51_1) 76 f51_2)) [(5, .int (nI i)), (4, .int e19_0), (3, .int s), (0, .ref (a 4)), (1, .int (nI p)), (2, .int (nI m))] [] 54
          refine V.aload_n (pc := 54) 3 hC dX5_roomsBehind_54 rfl ?_
          refine V.iload_n (pc := 55) 2 hC dX5_roomsBehind_55 rfl ?_
          refine V.callV0 (pc := 56) (as := [.int s]) hC (c_X5_step σ (va_up (va_up (va_up (va_up (va_up ν 75 f2_0) 77 f2_1) 31 f51_0) 74 f51_1) 76 f51_2) ρ p s (ρ 0 + nI i) hT hI hp hu2_1 hu51_0 (isN.mk (nadd hI.on0 rfl) (by omega) (by omega))) mu_X5_step ml_X5_52 (by decide) ⟨4, 5, TX5, 6, _, rfl, gx_4⟩ rfl (Nat.le_of_ble_eq_true rfl) dX5_roomsBehind_56 ?_
          rintro _ _ rfl
          show V X (wX k g a σ (va_up (va_up (va_up (va_up (va_up ν 75 f2_0) 77 f2_1) 31 f51_0) 74 f51_1) 76 f51_2)) [(5, .int (nI i)), (4, .int e19_0), (3, .int s), (0, .ref (a 4)), (1, .int (nI p)), (2, .int (nI m))] [.int (onwardS ρ p s (ρ 0 + nI i))] 59
          refine V.istore_n (pc := 59) [(3, .int (onwardS ρ p s (ρ 0 + nI i))), (5, .int (nI i)), (4, .int e19_0), (0, .ref (a 4)), (1, .int (nI p)), (2, .int (nI m))] hC dX5_roomsBehind_59 (by decide) rfl ?_
          refine V.iinc (pc := 60) 1 (nI (i + 1)) [(5, .int (nI (i + 1))), (3, .int (onwardS ρ p s (ρ 0 + nI i))), (4, .int e19_0), (0, .ref (a 4)), (1, .int (nI p)), (2, .int (nI m))] hC dX5_roomsBehind_60 rfl (ncast (nadd rfl (nl 1)) (by omega)) (by decide) rfl ?_
          refine V.goto (pc := 63) 27 hC dX5_roomsBehind_63 (by decide) ?_
          exact V.sub [0, 2, 1, 3, 4, 5] rfl (ih (i + 1) _ f51_0 f51_1 f51_2 (by omega) (onw_in hI hu2_1 hu19_0 hsm) (run_next hv rfl))
  exact V.sub [0, 1, 2, 3, 4, 5] rfl (loop_27 m 0 _ (ν 31) (ν 74) (ν 76) (by omega) hu19_1 rfl)
set_option maxHeartbeats 4000000 in
set_option maxRecDepth 100000 in
theorem c_X5_firstIn {l : Launch} {D : va_G} {k : Nat → ClassId} {g a : Nat → Nat} (σ ν : St) (ρ : Rw) (p h : Nat) (hT : RT σ ρ) (hI : Inv ρ) (hp : p < nN (ρ 4)) (hh : h < nN (ρ 3)) : Ct l D k g yX5_firstIn cX5_firstIn 5 (some .int) 5 122 [.ref (a 4), .int (nI p), .int (nI h)] (S := Rw × Rw × Rw × Rw × Rw) (wX k g a σ ν) (fun uu => wX k g a σ (va_up (va_up (va_up (va_up (va_up ν 31 uu.1) 74 uu.2.1) 75 uu.2.2.1) 76 uu.2.2.2.1) 77 uu.2.2.2.2)) (fun vv uu => vv = some (.int (if 720 < sooV ρ p (nI h) then -1 else nI (sooV ρ p (nI h))))) := by
  refine Ct.ofI RX5 rfl (by decide +kernel) (Nat.le_of_ble_eq_true rfl) (fun X hC hR => ?_)
  have hb4 := hI.hb; have hb8 := hI.mb; have hb6 := hI.pb; have hbm := hI.ob0; have hbt := hI.bb; have hbw := hI.wb
  have hab := hI.ab hp
  show V X (wX k g a σ ν) [(0, .ref (a 4)), (1, .int (nI p)), (2, .int (nI h))] [] 0
  refine V.aload_n (pc := 0) 0 hC dX5_firstIn_0 rfl ?_
  refine V.iload_n (pc := 1) 1 hC dX5_firstIn_1 rfl ?_
  refine V.callV0 (pc := 2) (as := [.int (nI p)]) hC (c_X5_begin σ ν ρ p hT hI hp) mu_X5_begin ml_X5_31 (by decide) ⟨4, 5, TX5, 6, _, rfl, gx_4⟩ rfl (Nat.le_of_ble_eq_true rfl) dX5_firstIn_2 ?_
  rintro _ ⟨f2_0, f2_1⟩ ⟨rfl, hu2_0, hu2_1⟩
  have hu2_0 : RD ρ f2_0 := hu2_0
  have hu2_1 : AL ρ p f2_1 := hu2_1
  show V X (wX k g a σ (va_up (va_up ν 75 f2_0) 77 f2_1)) [(0, .ref (a 4)), (1, .int (nI p)), (2, .int (nI h))] [] 5
  refine V.iconst (pc := 5) 1 hC dX5_firstIn_5 (by decide) ?_
  refine V.aload_n (pc := 6) 0 hC dX5_firstIn_6 rfl ?_
  refine V.get (pc := 7) (v := .ref (a 1)) hC cf_X5 4 0 fl_X5_27 (by decide) gx_4 rfl dX5_firstIn_7 ?_
  refine V.get (pc := 10) (v := .ref (a 19)) hC cf_X3 1 9 fl_X5_35 (by decide) gx_1 rfl dX5_firstIn_10 ?_
  refine V.iload_n (pc := 13) 1 hC dX5_firstIn_13 rfl ?_
  refine V.iald (pc := 14) (f := σ 19) hC 14 p gx_14 rfl (by omega) (by decide) dX5_firstIn_14 ?_
  refine V.eqi (y := ρ (33 + 3 * p)) (hT.2.2.1.2.2.2 p (by omega)) ?_
  refine V.ishl (pc := 15) hC dX5_firstIn_15 ?_
  refine V.istore_n (pc := 16) [(3, .int (1 <<< ((ρ (33 + 3 * p)) &&& 31))), (0, .ref (a 4)), (1, .int (nI p)), (2, .int (nI h))] hC dX5_firstIn_16 (by decide) rfl ?_
  refine V.aload_n (pc := 17) 1 hC dX5_firstIn_17 rfl ?_
  refine V.iload_n (pc := 18) 0 hC dX5_firstIn_18 rfl ?_
  refine V.callV0 (pc := 19) (as := [.int (1 <<< ((ρ (33 + 3 * p)) &&& 31))]) hC (c_X5_spread σ (va_up (va_up ν 75 f2_0) 77 f2_1) ρ p (nN (ρ (33 + 3 * p))) (1 <<< ((ρ (33 + 3 * p)) &&& 31)) hT hI hu2_1 hab (by rw [← hI.an hp]; rfl)) mu_X5_spread ml_X5_40 (by decide) ⟨4, 5, TX5, 6, _, rfl, gx_4⟩ rfl (Nat.le_of_ble_eq_true rfl) dX5_firstIn_19 ?_
  rintro _ e19_0 ⟨rfl, hu19_0, hu19_1⟩
  have hu19_0 : Clo ρ (f2_1) e19_0 := hu19_0
  have hu19_1 : (∀ j, bt (1 <<< ((ρ (33 + 3 * p)) &&& 31)) j = true → bt e19_0 j = true) := hu19_1
  show V X (wX k g a σ (va_up (va_up ν 75 f2_0) 77 f2_1)) [(3, .int (1 <<< ((ρ (33 + 3 * p)) &&& 31))), (0, .ref (a 4)), (1, .int (nI p)), (2, .int (nI h))] [.int e19_0] 22
  refine V.iload_n (pc := 22) 3 hC dX5_firstIn_22 rfl ?_
  refine V.callN0 (pc := 23) (as := [.int e19_0, .int (nI h)]) hC (c_X6_isIn e19_0 (nI h) ) ms_X6_isIn (host := RX6) (by simp [nstW]) (by decide) rfl (Nat.le_of_ble_eq_true rfl) dX5_firstIn_23 ?_
  rintro _ _ rfl
  show V X (wX k g a σ (va_up (va_up ν 75 f2_0) 77 f2_1)) [(3, .int (1 <<< ((ρ (33 + 3 * p)) &&& 31))), (0, .ref (a 4)), (1, .int (nI p)), (2, .int (nI h))] [.int (bI (¬ bitS e19_0 (nI h) = 0))] 26
  refine V.if_ne_b (P := ¬ bitS e19_0 (nI h) = 0) (pc := 26) 31 hC dX5_firstIn_26 (by decide) (fun c_26 => ?_) (fun c_26 => ?_)
  · refine V.iconst (pc := 31) 0 hC dX5_firstIn_31 (by decide) ?_
    refine V.istore (pc := 32) [(4, .int 0), (3, .int (1 <<< ((ρ (33 + 3 * p)) &&& 31))), (0, .ref (a 4)), (1, .int (nI p)), (2, .int (nI h))] hC dX5_firstIn_32 (by decide) rfl ?_
    have loop_34 : ∀ (n : Nat) (i : Nat) (s : Int32) (g31 g74 g76 : Rw), i + n = 721 → sooV ρ p (nI h) = sooS ρ p (nI h) n i s → V X (wX k g a σ (va_up (va_up (va_up (va_up (va_up ν 75 f2_0) 77 f2_1) 31 g31) 74 g74) 76 g76)) [(3, .int s), (0, .ref (a 4)), (1, .int (nI p)), (2, .int (nI h)), (4, .int (nI i))] [] 34 := by
      intro n
      induction n with
      | zero =>
        intro i s g31 g74 g76 hi hv
        refine V.iload (pc := 34) 4 hC dX5_firstIn_34 rfl ?_
        refine V.sipush (pc := 36) 720 hC dX5_firstIn_36 (by decide) ?_
        refine V.icmp_gt (pc := 39) 80 hC dX5_firstIn_39 (by decide) (fun c_39 => ?_) (fun c_39 => ?_)
        · have nc_39 : 720 < i := (nlt (nl 720) rfl (by omega) (by omega)).mp c_39
          refine V.iconst (pc := 80) (-1) hC dX5_firstIn_80 (by decide) ?_
          exact hR (-1) (g31, g74, f2_0, g76, f2_1) _ _ dX5_firstIn_81 rfl (ri (by rw [show sooV ρ p (nI h) = i from hv, if_pos (by omega)]))
        · have nc_39 : ¬ (720 < i) := fun z => c_39 ((nlt (nl 720) rfl (by omega) (by omega)).mpr z)
          exfalso; omega
      | succ n ih =>
        intro i s g31 g74 g76 hi hv
        refine V.iload (pc := 34) 4 hC dX5_firstIn_34 rfl ?_
        refine V.sipush (pc := 36) 720 hC dX5_firstIn_36 (by decide) ?_
        refine V.icmp_gt (pc := 39) 80 hC dX5_firstIn_39 (by decide) (fun c_39 => ?_) (fun c_39 => ?_)
        · have nc_39 : 720 < i := (nlt (nl 720) rfl (by omega) (by omega)).mp c_39
          exfalso; omega
        · have nc_39 : ¬ (720 < i) := fun z => c_39 ((nlt (nl 720) rfl (by omega) (by omega)).mpr z)
          refine V.iload_n (pc := 42) 0 hC dX5_firstIn_42 rfl ?_
          refine V.iload_n (pc := 43) 3 hC dX5_firstIn_43 rfl ?_
          refine V.callN0 (pc := 44) (as := [.int s, .int (nI h)]) hC (c_X6_isIn s (nI h) ) ms_X6_isIn (host := RX6) (by simp [nstW]) (by decide) rfl (Nat.le_of_ble_eq_true rfl) dX5_firstIn_44 ?_
          rintro _ _ rfl
          show V X (wX k g a σ (va_up (va_up (va_up (va_up (va_up ν 75 f2_0) 77 f2_1) 31 g31) 74 g74) 76 g76)) [(3, .int s), (0, .ref (a 4)), (1, .int (nI p)), (2, .int (nI h)), (4, .int (nI i))] [.int (bI (¬ bitS s (nI h) = 0))] 47
          refine V.if_eq_b (P := ¬ bitS s (nI h) = 0) (pc := 47) 53 hC dX5_firstIn_47 (by decide) (fun c_47 => ?_) (fun c_47 => ?_)
          · refine V.aload_n (pc := 53) 1 hC dX5_firstIn_53 rfl ?_
            refine V.iload_n (pc := 54) 2 hC dX5_firstIn_54 rfl ?_
            refine V.aload_n (pc := 55) 1 hC dX5_firstIn_55 rfl ?_
            refine V.get (pc := 56) (v := .ref (a 1)) hC cf_X5 4 0 fl_X5_27 (by decide) gx_4 rfl dX5_firstIn_56 ?_
            refine V.get (pc := 59) (v := .int (σ 20 0)) hC cf_X3 1 10 fl_X5_44 (by decide) gx_1 rfl dX5_firstIn_59 ?_
            refine V.eqi (y := ρ 0) (hT.2.2.2.1.1) ?_
            refine V.iload (pc := 62) 4 hC dX5_firstIn_62 rfl ?_
            refine V.iadd (pc := 64) hC dX5_firstIn_64 ?_
            refine V.callV0 (pc := 65) (as := [.int (nI p), .int ((ρ 0) + (nI i))]) hC (c_X5_lookAt σ (va_up (va_up (va_up (va_up (va_up ν 75 f2_0) 77 f2_1) 31 g31) 74 g74) 76 g76) ρ p ((ρ 0) + (nI i)) hT hI hp hu2_0 (isN.mk (nadd hI.on0 rfl) (by omega) (by omega))) mu_X5_lookAt ml_X5_48 (by decide) ⟨4, 5, TX5, 6, _, rfl, gx_4⟩ rfl (Nat.le_of_ble_eq_true rfl) dX5_firstIn_65 ?_
            rintro _ ⟨f65_0, f65_1, f65_2⟩ ⟨rfl, hu65_0⟩
            have hu65_0 : NR ρ ((ρ 0) + (nI i)) (leapsS ρ p ((ρ 0) + (nI i))) (nN (ρ 2)) f65_2 := hu65_0
            show V X (wX k g a σ (va_up (va_up (va_up (va_up (va_up ν 75 f2_0) 77 f2_1) 31 f65_0) 74 f65_1) 76 f65_2)) [(3, .int s), (0, .ref (a 4)), (1, .int (nI p)), (2, .int (nI h)), (4, .int (nI i))] [] 68
            refine V.aload_n (pc := 68) 1 hC dX5_firstIn_68 rfl ?_
            refine V.iload_n (pc := 69) 0 hC dX5_firstIn_69 rfl ?_
            refine V.callV0 (pc := 70) (as := [.int s]) hC (c_X5_step σ (va_up (va_up (va_up (va_up (va_up ν 75 f2_0) 77 f2_1) 31 f65_0) 74 f65_1) 76 f65_2) ρ p s (ρ 0 + nI i) hT hI hp hu2_1 hu65_0 (isN.mk (nadd hI.on0 rfl) (by omega) (by omega))) mu_X5_step ml_X5_52 (by decide) ⟨4, 5, TX5, 6, _, rfl, gx_4⟩ rfl (Nat.le_of_ble_eq_true rfl) dX5_firstIn_70 ?_
            rintro _ _ rfl
            show V X (wX k g a σ (va_up (va_up (va_up (va_up (va_up ν 75 f2_0) 77 f2_1) 31 f65_0) 74 f65_1) 76 f65_2)) [(3, .int s), (0, .ref (a 4)), (1, .int (nI p)), (2, .int (nI h)), (4, .int (nI i))] [.int (onwardS ρ p s (ρ 0 + nI i))] 73
            refine V.istore_n (pc := 73) [(3, .int (onwardS ρ p s (ρ 0 + nI i))), (0, .ref (a 4)), (1, .int (nI p)), (2, .int (nI h)), (4, .int (nI i))] hC dX5_firstIn_73 (by decide) rfl ?_
            refine V.iinc (pc := 74) 4 (nI (i + 1)) [(4, .int (nI (i + 1))), (3, .int (onwardS ρ p s (ρ 0 + nI i))), (0, .ref (a 4)), (1, .int (nI p)), (2, .int (nI h))] hC dX5_firstIn_74 rfl (ncast (nadd rfl (nl 1)) (by omega)) (by decide) rfl ?_
            refine V.goto (pc := 77) 34 hC dX5_firstIn_77 (by decide) ?_
            exact V.sub [1, 2, 3, 4, 0] rfl (ih (i + 1) _ f65_0 f65_1 f65_2 (by omega) (hv.trans (by rw [sooS, if_pos (Decidable.not_not.mp c_47)])))
          · refine V.iload (pc := 50) 4 hC dX5_firstIn_50 rfl ?_
            exact hR (nI i) (g31, g74, f2_0, g76, f2_1) _ _ dX5_firstIn_52 rfl (ri (by rw [show sooV ρ p (nI h) = i from hv.trans (if_neg c_47), if_neg (by omega)]))
    exact V.sub [1, 2, 3, 4, 0] rfl (loop_34 721 0 _ (ν 31) (ν 74) (ν 76) (by omega) rfl)
  · refine V.iconst (pc := 29) (-1) hC dX5_firstIn_29 (by decide) ?_
    exact hR (-1) (ν 31, ν 74, f2_0, ν 76, f2_1) _ _ dX5_firstIn_30 rfl (ri (by rw [show sooV ρ p (nI h) = 721 from (soo_out hI hu2_1 hu19_0 (by omega) (fun z => c_26 (fun y => (bit_ne (by omega)).mpr z y)) 721 0 _ hu19_1).trans (by omega), if_pos (by omega)]))
set_option maxHeartbeats 4000000 in
set_option maxRecDepth 100000 in
theorem c_J6_bitCount_0f7a4 {l : Launch} {D : va_G} {k : Nat → ClassId} {g : Nat → Nat} (c : Nat) (hc : c < 256) : Ct l D k g yJ6_bitCount_0f7a4 cJ6_bitCount_0f7a4 1 (some .int) 0 0 [.int (nI c)] (S := Unit) ([]) (fun _ => []) (fun vv _ => vv = some (.int (nI (pc8 c)))) := by
  refine Ct.ofI RJ6 rfl (by decide +kernel) (Nat.le_of_ble_eq_true rfl) (fun X hC hR => ?_)
  show V X ([]) [(0, .int (nI c))] [] 0
  refine V.iload_n (pc := 0) 0 hC dJ6_bitCount_0f7a4_0 rfl ?_
  refine V.iload_n (pc := 1) 0 hC dJ6_bitCount_0f7a4_1 rfl ?_
  refine V.iconst (pc := 2) 1 hC dJ6_bitCount_0f7a4_2 (by decide) ?_
  refine V.iushr (pc := 3) hC dJ6_bitCount_0f7a4_3 ?_
  refine V.ldcw (pc := 4) (v := 1431655765) hC cn_J6_265 dJ6_bitCount_0f7a4_4 ?_
  refine V.iand (pc := 7) hC dJ6_bitCount_0f7a4_7 ?_
  refine V.isub (pc := 8) hC dJ6_bitCount_0f7a4_8 ?_
  refine V.istore_n (pc := 9) [(0, .int ((nI c) - ((((nI c).toUInt32 >>> ((1 : Int32).toUInt32 &&& Int32.toUInt32 31)).toInt32) &&& 1431655765)))] hC dJ6_bitCount_0f7a4_9 (by decide) rfl ?_
  refine V.iload_n (pc := 10) 0 hC dJ6_bitCount_0f7a4_10 rfl ?_
  refine V.ldcw (pc := 11) (v := 858993459) hC cn_J6_266 dJ6_bitCount_0f7a4_11 ?_
  refine V.iand (pc := 14) hC dJ6_bitCount_0f7a4_14 ?_
  refine V.iload_n (pc := 15) 0 hC dJ6_bitCount_0f7a4_15 rfl ?_
  refine V.iconst (pc := 16) 2 hC dJ6_bitCount_0f7a4_16 (by decide) ?_
  refine V.iushr (pc := 17) hC dJ6_bitCount_0f7a4_17 ?_
  refine V.ldcw (pc := 18) (v := 858993459) hC cn_J6_266 dJ6_bitCount_0f7a4_18 ?_
  refine V.iand (pc := 21) hC dJ6_bitCount_0f7a4_21 ?_
  refine V.iadd (pc := 22) hC dJ6_bitCount_0f7a4_22 ?_
  refine V.istore_n (pc := 23) [(0, .int ((((nI c) - ((((nI c).toUInt32 >>> ((1 : Int32).toUInt32 &&& Int32.toUInt32 31)).toInt32) &&& 1431655765)) &&& 858993459) + (((((nI c) - ((((nI c).toUInt32 >>> ((1 : Int32).toUInt32 &&& Int32.toUInt32 31)).toInt32) &&& 1431655765)).toUInt32 >>> ((2 : Int32).toUInt32 &&& Int32.toUInt32 31)).toInt32) &&& 858993459)))] hC dJ6_bitCount_0f7a4_23 (by decide) rfl ?_
  refine V.iload_n (pc := 24) 0 hC dJ6_bitCount_0f7a4_24 rfl ?_
  refine V.iload_n (pc := 25) 0 hC dJ6_bitCount_0f7a4_25 rfl ?_
  refine V.iconst (pc := 26) 4 hC dJ6_bitCount_0f7a4_26 (by decide) ?_
  refine V.iushr (pc := 27) hC dJ6_bitCount_0f7a4_27 ?_
  refine V.iadd (pc := 28) hC dJ6_bitCount_0f7a4_28 ?_
  refine V.ldcw (pc := 29) (v := 252645135) hC cn_J6_267 dJ6_bitCount_0f7a4_29 ?_
  refine V.iand (pc := 32) hC dJ6_bitCount_0f7a4_32 ?_
  refine V.istore_n (pc := 33) [(0, .int ((((((nI c) - ((((nI c).toUInt32 >>> ((1 : Int32).toUInt32 &&& Int32.toUInt32 31)).toInt32) &&& 1431655765)) &&& 858993459) + (((((nI c) - ((((nI c).toUInt32 >>> ((1 : Int32).toUInt32 &&& Int32.toUInt32 31)).toInt32) &&& 1431655765)).toUInt32 >>> ((2 : Int32).toUInt32 &&& Int32.toUInt32 31)).toInt32) &&& 858993459)) + ((((((nI c) - ((((nI c).toUInt32 >>> ((1 : Int32).toUInt32 &&& Int32.toUInt32 31)).toInt32) &&& 1431655765)) &&& 858993459) + (((((nI c) - ((((nI c).toUInt32 >>> ((1 : Int32).toUInt32 &&& Int32.toUInt32 31)).toInt32) &&& 1431655765)).toUInt32 >>> ((2 : Int32).toUInt32 &&& Int32.toUInt32 31)).toInt32) &&& 858993459)).toUInt32 >>> ((4 : Int32).toUInt32 &&& Int32.toUInt32 31)).toInt32)) &&& 252645135))] hC dJ6_bitCount_0f7a4_33 (by decide) rfl ?_
  refine V.iload_n (pc := 34) 0 hC dJ6_bitCount_0f7a4_34 rfl ?_
  refine V.iload_n (pc := 35) 0 hC dJ6_bitCount_0f7a4_35 rfl ?_
  refine V.bipush (pc := 36) 8 hC dJ6_bitCount_0f7a4_36 (by decide) ?_
  refine V.iushr (pc := 38) hC dJ6_bitCount_0f7a4_38 ?_
  refine V.iadd (pc := 39) hC dJ6_bitCount_0f7a4_39 ?_
  refine V.istore_n (pc := 40) [(0, .int (((((((nI c) - ((((nI c).toUInt32 >>> ((1 : Int32).toUInt32 &&& Int32.toUInt32 31)).toInt32) &&& 1431655765)) &&& 858993459) + (((((nI c) - ((((nI c).toUInt32 >>> ((1 : Int32).toUInt32 &&& Int32.toUInt32 31)).toInt32) &&& 1431655765)).toUInt32 >>> ((2 : Int32).toUInt32 &&& Int32.toUInt32 31)).toInt32) &&& 858993459)) + ((((((nI c) - ((((nI c).toUInt32 >>> ((1 : Int32).toUInt32 &&& Int32.toUInt32 31)).toInt32) &&& 1431655765)) &&& 858993459) + (((((nI c) - ((((nI c).toUInt32 >>> ((1 : Int32).toUInt32 &&& Int32.toUInt32 31)).toInt32) &&& 1431655765)).toUInt32 >>> ((2 : Int32).toUInt32 &&& Int32.toUInt32 31)).toInt32) &&& 858993459)).toUInt32 >>> ((4 : Int32).toUInt32 &&& Int32.toUInt32 31)).toInt32)) &&& 252645135) + ((((((((nI c) - ((((nI c).toUInt32 >>> ((1 : Int32).toUInt32 &&& Int32.toUInt32 31)).toInt32) &&& 1431655765)) &&& 858993459) + (((((nI c) - ((((nI c).toUInt32 >>> ((1 : Int32).toUInt32 &&& Int32.toUInt32 31)).toInt32) &&& 1431655765)).toUInt32 >>> ((2 : Int32).toUInt32 &&& Int32.toUInt32 31)).toInt32) &&& 858993459)) + ((((((nI c) - ((((nI c).toUInt32 >>> ((1 : Int32).toUInt32 &&& Int32.toUInt32 31)).toInt32) &&& 1431655765)) &&& 858993459) + (((((nI c) - ((((nI c).toUInt32 >>> ((1 : Int32).toUInt32 &&& Int32.toUInt32 31)).toInt32) &&& 1431655765)).toUInt32 >>> ((2 : Int32).toUInt32 &&& Int32.toUInt32 31)).toInt32) &&& 858993459)).toUInt32 >>> ((4 : Int32).toUInt32 &&& Int32.toUInt32 31)).toInt32)) &&& 252645135).toUInt32 >>> ((8 : Int32).toUInt32 &&& Int32.toUInt32 31)).toInt32)))] hC dJ6_bitCount_0f7a4_40 (by decide) rfl ?_
  refine V.iload_n (pc := 41) 0 hC dJ6_bitCount_0f7a4_41 rfl ?_
  refine V.iload_n (pc := 42) 0 hC dJ6_bitCount_0f7a4_42 rfl ?_
  refine V.bipush (pc := 43) 16 hC dJ6_bitCount_0f7a4_43 (by decide) ?_
  refine V.iushr (pc := 45) hC dJ6_bitCount_0f7a4_45 ?_
  refine V.iadd (pc := 46) hC dJ6_bitCount_0f7a4_46 ?_
  refine V.istore_n (pc := 47) [(0, .int ((((((((nI c) - ((((nI c).toUInt32 >>> ((1 : Int32).toUInt32 &&& Int32.toUInt32 31)).toInt32) &&& 1431655765)) &&& 858993459) + (((((nI c) - ((((nI c).toUInt32 >>> ((1 : Int32).toUInt32 &&& Int32.toUInt32 31)).toInt32) &&& 1431655765)).toUInt32 >>> ((2 : Int32).toUInt32 &&& Int32.toUInt32 31)).toInt32) &&& 858993459)) + ((((((nI c) - ((((nI c).toUInt32 >>> ((1 : Int32).toUInt32 &&& Int32.toUInt32 31)).toInt32) &&& 1431655765)) &&& 858993459) + (((((nI c) - ((((nI c).toUInt32 >>> ((1 : Int32).toUInt32 &&& Int32.toUInt32 31)).toInt32) &&& 1431655765)).toUInt32 >>> ((2 : Int32).toUInt32 &&& Int32.toUInt32 31)).toInt32) &&& 858993459)).toUInt32 >>> ((4 : Int32).toUInt32 &&& Int32.toUInt32 31)).toInt32)) &&& 252645135) + ((((((((nI c) - ((((nI c).toUInt32 >>> ((1 : Int32).toUInt32 &&& Int32.toUInt32 31)).toInt32) &&& 1431655765)) &&& 858993459) + (((((nI c) - ((((nI c).toUInt32 >>> ((1 : Int32).toUInt32 &&& Int32.toUInt32 31)).toInt32) &&& 1431655765)).toUInt32 >>> ((2 : Int32).toUInt32 &&& Int32.toUInt32 31)).toInt32) &&& 858993459)) + ((((((nI c) - ((((nI c).toUInt32 >>> ((1 : Int32).toUInt32 &&& Int32.toUInt32 31)).toInt32) &&& 1431655765)) &&& 858993459) + (((((nI c) - ((((nI c).toUInt32 >>> ((1 : Int32).toUInt32 &&& Int32.toUInt32 31)).toInt32) &&& 1431655765)).toUInt32 >>> ((2 : Int32).toUInt32 &&& Int32.toUInt32 31)).toInt32) &&& 858993459)).toUInt32 >>> ((4 : Int32).toUInt32 &&& Int32.toUInt32 31)).toInt32)) &&& 252645135).toUInt32 >>> ((8 : Int32).toUInt32 &&& Int32.toUInt32 31)).toInt32)) + (((((((((nI c) - ((((nI c).toUInt32 >>> ((1 : Int32).toUInt32 &&& Int32.toUInt32 31)).toInt32) &&& 1431655765)) &&& 858993459) + (((((nI c) - ((((nI c).toUInt32 >>> ((1 : Int32).toUInt32 &&& Int32.toUInt32 31)).toInt32) &&& 1431655765)).toUInt32 >>> ((2 : Int32).toUInt32 &&& Int32.toUInt32 31)).toInt32) &&& 858993459)) + ((((((nI c) - ((((nI c).toUInt32 >>> ((1 : Int32).toUInt32 &&& Int32.toUInt32 31)).toInt32) &&& 1431655765)) &&& 858993459) + (((((nI c) - ((((nI c).toUInt32 >>> ((1 : Int32).toUInt32 &&& Int32.toUInt32 31)).toInt32) &&& 1431655765)).toUInt32 >>> ((2 : Int32).toUInt32 &&& Int32.toUInt32 31)).toInt32) &&& 858993459)).toUInt32 >>> ((4 : Int32).toUInt32 &&& Int32.toUInt32 31)).toInt32)) &&& 252645135) + ((((((((nI c) - ((((nI c).toUInt32 >>> ((1 : Int32).toUInt32 &&& Int32.toUInt32 31)).toInt32) &&& 1431655765)) &&& 858993459) + (((((nI c) - ((((nI c).toUInt32 >>> ((1 : Int32).toUInt32 &&& Int32.toUInt32 31)).toInt32) &&& 1431655765)).toUInt32 >>> ((2 : Int32).toUInt32 &&& Int32.toUInt32 31)).toInt32) &&& 858993459)) + ((((((nI c) - ((((nI c).toUInt32 >>> ((1 : Int32).toUInt32 &&& Int32.toUInt32 31)).toInt32) &&& 1431655765)) &&& 858993459) + (((((nI c) - ((((nI c).toUInt32 >>> ((1 : Int32).toUInt32 &&& Int32.toUInt32 31)).toInt32) &&& 1431655765)).toUInt32 >>> ((2 : Int32).toUInt32 &&& Int32.toUInt32 31)).toInt32) &&& 858993459)).toUInt32 >>> ((4 : Int32).toUInt32 &&& Int32.toUInt32 31)).toInt32)) &&& 252645135).toUInt32 >>> ((8 : Int32).toUInt32 &&& Int32.toUInt32 31)).toInt32)).toUInt32 >>> ((16 : Int32).toUInt32 &&& Int32.toUInt32 31)).toInt32)))] hC dJ6_bitCount_0f7a4_47 (by decide) rfl ?_
  refine V.iload_n (pc := 48) 0 hC dJ6_bitCount_0f7a4_48 rfl ?_
  refine V.bipush (pc := 49) 63 hC dJ6_bitCount_0f7a4_49 (by decide) ?_
  refine V.iand (pc := 51) hC dJ6_bitCount_0f7a4_51 ?_
  exact hR (((((((((nI c) - ((((nI c).toUInt32 >>> ((1 : Int32).toUInt32 &&& Int32.toUInt32 31)).toInt32) &&& 1431655765)) &&& 858993459) + (((((nI c) - ((((nI c).toUInt32 >>> ((1 : Int32).toUInt32 &&& Int32.toUInt32 31)).toInt32) &&& 1431655765)).toUInt32 >>> ((2 : Int32).toUInt32 &&& Int32.toUInt32 31)).toInt32) &&& 858993459)) + ((((((nI c) - ((((nI c).toUInt32 >>> ((1 : Int32).toUInt32 &&& Int32.toUInt32 31)).toInt32) &&& 1431655765)) &&& 858993459) + (((((nI c) - ((((nI c).toUInt32 >>> ((1 : Int32).toUInt32 &&& Int32.toUInt32 31)).toInt32) &&& 1431655765)).toUInt32 >>> ((2 : Int32).toUInt32 &&& Int32.toUInt32 31)).toInt32) &&& 858993459)).toUInt32 >>> ((4 : Int32).toUInt32 &&& Int32.toUInt32 31)).toInt32)) &&& 252645135) + ((((((((nI c) - ((((nI c).toUInt32 >>> ((1 : Int32).toUInt32 &&& Int32.toUInt32 31)).toInt32) &&& 1431655765)) &&& 858993459) + (((((nI c) - ((((nI c).toUInt32 >>> ((1 : Int32).toUInt32 &&& Int32.toUInt32 31)).toInt32) &&& 1431655765)).toUInt32 >>> ((2 : Int32).toUInt32 &&& Int32.toUInt32 31)).toInt32) &&& 858993459)) + ((((((nI c) - ((((nI c).toUInt32 >>> ((1 : Int32).toUInt32 &&& Int32.toUInt32 31)).toInt32) &&& 1431655765)) &&& 858993459) + (((((nI c) - ((((nI c).toUInt32 >>> ((1 : Int32).toUInt32 &&& Int32.toUInt32 31)).toInt32) &&& 1431655765)).toUInt32 >>> ((2 : Int32).toUInt32 &&& Int32.toUInt32 31)).toInt32) &&& 858993459)).toUInt32 >>> ((4 : Int32).toUInt32 &&& Int32.toUInt32 31)).toInt32)) &&& 252645135).toUInt32 >>> ((8 : Int32).toUInt32 &&& Int32.toUInt32 31)).toInt32)) + (((((((((nI c) - ((((nI c).toUInt32 >>> ((1 : Int32).toUInt32 &&& Int32.toUInt32 31)).toInt32) &&& 1431655765)) &&& 858993459) + (((((nI c) - ((((nI c).toUInt32 >>> ((1 : Int32).toUInt32 &&& Int32.toUInt32 31)).toInt32) &&& 1431655765)).toUInt32 >>> ((2 : Int32).toUInt32 &&& Int32.toUInt32 31)).toInt32) &&& 858993459)) + ((((((nI c) - ((((nI c).toUInt32 >>> ((1 : Int32).toUInt32 &&& Int32.toUInt32 31)).toInt32) &&& 1431655765)) &&& 858993459) + (((((nI c) - ((((nI c).toUInt32 >>> ((1 : Int32).toUInt32 &&& Int32.toUInt32 31)).toInt32) &&& 1431655765)).toUInt32 >>> ((2 : Int32).toUInt32 &&& Int32.toUInt32 31)).toInt32) &&& 858993459)).toUInt32 >>> ((4 : Int32).toUInt32 &&& Int32.toUInt32 31)).toInt32)) &&& 252645135) + ((((((((nI c) - ((((nI c).toUInt32 >>> ((1 : Int32).toUInt32 &&& Int32.toUInt32 31)).toInt32) &&& 1431655765)) &&& 858993459) + (((((nI c) - ((((nI c).toUInt32 >>> ((1 : Int32).toUInt32 &&& Int32.toUInt32 31)).toInt32) &&& 1431655765)).toUInt32 >>> ((2 : Int32).toUInt32 &&& Int32.toUInt32 31)).toInt32) &&& 858993459)) + ((((((nI c) - ((((nI c).toUInt32 >>> ((1 : Int32).toUInt32 &&& Int32.toUInt32 31)).toInt32) &&& 1431655765)) &&& 858993459) + (((((nI c) - ((((nI c).toUInt32 >>> ((1 : Int32).toUInt32 &&& Int32.toUInt32 31)).toInt32) &&& 1431655765)).toUInt32 >>> ((2 : Int32).toUInt32 &&& Int32.toUInt32 31)).toInt32) &&& 858993459)).toUInt32 >>> ((4 : Int32).toUInt32 &&& Int32.toUInt32 31)).toInt32)) &&& 252645135).toUInt32 >>> ((8 : Int32).toUInt32 &&& Int32.toUInt32 31)).toInt32)).toUInt32 >>> ((16 : Int32).toUInt32 &&& Int32.toUInt32 31)).toInt32)) &&& 63) () _ _ dJ6_bitCount_0f7a4_52 rfl (ri (by have h : ∀ c, c < 256 → (((((((((nI c) - ((((nI c).toUInt32 >>> ((1 : Int32).toUInt32 &&& Int32.toUInt32 31)).toInt32) &&& 1431655765)) &&& 858993459) + (((((nI c) - ((((nI c).toUInt32 >>> ((1 : Int32).toUInt32 &&& Int32.toUInt32 31)).toInt32) &&& 1431655765)).toUInt32 >>> ((2 : Int32).toUInt32 &&& Int32.toUInt32 31)).toInt32) &&& 858993459)) + ((((((nI c) - ((((nI c).toUInt32 >>> ((1 : Int32).toUInt32 &&& Int32.toUInt32 31)).toInt32) &&& 1431655765)) &&& 858993459) + (((((nI c) - ((((nI c).toUInt32 >>> ((1 : Int32).toUInt32 &&& Int32.toUInt32 31)).toInt32) &&& 1431655765)).toUInt32 >>> ((2 : Int32).toUInt32 &&& Int32.toUInt32 31)).toInt32) &&& 858993459)).toUInt32 >>> ((4 : Int32).toUInt32 &&& Int32.toUInt32 31)).toInt32)) &&& 252645135) + ((((((((nI c) - ((((nI c).toUInt32 >>> ((1 : Int32).toUInt32 &&& Int32.toUInt32 31)).toInt32) &&& 1431655765)) &&& 858993459) + (((((nI c) - ((((nI c).toUInt32 >>> ((1 : Int32).toUInt32 &&& Int32.toUInt32 31)).toInt32) &&& 1431655765)).toUInt32 >>> ((2 : Int32).toUInt32 &&& Int32.toUInt32 31)).toInt32) &&& 858993459)) + ((((((nI c) - ((((nI c).toUInt32 >>> ((1 : Int32).toUInt32 &&& Int32.toUInt32 31)).toInt32) &&& 1431655765)) &&& 858993459) + (((((nI c) - ((((nI c).toUInt32 >>> ((1 : Int32).toUInt32 &&& Int32.toUInt32 31)).toInt32) &&& 1431655765)).toUInt32 >>> ((2 : Int32).toUInt32 &&& Int32.toUInt32 31)).toInt32) &&& 858993459)).toUInt32 >>> ((4 : Int32).toUInt32 &&& Int32.toUInt32 31)).toInt32)) &&& 252645135).toUInt32 >>> ((8 : Int32).toUInt32 &&& Int32.toUInt32 31)).toInt32)) + (((((((((nI c) - ((((nI c).toUInt32 >>> ((1 : Int32).toUInt32 &&& Int32.toUInt32 31)).toInt32) &&& 1431655765)) &&& 858993459) + (((((nI c) - ((((nI c).toUInt32 >>> ((1 : Int32).toUInt32 &&& Int32.toUInt32 31)).toInt32) &&& 1431655765)).toUInt32 >>> ((2 : Int32).toUInt32 &&& Int32.toUInt32 31)).toInt32) &&& 858993459)) + ((((((nI c) - ((((nI c).toUInt32 >>> ((1 : Int32).toUInt32 &&& Int32.toUInt32 31)).toInt32) &&& 1431655765)) &&& 858993459) + (((((nI c) - ((((nI c).toUInt32 >>> ((1 : Int32).toUInt32 &&& Int32.toUInt32 31)).toInt32) &&& 1431655765)).toUInt32 >>> ((2 : Int32).toUInt32 &&& Int32.toUInt32 31)).toInt32) &&& 858993459)).toUInt32 >>> ((4 : Int32).toUInt32 &&& Int32.toUInt32 31)).toInt32)) &&& 252645135) + ((((((((nI c) - ((((nI c).toUInt32 >>> ((1 : Int32).toUInt32 &&& Int32.toUInt32 31)).toInt32) &&& 1431655765)) &&& 858993459) + (((((nI c) - ((((nI c).toUInt32 >>> ((1 : Int32).toUInt32 &&& Int32.toUInt32 31)).toInt32) &&& 1431655765)).toUInt32 >>> ((2 : Int32).toUInt32 &&& Int32.toUInt32 31)).toInt32) &&& 858993459)) + ((((((nI c) - ((((nI c).toUInt32 >>> ((1 : Int32).toUInt32 &&& Int32.toUInt32 31)).toInt32) &&& 1431655765)) &&& 858993459) + (((((nI c) - ((((nI c).toUInt32 >>> ((1 : Int32).toUInt32 &&& Int32.toUInt32 31)).toInt32) &&& 1431655765)).toUInt32 >>> ((2 : Int32).toUInt32 &&& Int32.toUInt32 31)).toInt32) &&& 858993459)).toUInt32 >>> ((4 : Int32).toUInt32 &&& Int32.toUInt32 31)).toInt32)) &&& 252645135).toUInt32 >>> ((8 : Int32).toUInt32 &&& Int32.toUInt32 31)).toInt32)).toUInt32 >>> ((16 : Int32).toUInt32 &&& Int32.toUInt32 31)).toInt32)) &&& 63) = nI (pc8 c) := by { decide +kernel }; exact h c hc))
set_option maxHeartbeats 4000000 in
set_option maxRecDepth 100000 in
theorem c_X5_keepsOut {l : Launch} {D : va_G} {k : Nat → ClassId} {g a : Nat → Nat} (σ ν : St) (ρ : Rw) (p h m : Nat) (shut start goal : Int32) (hT : RT σ ρ) (hI : Inv ρ) (hh : h < nN (ρ 3)) (hm : m ≤ 60) (h0 : start = b1 (ρ (33 + 3 * p))) (hg : goal = b1 (nI h)) : Ct l D k g yX5_keepsOut cX5_keepsOut 9 (some .boolean) 1 21 [.ref (a 4), .int shut, .int start, .int goal, .int (nI m)] (S := Unit) (wX k g a σ ν) (fun _ => wX k g a σ ν) (fun vv _ => vv = some (.int (bI (bitS (roomsButS ρ (ν 78) p m shut) (nI h) = 0)))) := by
  refine Ct.ofI RX5 rfl (by decide +kernel) (Nat.le_of_ble_eq_true rfl) (fun X hC hR => ?_)
  have hb4 := hI.hb; have hb8 := hI.mb; have hb6 := hI.pb; have hbm := hI.ob0; have hbt := hI.bb; have hbw := hI.wb
  show V X (wX k g a σ ν) [(0, .ref (a 4)), (1, .int shut), (2, .int start), (3, .int goal), (4, .int (nI m))] [] 0
  refine V.iload_n (pc := 0) 2 hC dX5_keepsOut_0 rfl ?_
  refine V.istore (pc := 1) [(5, .int start), (0, .ref (a 4)), (1, .int shut), (2, .int start), (3, .int goal), (4, .int (nI m))] hC dX5_keepsOut_1 (by decide) rfl ?_
  refine V.iconst (pc := 3) 0 hC dX5_keepsOut_3 (by decide) ?_
  refine V.istore (pc := 4) [(6, .int 0), (5, .int start), (0, .ref (a 4)), (1, .int shut), (2, .int start), (3, .int goal), (4, .int (nI m))] hC dX5_keepsOut_4 (by decide) rfl ?_
  have loop_6 : ∀ (n : Nat) (i : Nat) (s : Int32), i + n = m → roomsButS ρ (ν 78) p m shut = run (fun i s => run (butF ρ (ν 78) i shut s) (nN (ρ 3)) 0 s) n i s → V X (wX k g a σ ν) [(0, .ref (a 4)), (1, .int shut), (3, .int goal), (4, .int (nI m)), (5, .int s), (6, .int (nI i))] [] 6 := by
    intro n
    induction n with
    | zero =>
      intro i s hi hv
      refine V.iload (pc := 6) 5 hC dX5_keepsOut_6 rfl ?_
      refine V.iload (pc := 8) 3 hC dX5_keepsOut_8 rfl ?_
      refine V.icmp_ge (pc := 10) 87 hC dX5_keepsOut_10 (by decide) (fun c_10 => ?_) (fun c_10 => ?_)
      · have nc_10 : m ≤ i := (nle rfl rfl (by omega) (by omega)).mp c_10
        refine V.iload (pc := 87) 4 hC dX5_keepsOut_87 rfl ?_
        refine V.iload_n (pc := 89) 2 hC dX5_keepsOut_89 rfl ?_
        refine V.iand (pc := 90) hC dX5_keepsOut_90 ?_
        refine V.if_ne (pc := 91) 98 hC dX5_keepsOut_91 (by decide) (fun c_91 => ?_) (fun c_91 => ?_)
        · refine V.iconst (pc := 98) 0 hC dX5_keepsOut_98 (by decide) ?_
          exact hR 0 () _ _ dX5_keepsOut_99 (by first | rfl | exact bI_n _) (rb0 (by rw [show roomsButS ρ (ν 78) p m shut = s from hv, ← b1_and (by omega), ← hg]; exact c_91))
        · refine V.iconst (pc := 94) 1 hC dX5_keepsOut_94 (by decide) ?_
          refine V.goto (pc := 95) 99 hC dX5_keepsOut_95 (by decide) ?_
          exact hR 1 () _ _ dX5_keepsOut_99 (by first | rfl | exact bI_n _) (rb1 (by rw [show roomsButS ρ (ν 78) p m shut = s from hv, ← b1_and (by omega), ← hg]; exact c_91))
      · have nc_10 : ¬ (m ≤ i) := fun z => c_10 ((nle rfl rfl (by omega) (by omega)).mpr z)
        exfalso; omega
    | succ n ih =>
      intro i s hi hv
      refine V.iload (pc := 6) 5 hC dX5_keepsOut_6 rfl ?_
      refine V.iload (pc := 8) 3 hC dX5_keepsOut_8 rfl ?_
      refine V.icmp_ge (pc := 10) 87 hC dX5_keepsOut_10 (by decide) (fun c_10 => ?_) (fun c_10 => ?_)
      · have nc_10 : m ≤ i := (nle rfl rfl (by omega) (by omega)).mp c_10
        exfalso; omega
      · have nc_10 : ¬ (m ≤ i) := fun z => c_10 ((nle rfl rfl (by omega) (by omega)).mpr z)
        refine V.iload (pc := 13) 4 hC dX5_keepsOut_13 rfl ?_
        refine V.iload_n (pc := 15) 2 hC dX5_keepsOut_15 rfl ?_
        refine V.iand (pc := 16) hC dX5_keepsOut_16 ?_
        refine V.if_ne (pc := 17) 87 hC dX5_keepsOut_17 (by decide) (fun c_17 => ?_) (fun c_17 => ?_)
        · refine V.iload (pc := 87) 4 hC dX5_keepsOut_87 rfl ?_
          refine V.iload_n (pc := 89) 2 hC dX5_keepsOut_89 rfl ?_
          refine V.iand (pc := 90) hC dX5_keepsOut_90 ?_
          refine V.if_ne (pc := 91) 98 hC dX5_keepsOut_91 (by decide) (fun c_91 => ?_) (fun c_91 => ?_)
          · refine V.iconst (pc := 98) 0 hC dX5_keepsOut_98 (by decide) ?_
            exact hR 0 () _ _ dX5_keepsOut_99 (by first | rfl | exact bI_n _) (rb0 (by rw [hv]; exact (bit_ne (by omega)).mpr (but_mono _ _ _ ((bit_ne (by omega)).mp (fun z => c_17 (by rw [hg]; exact (b1_and (by omega)).mpr z))))))
          · exact absurd c_91 c_17
        · refine V.iload (pc := 20) 4 hC dX5_keepsOut_20 rfl ?_
          refine V.istore (pc := 22) [(7, .int s), (0, .ref (a 4)), (1, .int shut), (3, .int goal), (4, .int (nI m)), (5, .int s), (6, .int (nI i))] hC dX5_keepsOut_22 (by decide) rfl ?_
          refine V.iconst (pc := 24) 0 hC dX5_keepsOut_24 (by decide) ?_
          refine V.istore (pc := 25) [(8, .int 0), (7, .int s), (0, .ref (a 4)), (1, .int shut), (3, .int goal), (4, .int (nI m)), (5, .int s), (6, .int (nI i))] hC dX5_keepsOut_25 (by decide) rfl ?_
          have loop_27 : ∀ (n : Nat) (j : Nat) (r : Int32), j + n = nN (ρ 3) → run (butF ρ (ν 78) i shut s) (nN (ρ 3)) 0 s = run (butF ρ (ν 78) i shut s) n j r → V X (wX k g a σ ν) [(0, .ref (a 4)), (1, .int shut), (3, .int goal), (4, .int (nI m)), (5, .int s), (6, .int (nI i)), (7, .int r), (8, .int (nI j))] [] 27 := by
            intro n
            induction n with
            | zero =>
              intro j r hj hw
              refine V.iload (pc := 27) 7 hC dX5_keepsOut_27 rfl ?_
              refine V.aload_n (pc := 29) 0 hC dX5_keepsOut_29 rfl ?_
              refine V.get (pc := 30) (v := .ref (a 1)) hC cf_X5 4 0 fl_X5_27 (by decide) gx_4 rfl dX5_keepsOut_30 ?_
              refine V.get (pc := 33) (v := .int (σ 13 0)) hC cf_X3 1 3 fl_X5_59 (by decide) gx_1 rfl dX5_keepsOut_33 ?_
              refine V.eqi (y := ρ 3) (hT.2.1.1) ?_
              refine V.icmp_ge (pc := 36) 77 hC dX5_keepsOut_36 (by decide) (fun c_36 => ?_) (fun c_36 => ?_)
              · have nc_36 : nN (ρ 3) ≤ j := (nle hI.mn rfl (by omega) (by omega)).mp c_36
                refine V.iload (pc := 77) 6 hC dX5_keepsOut_77 rfl ?_
                refine V.istore (pc := 79) [(5, .int r), (0, .ref (a 4)), (1, .int shut), (3, .int goal), (4, .int (nI m)), (6, .int (nI i)), (7, .int r), (8, .int (nI j))] hC dX5_keepsOut_79 (by decide) rfl ?_
                refine V.iinc (pc := 81) 5 (nI (i + 1)) [(6, .int (nI (i + 1))), (5, .int r), (0, .ref (a 4)), (1, .int shut), (3, .int goal), (4, .int (nI m)), (7, .int r), (8, .int (nI j))] hC dX5_keepsOut_81 rfl (ncast (nadd rfl (nl 1)) (by omega)) (by decide) rfl ?_
                refine V.goto (pc := 84) 6 hC dX5_keepsOut_84 (by decide) ?_
                exact V.sub [2, 3, 4, 5, 1, 0] rfl (ih (i + 1) r (by omega) (run_next hv hw))
              · have nc_36 : ¬ (nN (ρ 3) ≤ j) := fun z => c_36 ((nle hI.mn rfl (by omega) (by omega)).mpr z)
                exfalso; omega
            | succ n ih =>
              intro j r hj hw
              refine V.iload (pc := 27) 7 hC dX5_keepsOut_27 rfl ?_
              refine V.aload_n (pc := 29) 0 hC dX5_keepsOut_29 rfl ?_
              refine V.get (pc := 30) (v := .ref (a 1)) hC cf_X5 4 0 fl_X5_27 (by decide) gx_4 rfl dX5_keepsOut_30 ?_
              refine V.get (pc := 33) (v := .int (σ 13 0)) hC cf_X3 1 3 fl_X5_59 (by decide) gx_1 rfl dX5_keepsOut_33 ?_
              refine V.eqi (y := ρ 3) (hT.2.1.1) ?_
              refine V.icmp_ge (pc := 36) 77 hC dX5_keepsOut_36 (by decide) (fun c_36 => ?_) (fun c_36 => ?_)
              · have nc_36 : nN (ρ 3) ≤ j := (nle hI.mn rfl (by omega) (by omega)).mp c_36
                exfalso; omega
              · have nc_36 : ¬ (nN (ρ 3) ≤ j) := fun z => c_36 ((nle hI.mn rfl (by omega) (by omega)).mpr z)
                refine V.iload (pc := 39) 4 hC dX5_keepsOut_39 rfl ?_
                refine V.iload (pc := 41) 7 hC dX5_keepsOut_41 rfl ?_
                refine V.callN0 (pc := 43) (as := [.int s, .int (nI j)]) hC (c_X6_isIn s (nI j) ) ms_X6_isIn (host := RX6) (by simp [nstW]) (by decide) rfl (Nat.le_of_ble_eq_true rfl) dX5_keepsOut_43 ?_
                rintro _ _ rfl
                show V X (wX k g a σ ν) [(0, .ref (a 4)), (1, .int shut), (3, .int goal), (4, .int (nI m)), (5, .int s), (6, .int (nI i)), (7, .int r), (8, .int (nI j))] [.int (bI (¬ bitS s (nI j) = 0))] 46
                refine V.if_eq_b (P := ¬ bitS s (nI j) = 0) (pc := 46) 71 hC dX5_keepsOut_46 (by decide) (fun c_46 => ?_) (fun c_46 => ?_)
                · refine V.iinc (pc := 71) 7 (nI (j + 1)) [(8, .int (nI (j + 1))), (0, .ref (a 4)), (1, .int shut), (3, .int goal), (4, .int (nI m)), (5, .int s), (6, .int (nI i)), (7, .int r)] hC dX5_keepsOut_71 rfl (ncast (nadd rfl (nl 1)) (by omega)) (by decide) rfl ?_
                  refine V.goto (pc := 74) 27 hC dX5_keepsOut_74 (by decide) ?_
                  exact V.sub [1, 2, 3, 4, 5, 6, 7, 0] rfl (ih (j + 1) r (by omega) (run_next hw (by unfold butF; rw [if_neg (fun z => c_46 (fun y => (bit_n (by omega)).mp y z)), or_self_0] <;> rfl)))
                · refine V.iload (pc := 49) 6 hC dX5_keepsOut_49 rfl ?_
                  refine V.aload_n (pc := 51) 0 hC dX5_keepsOut_51 rfl ?_
                  refine V.get (pc := 52) (v := .ref (a 78)) hC cf_X5 4 5 fl_X5_24 (by decide) gx_4 rfl dX5_keepsOut_52 ?_
                  refine V.iload (pc := 55) 5 hC dX5_keepsOut_55 rfl ?_
                  refine V.bipush (pc := 57) 8 hC dX5_keepsOut_57 (by decide) ?_
                  refine V.imul (pc := 59) hC dX5_keepsOut_59 ?_
                  refine V.iload (pc := 60) 7 hC dX5_keepsOut_60 rfl ?_
                  refine V.iadd (pc := 62) hC dX5_keepsOut_62 ?_
                  refine V.iald (pc := 63) (f := ν 78) hC 45 (8 * i + j) gx_45 (ncast (b := 8 * i + j) (nadd (nmul rfl (nl 8)) rfl) (by omega)) (by omega) (by decide) dX5_keepsOut_63 ?_
                  refine V.iload_n (pc := 64) 1 hC dX5_keepsOut_64 rfl ?_
                  refine V.iconst (pc := 65) (-1) hC dX5_keepsOut_65 (by decide) ?_
                  refine V.ixor (pc := 66) hC dX5_keepsOut_66 ?_
                  refine V.iand (pc := 67) hC dX5_keepsOut_67 ?_
                  refine V.ior (pc := 68) hC dX5_keepsOut_68 ?_
                  refine V.istore (pc := 69) [(7, .int (r ||| ((ν 78 (8 * i + j)) &&& (shut ^^^ (-1))))), (0, .ref (a 4)), (1, .int shut), (3, .int goal), (4, .int (nI m)), (5, .int s), (6, .int (nI i)), (8, .int (nI j))] hC dX5_keepsOut_69 (by decide) rfl ?_
                  refine V.iinc (pc := 71) 7 (nI (j + 1)) [(8, .int (nI (j + 1))), (7, .int (r ||| ((ν 78 (8 * i + j)) &&& (shut ^^^ (-1))))), (0, .ref (a 4)), (1, .int shut), (3, .int goal), (4, .int (nI m)), (5, .int s), (6, .int (nI i))] hC dX5_keepsOut_71 rfl (ncast (nadd rfl (nl 1)) (by omega)) (by decide) rfl ?_
                  refine V.goto (pc := 74) 27 hC dX5_keepsOut_74 (by decide) ?_
                  exact V.sub [2, 3, 4, 5, 6, 7, 1, 0] rfl (ih (j + 1) (r ||| ((ν 78 (8 * i + j)) &&& (shut ^^^ (-1)))) (by omega) (run_next hw (by unfold butF; rw [if_pos (Decidable.not_not.mp (fun z => c_46 ((bit_n (by omega)).mpr z)))] <;> rfl)))
          exact V.sub [2, 3, 4, 5, 6, 7, 1, 0] rfl (loop_27 (nN (ρ 3)) 0 s (by omega) rfl)
  exact V.sub [2, 3, 5, 6, 1, 0] rfl (loop_6 m 0 start (by omega) (by rw [h0]; rfl))
set_option maxHeartbeats 4000000 in
set_option maxRecDepth 100000 in
theorem c_X5_fewestShut {l : Launch} {D : va_G} {k : Nat → ClassId} {g a : Nat → Nat} (σ ν : St) (ρ : Rw) (p h m : Nat) (hT : RT σ ρ) (hI : Inv ρ) (hp : p < nN (ρ 4)) (hh : h < nN (ρ 3)) (hm : m ≤ 60) : Ct l D k g yX5_fewestShut cX5_fewestShut 10 (some .int) 5 122 [.ref (a 4), .int (nI p), .int (nI h), .int (nI m)] (S := Rw × Rw × Rw × Rw × Rw × Rw) (wX k g a σ ν) (fun uu => wX k g a σ (va_up (va_up (va_up (va_up (va_up (va_up ν 31 uu.1) 74 uu.2.1) 75 uu.2.2.1) 76 uu.2.2.2.1) 77 uu.2.2.2.2.1) 78 uu.2.2.2.2.2)) (fun vv uu => vv = some (.int (watS ρ p m (nI h)))) := by
  refine Ct.ofI RX5 rfl (by decide +kernel) (Nat.le_of_ble_eq_true rfl) (fun X hC hR => ?_)
  have hb4 := hI.hb; have hb8 := hI.mb; have hb6 := hI.pb; have hbm := hI.ob0; have hbt := hI.bb; have hbw := hI.wb
  have hab := hI.ab hp
  have hpow : 2 ^ nN (ρ 3) ≤ 256 := Nat.le_trans (Nat.pow_le_pow_right (by omega) hI.mb) (by decide)
  have orc : b1 (ρ (33 + 3 * p)) ||| b1 (nI h) = b1 (nI h) ||| b1 (ρ (33 + 3 * p)) := b_ext (fun j _ => by rw [b_or, b_or, Bool.or_comm])
  show V X (wX k g a σ ν) [(0, .ref (a 4)), (1, .int (nI p)), (2, .int (nI h)), (3, .int (nI m))] [] 0
  refine V.aload_n (pc := 0) 0 hC dX5_fewestShut_0 rfl ?_
  refine V.iload_n (pc := 1) 1 hC dX5_fewestShut_1 rfl ?_
  refine V.callV0 (pc := 2) (as := [.int (nI p)]) hC (c_X5_begin σ ν ρ p hT hI hp) mu_X5_begin ml_X5_31 (by decide) ⟨4, 5, TX5, 6, _, rfl, gx_4⟩ rfl (Nat.le_of_ble_eq_true rfl) dX5_fewestShut_2 ?_
  rintro _ ⟨f2_0, f2_1⟩ ⟨rfl, hu2_0, hu2_1⟩
  have hu2_0 : RD ρ f2_0 := hu2_0
  have hu2_1 : AL ρ p f2_1 := hu2_1
  show V X (wX k g a σ (va_up (va_up ν 75 f2_0) 77 f2_1)) [(0, .ref (a 4)), (1, .int (nI p)), (2, .int (nI h)), (3, .int (nI m))] [] 5
  refine V.iconst (pc := 5) 0 hC dX5_fewestShut_5 (by decide) ?_
  refine V.istore (pc := 6) [(4, .int 0), (0, .ref (a 4)), (1, .int (nI p)), (2, .int (nI h)), (3, .int (nI m))] hC dX5_fewestShut_6 (by decide) rfl ?_
  have loop_8 : ∀ (n : Nat) (i : Nat) (g31 g74 g76 f78 : Rw), i + n = m → (∀ i2 x2, i2 < i → x2 < nN (ρ 3) → f78 (8 * i2 + x2) = wayS ρ p x2 (ρ 0 + nI i2)) → V X (wX k g a σ (va_up (va_up (va_up (va_up (va_up (va_up ν 75 f2_0) 77 f2_1) 31 g31) 74 g74) 76 g76) 78 f78)) [(0, .ref (a 4)), (1, .int (nI p)), (2, .int (nI h)), (3, .int (nI m)), (4, .int (nI i))] [] 8 := by
    intro n
    induction n with
    | zero =>
      intro i g31 g74 g76 f78 hi hq
      refine V.iload (pc := 8) 4 hC dX5_fewestShut_8 rfl ?_
      refine V.iload_n (pc := 10) 3 hC dX5_fewestShut_10 rfl ?_
      refine V.icmp_ge (pc := 11) 75 hC dX5_fewestShut_11 (by decide) (fun c_11 => ?_) (fun c_11 => ?_)
      · have nc_11 : m ≤ i := (nle rfl rfl (by omega) (by omega)).mp c_11
        refine V.iconst (pc := 75) 1 hC dX5_fewestShut_75 (by decide) ?_
        refine V.aload_n (pc := 76) 0 hC dX5_fewestShut_76 rfl ?_
        refine V.get (pc := 77) (v := .ref (a 1)) hC cf_X5 4 0 fl_X5_27 (by decide) gx_4 rfl dX5_fewestShut_77 ?_
        refine V.get (pc := 80) (v := .ref (a 19)) hC cf_X3 1 9 fl_X5_35 (by decide) gx_1 rfl dX5_fewestShut_80 ?_
        refine V.iload_n (pc := 83) 1 hC dX5_fewestShut_83 rfl ?_
        refine V.iald (pc := 84) (f := σ 19) hC 14 p gx_14 rfl (by omega) (by decide) dX5_fewestShut_84 ?_
        refine V.eqi (y := ρ (33 + 3 * p)) (hT.2.2.1.2.2.2 p (by omega)) ?_
        refine V.ishl (pc := 85) hC dX5_fewestShut_85 ?_
        refine V.istore (pc := 86) [(4, .int (1 <<< ((ρ (33 + 3 * p)) &&& 31))), (0, .ref (a 4)), (1, .int (nI p)), (2, .int (nI h)), (3, .int (nI m))] hC dX5_fewestShut_86 (by decide) rfl ?_
        refine V.iconst (pc := 88) 1 hC dX5_fewestShut_88 (by decide) ?_
        refine V.iload_n (pc := 89) 3 hC dX5_fewestShut_89 rfl ?_
        refine V.ishl (pc := 90) hC dX5_fewestShut_90 ?_
        refine V.istore (pc := 91) [(5, .int (1 <<< ((nI h) &&& 31))), (4, .int (1 <<< ((ρ (33 + 3 * p)) &&& 31))), (0, .ref (a 4)), (1, .int (nI p)), (2, .int (nI h)), (3, .int (nI m))] hC dX5_fewestShut_91 (by decide) rfl ?_
        refine V.iconst (pc := 93) (-1) hC dX5_fewestShut_93 (by decide) ?_
        refine V.istore (pc := 94) [(6, .int (-1)), (5, .int (1 <<< ((nI h) &&& 31))), (4, .int (1 <<< ((ρ (33 + 3 * p)) &&& 31))), (0, .ref (a 4)), (1, .int (nI p)), (2, .int (nI h)), (3, .int (nI m))] hC dX5_fewestShut_94 (by decide) rfl ?_
        refine V.bipush (pc := 96) 9 hC dX5_fewestShut_96 (by decide) ?_
        refine V.istore (pc := 98) [(7, .int 9), (6, .int (-1)), (5, .int (1 <<< ((nI h) &&& 31))), (4, .int (1 <<< ((ρ (33 + 3 * p)) &&& 31))), (0, .ref (a 4)), (1, .int (nI p)), (2, .int (nI h)), (3, .int (nI m))] hC dX5_fewestShut_98 (by decide) rfl ?_
        refine V.iconst (pc := 100) 0 hC dX5_fewestShut_100 (by decide) ?_
        refine V.istore (pc := 101) [(8, .int 0), (7, .int 9), (6, .int (-1)), (5, .int (1 <<< ((nI h) &&& 31))), (4, .int (1 <<< ((ρ (33 + 3 * p)) &&& 31))), (0, .ref (a 4)), (1, .int (nI p)), (2, .int (nI h)), (3, .int (nI m))] hC dX5_fewestShut_101 (by decide) rfl ?_
        have loop_103 : ∀ (n : Nat) (i : Nat) (bs : Int32) (fw : Nat), i + n = 2 ^ nN (ρ 3) → bs = -1 ∨ (bs = nI (nN bs) ∧ nN bs < 256) → (fw = if bs < 0 then 9 else pc8 (nN bs)) → run (watF ρ p m (nI h) f78) (2 ^ nN (ρ 3)) 0 (-1) = run (watF ρ p m (nI h) f78) n i bs → V X (wX k g a σ (va_up (va_up (va_up (va_up (va_up (va_up ν 75 f2_0) 77 f2_1) 31 g31) 74 g74) 76 g76) 78 f78)) [(5, .int (1 <<< ((nI h) &&& 31))), (4, .int (1 <<< ((ρ (33 + 3 * p)) &&& 31))), (0, .ref (a 4)), (3, .int (nI m)), (6, .int bs), (7, .int (nI fw)), (8, .int (nI i))] [] 103 := by
          intro n
          induction n with
          | zero =>
            intro i bs fw hi hb hfw hv
            refine V.iload (pc := 103) 6 hC dX5_fewestShut_103 rfl ?_
            refine V.iconst (pc := 105) 1 hC dX5_fewestShut_105 (by decide) ?_
            refine V.aload_n (pc := 106) 2 hC dX5_fewestShut_106 rfl ?_
            refine V.get (pc := 107) (v := .ref (a 1)) hC cf_X5 4 0 fl_X5_27 (by decide) gx_4 rfl dX5_fewestShut_107 ?_
            refine V.get (pc := 110) (v := .int (σ 13 0)) hC cf_X3 1 3 fl_X5_59 (by decide) gx_1 rfl dX5_fewestShut_110 ?_
            refine V.eqi (y := ρ 3) (hT.2.1.1) ?_
            refine V.ishl (pc := 113) hC dX5_fewestShut_113 ?_
            refine V.eqi (y := nI (2 ^ nN (ρ 3))) (by rw [hI.mn, nN_nI (by omega)]; exact shl1 _ (by omega)) ?_
            refine V.icmp_ge (pc := 114) 170 hC dX5_fewestShut_114 (by decide) (fun c_114 => ?_) (fun c_114 => ?_)
            · have nc_114 : 2 ^ nN (ρ 3) ≤ i := (nle rfl rfl (by omega) (by omega)).mp c_114
              refine V.iload (pc := 170) 4 hC dX5_fewestShut_170 rfl ?_
              exact hR bs (g31, g74, f2_0, g76, f2_1, f78) _ _ dX5_fewestShut_172 rfl (ri (by rw [← show run (watF ρ p m (nI h) f78) (2 ^ nN (ρ 3)) 0 (-1) = bs from hv]; unfold watS; exact wat_c (fun i x h1 h2 => by rw [hq i x (by omega) h2, reW_v (by omega)])))
            · have nc_114 : ¬ (2 ^ nN (ρ 3) ≤ i) := fun z => c_114 ((nle rfl rfl (by omega) (by omega)).mpr z)
              exfalso; omega
          | succ n ih =>
            intro i bs fw hi hb hfw hv
            have hi256 : i < 256 := by omega
            have hp8 := pc8_b i
            have hfb : fw ≤ 9 := by rw [hfw]; split; omega; have := pc8_b (nN bs); omega
            refine V.iload (pc := 103) 6 hC dX5_fewestShut_103 rfl ?_
            refine V.iconst (pc := 105) 1 hC dX5_fewestShut_105 (by decide) ?_
            refine V.aload_n (pc := 106) 2 hC dX5_fewestShut_106 rfl ?_
            refine V.get (pc := 107) (v := .ref (a 1)) hC cf_X5 4 0 fl_X5_27 (by decide) gx_4 rfl dX5_fewestShut_107 ?_
            refine V.get (pc := 110) (v := .int (σ 13 0)) hC cf_X3 1 3 fl_X5_59 (by decide) gx_1 rfl dX5_fewestShut_110 ?_
            refine V.eqi (y := ρ 3) (hT.2.1.1) ?_
            refine V.ishl (pc := 113) hC dX5_fewestShut_113 ?_
            refine V.eqi (y := nI (2 ^ nN (ρ 3))) (by rw [hI.mn, nN_nI (by omega)]; exact shl1 _ (by omega)) ?_
            refine V.icmp_ge (pc := 114) 170 hC dX5_fewestShut_114 (by decide) (fun c_114 => ?_) (fun c_114 => ?_)
            · have nc_114 : 2 ^ nN (ρ 3) ≤ i := (nle rfl rfl (by omega) (by omega)).mp c_114
              exfalso; omega
            · have nc_114 : ¬ (2 ^ nN (ρ 3) ≤ i) := fun z => c_114 ((nle rfl rfl (by omega) (by omega)).mpr z)
              refine V.iload (pc := 117) 6 hC dX5_fewestShut_117 rfl ?_
              refine V.callS0 (pc := 119) (as := [.int (nI i)]) hC (c_J6_bitCount_0f7a4 i (by omega)) ms_J6_bitCount_0f7a4 ml_X5_65 (by decide) rfl (Nat.le_of_ble_eq_true rfl) dX5_fewestShut_119 ?_
              rintro _ _ rfl
              show V X (wX k g a σ (va_up (va_up (va_up (va_up (va_up (va_up ν 75 f2_0) 77 f2_1) 31 g31) 74 g74) 76 g76) 78 f78)) [(5, .int (1 <<< ((nI h) &&& 31))), (4, .int (1 <<< ((ρ (33 + 3 * p)) &&& 31))), (0, .ref (a 4)), (3, .int (nI m)), (6, .int bs), (7, .int (nI fw)), (8, .int (nI i))] [.int (nI (pc8 i))] 122
              refine V.istore (pc := 122) [(9, .int (nI (pc8 i))), (5, .int (1 <<< ((nI h) &&& 31))), (4, .int (1 <<< ((ρ (33 + 3 * p)) &&& 31))), (0, .ref (a 4)), (3, .int (nI m)), (6, .int bs), (7, .int (nI fw)), (8, .int (nI i))] hC dX5_fewestShut_122 (by decide) rfl ?_
              refine V.iload (pc := 124) 7 hC dX5_fewestShut_124 rfl ?_
              refine V.iload (pc := 126) 2 hC dX5_fewestShut_126 rfl ?_
              refine V.iload (pc := 128) 1 hC dX5_fewestShut_128 rfl ?_
              refine V.ior (pc := 130) hC dX5_fewestShut_130 ?_
              refine V.iand (pc := 131) hC dX5_fewestShut_131 ?_
              refine V.if_ne (pc := 132) 164 hC dX5_fewestShut_132 (by decide) (fun c_132 => ?_) (fun c_132 => ?_)
              · refine V.iinc (pc := 164) 7 (nI (i + 1)) [(8, .int (nI (i + 1))), (9, .int (nI (pc8 i))), (5, .int (1 <<< ((nI h) &&& 31))), (4, .int (1 <<< ((ρ (33 + 3 * p)) &&& 31))), (0, .ref (a 4)), (3, .int (nI m)), (6, .int bs), (7, .int (nI fw))] hC dX5_fewestShut_164 rfl (ncast (nadd rfl (nl 1)) (by omega)) (by decide) rfl ?_
                refine V.goto (pc := 167) 103 hC dX5_fewestShut_167 (by decide) ?_
                exact V.sub [2, 3, 4, 5, 6, 7, 0] rfl (ih (i + 1) bs fw (by omega) hb hfw (run_next hv (by unfold watF; rw [if_neg (show ¬ (nI i &&& (b1 (nI h) ||| b1 (ρ (33 + 3 * p))) = 0 ∧ (bs < 0 ∨ pc8 i < pc8 (nN bs))) from fun q => c_132 (by show nI i &&& (b1 (ρ (33 + 3 * p)) ||| b1 (nI h)) = 0; rw [orc]; exact q.1))])))
              · refine V.iload (pc := 135) 0 hC dX5_fewestShut_135 rfl ?_
                refine V.iload (pc := 137) 6 hC dX5_fewestShut_137 rfl ?_
                refine V.icmp_ge (pc := 139) 164 hC dX5_fewestShut_139 (by decide) (fun c_139 => ?_) (fun c_139 => ?_)
                · have nc_139 : fw ≤ pc8 i := (nle rfl rfl (by omega) (by omega)).mp c_139
                  have hge : ¬ (bs < 0 ∨ pc8 i < pc8 (nN bs)) := by rw [hfw] at nc_139; by_cases z : bs < 0; rw [if_pos z] at nc_139; exact absurd nc_139 (by omega); rw [if_neg z] at nc_139; exact fun q => q.elim z (fun q => absurd q (by omega))
                  refine V.iinc (pc := 164) 7 (nI (i + 1)) [(8, .int (nI (i + 1))), (9, .int (nI (pc8 i))), (5, .int (1 <<< ((nI h) &&& 31))), (4, .int (1 <<< ((ρ (33 + 3 * p)) &&& 31))), (0, .ref (a 4)), (3, .int (nI m)), (6, .int bs), (7, .int (nI fw))] hC dX5_fewestShut_164 rfl (ncast (nadd rfl (nl 1)) (by omega)) (by decide) rfl ?_
                  refine V.goto (pc := 167) 103 hC dX5_fewestShut_167 (by decide) ?_
                  exact V.sub [2, 3, 4, 5, 6, 7, 0] rfl (ih (i + 1) bs fw (by omega) hb hfw (run_next hv (by unfold watF; rw [if_neg (show ¬ (nI i &&& (b1 (nI h) ||| b1 (ρ (33 + 3 * p))) = 0 ∧ (bs < 0 ∨ pc8 i < pc8 (nN bs))) from fun q => hge q.2)])))
                · have nc_139 : ¬ (fw ≤ pc8 i) := fun z => c_139 ((nle rfl rfl (by omega) (by omega)).mpr z)
                  have hlt : bs < 0 ∨ pc8 i < pc8 (nN bs) := by by_cases z : bs < 0; exact Or.inl z; rw [hfw, if_neg z] at nc_139; exact Or.inr (by omega)
                  have c132 : nI i &&& (b1 (nI h) ||| b1 (ρ (33 + 3 * p))) = 0 := by rw [← orc]; exact c_132
                  refine V.aload_n (pc := 142) 3 hC dX5_fewestShut_142 rfl ?_
                  refine V.iload (pc := 143) 7 hC dX5_fewestShut_143 rfl ?_
                  refine V.iload (pc := 145) 2 hC dX5_fewestShut_145 rfl ?_
                  refine V.iload (pc := 147) 1 hC dX5_fewestShut_147 rfl ?_
                  refine V.iload_n (pc := 149) 4 hC dX5_fewestShut_149 rfl ?_
                  refine V.callV0 (pc := 150) (as := [.int (nI i), .int (1 <<< ((ρ (33 + 3 * p)) &&& 31)), .int (1 <<< ((nI h) &&& 31)), .int (nI m)]) hC (c_X5_keepsOut σ (va_up (va_up (va_up (va_up (va_up (va_up ν 75 f2_0) 77 f2_1) 31 g31) 74 g74) 76 g76) 78 f78) ρ p h m (nI i) (1 <<< ((ρ (33 + 3 * p)) &&& 31)) (1 <<< ((nI h) &&& 31)) hT hI hh hm rfl rfl) mu_X5_keepsOut ml_X5_70 (by decide) ⟨4, 5, TX5, 6, _, rfl, gx_4⟩ rfl (Nat.le_of_ble_eq_true rfl) dX5_fewestShut_150 ?_
                  rintro _ _ rfl
                  show V X (wX k g a σ (va_up (va_up (va_up (va_up (va_up (va_up ν 75 f2_0) 77 f2_1) 31 g31) 74 g74) 76 g76) 78 f78)) [(9, .int (nI (pc8 i))), (5, .int (1 <<< ((nI h) &&& 31))), (4, .int (1 <<< ((ρ (33 + 3 * p)) &&& 31))), (0, .ref (a 4)), (3, .int (nI m)), (6, .int bs), (7, .int (nI fw)), (8, .int (nI i))] [.int (bI (bitS (roomsButS ρ (f78) p m (nI i)) (nI h) = 0))] 153
                  have hor : roomsButS ρ f78 p m (nI i) = roomsButS ρ f78 p m (nI i) := rfl
                  refine V.if_eq_b (P := bitS (roomsButS ρ (f78) p m (nI i)) (nI h) = 0) (pc := 153) 164 hC dX5_fewestShut_153 (by decide) (fun c_153 => ?_) (fun c_153 => ?_)
                  · refine V.iinc (pc := 164) 7 (nI (i + 1)) [(8, .int (nI (i + 1))), (9, .int (nI (pc8 i))), (5, .int (1 <<< ((nI h) &&& 31))), (4, .int (1 <<< ((ρ (33 + 3 * p)) &&& 31))), (0, .ref (a 4)), (3, .int (nI m)), (6, .int bs), (7, .int (nI fw))] hC dX5_fewestShut_164 rfl (ncast (nadd rfl (nl 1)) (by omega)) (by decide) rfl ?_
                    refine V.goto (pc := 167) 103 hC dX5_fewestShut_167 (by decide) ?_
                    exact V.sub [2, 3, 4, 5, 6, 7, 0] rfl (ih (i + 1) bs fw (by omega) hb hfw (run_next hv (by unfold watF; rw [if_pos (show nI i &&& (b1 (nI h) ||| b1 (ρ (33 + 3 * p))) = 0 ∧ (bs < 0 ∨ pc8 i < pc8 (nN bs)) from ⟨c132, hlt⟩), if_neg (by rw [← hor] at c_153; exact c_153)])))
                  · refine V.iload (pc := 156) 7 hC dX5_fewestShut_156 rfl ?_
                    refine V.istore (pc := 158) [(6, .int (nI i)), (9, .int (nI (pc8 i))), (5, .int (1 <<< ((nI h) &&& 31))), (4, .int (1 <<< ((ρ (33 + 3 * p)) &&& 31))), (0, .ref (a 4)), (3, .int (nI m)), (7, .int (nI fw)), (8, .int (nI i))] hC dX5_fewestShut_158 (by decide) rfl ?_
                    refine V.iload (pc := 160) 1 hC dX5_fewestShut_160 rfl ?_
                    refine V.istore (pc := 162) [(7, .int (nI (pc8 i))), (6, .int (nI i)), (9, .int (nI (pc8 i))), (5, .int (1 <<< ((nI h) &&& 31))), (4, .int (1 <<< ((ρ (33 + 3 * p)) &&& 31))), (0, .ref (a 4)), (3, .int (nI m)), (8, .int (nI i))] hC dX5_fewestShut_162 (by decide) rfl ?_
                    refine V.iinc (pc := 164) 7 (nI (i + 1)) [(8, .int (nI (i + 1))), (7, .int (nI (pc8 i))), (6, .int (nI i)), (9, .int (nI (pc8 i))), (5, .int (1 <<< ((nI h) &&& 31))), (4, .int (1 <<< ((ρ (33 + 3 * p)) &&& 31))), (0, .ref (a 4)), (3, .int (nI m))] hC dX5_fewestShut_164 rfl (ncast (nadd rfl (nl 1)) (by omega)) (by decide) rfl ?_
                    refine V.goto (pc := 167) 103 hC dX5_fewestShut_167 (by decide) ?_
                    exact V.sub [4, 5, 6, 7, 2, 1, 0] rfl (ih (i + 1) (nI i) (pc8 i) (by omega) (Or.inr ⟨by rw [nN_nI (by omega)], by rw [nN_nI (by omega)]; omega⟩) (by rw [if_neg (nI_pos (by omega)), nN_nI (by omega)]) (run_next hv (by unfold watF; rw [if_pos (show nI i &&& (b1 (nI h) ||| b1 (ρ (33 + 3 * p))) = 0 ∧ (bs < 0 ∨ pc8 i < pc8 (nN bs)) from ⟨c132, hlt⟩), if_pos (by rw [← hor] at c_153; exact c_153)])))
        exact V.sub [3, 4, 5, 8, 2, 1, 0] rfl (loop_103 (2 ^ nN (ρ 3)) 0 (-1) 9 (by omega) (Or.inl rfl) rfl rfl)
      · have nc_11 : ¬ (m ≤ i) := fun z => c_11 ((nle rfl rfl (by omega) (by omega)).mpr z)
        exfalso; omega
    | succ n ih =>
      intro i g31 g74 g76 f78 hi hq
      refine V.iload (pc := 8) 4 hC dX5_fewestShut_8 rfl ?_
      refine V.iload_n (pc := 10) 3 hC dX5_fewestShut_10 rfl ?_
      refine V.icmp_ge (pc := 11) 75 hC dX5_fewestShut_11 (by decide) (fun c_11 => ?_) (fun c_11 => ?_)
      · have nc_11 : m ≤ i := (nle rfl rfl (by omega) (by omega)).mp c_11
        exfalso; omega
      · have nc_11 : ¬ (m ≤ i) := fun z => c_11 ((nle rfl rfl (by omega) (by omega)).mpr z)
        refine V.aload_n (pc := 14) 0 hC dX5_fewestShut_14 rfl ?_
        refine V.iload_n (pc := 15) 1 hC dX5_fewestShut_15 rfl ?_
        refine V.aload_n (pc := 16) 0 hC dX5_fewestShut_16 rfl ?_
        refine V.get (pc := 17) (v := .ref (a 1)) hC cf_X5 4 0 fl_X5_27 (by decide) gx_4 rfl dX5_fewestShut_17 ?_
        refine V.get (pc := 20) (v := .int (σ 20 0)) hC cf_X3 1 10 fl_X5_44 (by decide) gx_1 rfl dX5_fewestShut_20 ?_
        refine V.eqi (y := ρ 0) (hT.2.2.2.1.1) ?_
        refine V.iload (pc := 23) 4 hC dX5_fewestShut_23 rfl ?_
        refine V.iadd (pc := 25) hC dX5_fewestShut_25 ?_
        refine V.callV0 (pc := 26) (as := [.int (nI p), .int ((ρ 0) + (nI i))]) hC (c_X5_lookAt σ (va_up (va_up (va_up (va_up (va_up (va_up ν 75 f2_0) 77 f2_1) 31 g31) 74 g74) 76 g76) 78 f78) ρ p ((ρ 0) + (nI i)) hT hI hp hu2_0 (isN.mk (nadd hI.on0 rfl) (by omega) (by omega))) mu_X5_lookAt ml_X5_48 (by decide) ⟨4, 5, TX5, 6, _, rfl, gx_4⟩ rfl (Nat.le_of_ble_eq_true rfl) dX5_fewestShut_26 ?_
        rintro _ ⟨f26_0, f26_1, f26_2⟩ ⟨rfl, hu26_0⟩
        have hu26_0 : NR ρ ((ρ 0) + (nI i)) (leapsS ρ p ((ρ 0) + (nI i))) (nN (ρ 2)) f26_2 := hu26_0
        show V X (wX k g a σ (va_up (va_up (va_up (va_up (va_up (va_up ν 75 f2_0) 77 f2_1) 31 f26_0) 74 f26_1) 76 f26_2) 78 f78)) [(0, .ref (a 4)), (1, .int (nI p)), (2, .int (nI h)), (3, .int (nI m)), (4, .int (nI i))] [] 29
        refine V.iconst (pc := 29) 0 hC dX5_fewestShut_29 (by decide) ?_
        refine V.istore (pc := 30) [(5, .int 0), (0, .ref (a 4)), (1, .int (nI p)), (2, .int (nI h)), (3, .int (nI m)), (4, .int (nI i))] hC dX5_fewestShut_30 (by decide) rfl ?_
        have loop_32 : ∀ (n : Nat) (j : Nat) (g78 : Rw), j + n = nN (ρ 3) → (∀ q, q < 8 * i → g78 q = f78 q) → (∀ x, x < j → g78 (8 * i + x) = wayS ρ p x (ρ 0 + nI i)) → V X (wX k g a σ (va_up (va_up (va_up (va_up (va_up (va_up ν 75 f2_0) 77 f2_1) 31 f26_0) 74 f26_1) 76 f26_2) 78 g78)) [(0, .ref (a 4)), (1, .int (nI p)), (2, .int (nI h)), (3, .int (nI m)), (4, .int (nI i)), (5, .int (nI j))] [] 32 := by
          intro n
          induction n with
          | zero =>
            intro j g78 hj hg1 hg2
            refine V.iload (pc := 32) 5 hC dX5_fewestShut_32 rfl ?_
            refine V.aload_n (pc := 34) 0 hC dX5_fewestShut_34 rfl ?_
            refine V.get (pc := 35) (v := .ref (a 1)) hC cf_X5 4 0 fl_X5_27 (by decide) gx_4 rfl dX5_fewestShut_35 ?_
            refine V.get (pc := 38) (v := .int (σ 13 0)) hC cf_X3 1 3 fl_X5_59 (by decide) gx_1 rfl dX5_fewestShut_38 ?_
            refine V.eqi (y := ρ 3) (hT.2.1.1) ?_
            refine V.icmp_ge (pc := 41) 69 hC dX5_fewestShut_41 (by decide) (fun c_41 => ?_) (fun c_41 => ?_)
            · have nc_41 : nN (ρ 3) ≤ j := (nle hI.mn rfl (by omega) (by omega)).mp c_41
              refine V.iinc (pc := 69) 4 (nI (i + 1)) [(4, .int (nI (i + 1))), (0, .ref (a 4)), (1, .int (nI p)), (2, .int (nI h)), (3, .int (nI m)), (5, .int (nI j))] hC dX5_fewestShut_69 rfl (ncast (nadd rfl (nl 1)) (by omega)) (by decide) rfl ?_
              refine V.goto (pc := 72) 8 hC dX5_fewestShut_72 (by decide) ?_
              exact V.sub [1, 2, 3, 4, 0] rfl (ih (i + 1) f26_0 f26_1 f26_2 g78 (by omega) (fun i2 x2 h1 h2 => (Nat.lt_or_ge i2 i).elim (fun e => by rw [hg1 (8 * i2 + x2) (by omega)]; exact hq i2 x2 e h2) (fun e => by rw [show i2 = i by omega]; exact hg2 x2 (by omega))))
            · have nc_41 : ¬ (nN (ρ 3) ≤ j) := fun z => c_41 ((nle hI.mn rfl (by omega) (by omega)).mpr z)
              exfalso; omega
          | succ n ih =>
            intro j g78 hj hg1 hg2
            refine V.iload (pc := 32) 5 hC dX5_fewestShut_32 rfl ?_
            refine V.aload_n (pc := 34) 0 hC dX5_fewestShut_34 rfl ?_
            refine V.get (pc := 35) (v := .ref (a 1)) hC cf_X5 4 0 fl_X5_27 (by decide) gx_4 rfl dX5_fewestShut_35 ?_
            refine V.get (pc := 38) (v := .int (σ 13 0)) hC cf_X3 1 3 fl_X5_59 (by decide) gx_1 rfl dX5_fewestShut_38 ?_
            refine V.eqi (y := ρ 3) (hT.2.1.1) ?_
            refine V.icmp_ge (pc := 41) 69 hC dX5_fewestShut_41 (by decide) (fun c_41 => ?_) (fun c_41 => ?_)
            · have nc_41 : nN (ρ 3) ≤ j := (nle hI.mn rfl (by omega) (by omega)).mp c_41
              exfalso; omega
            · have nc_41 : ¬ (nN (ρ 3) ≤ j) := fun z => c_41 ((nle hI.mn rfl (by omega) (by omega)).mpr z)
              refine V.aload_n (pc := 44) 0 hC dX5_fewestShut_44 rfl ?_
              refine V.get (pc := 45) (v := .ref (a 78)) hC cf_X5 4 5 fl_X5_24 (by decide) gx_4 rfl dX5_fewestShut_45 ?_
              refine V.iload (pc := 48) 4 hC dX5_fewestShut_48 rfl ?_
              refine V.bipush (pc := 50) 8 hC dX5_fewestShut_50 (by decide) ?_
              refine V.imul (pc := 52) hC dX5_fewestShut_52 ?_
              refine V.iload (pc := 53) 5 hC dX5_fewestShut_53 rfl ?_
              refine V.iadd (pc := 55) hC dX5_fewestShut_55 ?_
              refine V.aload_n (pc := 56) 0 hC dX5_fewestShut_56 rfl ?_
              refine V.iload (pc := 57) 5 hC dX5_fewestShut_57 rfl ?_
              refine V.callV0 (pc := 59) (as := [.int (nI j)]) hC (c_X5_waysFrom σ (va_up (va_up (va_up (va_up (va_up (va_up ν 75 f2_0) 77 f2_1) 31 f26_0) 74 f26_1) 76 f26_2) 78 g78) ρ p j (ρ 0 + nI i) hT hI hp hu2_1 hu26_0 (isN.mk (nadd hI.on0 rfl) (by omega) (by omega)) (by omega)) mu_X5_waysFrom ml_X5_62 (by decide) ⟨4, 5, TX5, 6, _, rfl, gx_4⟩ rfl (Nat.le_of_ble_eq_true rfl) dX5_fewestShut_59 ?_
              rintro _ _ rfl
              show V X (wX k g a σ (va_up (va_up (va_up (va_up (va_up (va_up ν 75 f2_0) 77 f2_1) 31 f26_0) 74 f26_1) 76 f26_2) 78 g78)) [(0, .ref (a 4)), (1, .int (nI p)), (2, .int (nI h)), (3, .int (nI m)), (4, .int (nI i)), (5, .int (nI j))] [.int (wayS ρ p j (ρ 0 + nI i)), .int (((nI i) * 8) + (nI j)), .ref (a 78)] 62
              refine V.iast (pc := 62) (f := g78) hC 45 (8 * i + j) (wX k g a σ (va_up (va_up (va_up (va_up (va_up (va_up ν 75 f2_0) 77 f2_1) 31 f26_0) 74 f26_1) 76 f26_2) 78 (upd g78 (8 * i + j) (wayS ρ p j (ρ 0 + nI i))))) gx_45 (ncast (b := 8 * i + j) (nadd (nmul rfl (nl 8)) rfl) (by omega)) (by omega) (by decide) rfl dX5_fewestShut_62 ?_
              refine V.iinc (pc := 63) 5 (nI (j + 1)) [(5, .int (nI (j + 1))), (0, .ref (a 4)), (1, .int (nI p)), (2, .int (nI h)), (3, .int (nI m)), (4, .int (nI i))] hC dX5_fewestShut_63 rfl (ncast (nadd rfl (nl 1)) (by omega)) (by decide) rfl ?_
              refine V.goto (pc := 66) 32 hC dX5_fewestShut_66 (by decide) ?_
              exact V.sub [1, 2, 3, 4, 5, 0] rfl (ih (j + 1) (upd g78 (8 * i + j) (wayS ρ p j (ρ 0 + nI i))) (by omega) (fun q h => (upd_ne (by omega)).trans (hg1 q h)) (fun x h => (Nat.lt_or_ge x j).elim (fun e => (upd_ne (by omega)).trans (hg2 x e)) (fun e => by rw [show x = j by omega]; exact upd_eq)))
        exact V.sub [1, 2, 3, 4, 5, 0] rfl (loop_32 (nN (ρ 3)) 0 f78 (by omega) (fun q h => rfl) (fun x h => absurd h (by omega)))
  exact V.sub [1, 2, 3, 4, 0] rfl (loop_8 m 0 (ν 31) (ν 74) (ν 76) (ν 78) (by omega) (fun i2 x2 h => absurd h (by omega)))
