/-! the bounds and the groups behind the ops that write -/
theorem Inv.hand {ρ : Rw} (h : Inv ρ) (hn : nN (ρ 2) < 4) {t o : Int32} (ht : inS t 1 1440) (ho : inS o 0 1439) : Inv (upd (upd (upd ρ 2 (ρ 2 + 1)) (7 + 2 * nN (ρ 2)) t) (8 + 2 * nN (ρ 2)) o) := by
  have e2 : upd (upd (upd ρ 2 (ρ 2 + 1)) (7 + 2 * nN (ρ 2)) t) (8 + 2 * nN (ρ 2)) o 2 = nI (nN (ρ 2) + 1) := by rw [upd_ne (by omega), upd_ne (by omega), upd_eq]; exact nadd h.hn (nl 1)
  have e2n : nN (upd (upd (upd ρ 2 (ρ 2 + 1)) (7 + 2 * nN (ρ 2)) t) (8 + 2 * nN (ρ 2)) o 2) = nN (ρ 2) + 1 := nN_of e2 (by omega)
  have h1 := inS_1 ht (nl 1) (nl 1440) (by omega) (by omega)
  have h2 := inS_c ho (nl 1439) (by omega)
  refine ⟨⟨isN.mk e2 (by omega) (by omega), fun i hi => ?_⟩, h.pM.c (fun j hj => (by unfold upd; repeat rw [if_neg (by omega)])) (by rw [e2n]; omega), h.pP.c (fun j hj => (by unfold upd; repeat rw [if_neg (by omega)])) (by rw [show upd (upd (upd ρ 2 (ρ 2 + 1)) (7 + 2 * nN (ρ 2)) t) (8 + 2 * nN (ρ 2)) o 3 = ρ 3 from (by unfold upd; repeat rw [if_neg (by omega)])]; exact Nat.le_refl _), by rw [show upd (upd (upd ρ 2 (ρ 2 + 1)) (7 + 2 * nN (ρ 2)) t) (8 + 2 * nN (ρ 2)) o 0 = ρ 0 from (by unfold upd; repeat rw [if_neg (by omega)])]; exact h.2.2.2.1, h.pB.c (fun j hj => (by unfold upd; repeat rw [if_neg (by omega)])), by rw [show upd (upd (upd ρ 2 (ρ 2 + 1)) (7 + 2 * nN (ρ 2)) t) (8 + 2 * nN (ρ 2)) o 6 = ρ 6 from (by unfold upd; repeat rw [if_neg (by omega)])]; exact h.2.2.2.2.2.1, fun u hu => (h.pL hu).c (fun j hj => (by unfold upd; repeat rw [if_neg (by omega)]))⟩
  rw [e2n] at hi
  by_cases e : i = nN (ρ 2)
  · subst e
    rw [upd_ne (show 7 + 2 * nN (ρ 2) ≠ 8 + 2 * nN (ρ 2) by omega), upd_eq, upd_eq]
    exact ⟨⟨h1.1, h1.2.2⟩, h1.2.1, h2⟩
  · have e7 : upd (upd (upd ρ 2 (ρ 2 + 1)) (7 + 2 * nN (ρ 2)) t) (8 + 2 * nN (ρ 2)) o (7 + 2 * i) = ρ (7 + 2 * i) := (by unfold upd; repeat rw [if_neg (by omega)])
    have e8 : upd (upd (upd ρ 2 (ρ 2 + 1)) (7 + 2 * nN (ρ 2)) t) (8 + 2 * nN (ρ 2)) o (8 + 2 * i) = ρ (8 + 2 * i) := (by unfold upd; repeat rw [if_neg (by omega)])
    rw [e7, e8]
    exact h.1.2 i (by omega)
theorem XH_add {h tu ofs ρ : Rw} {t o : Int32} (x : XH h tu ofs ρ) (hn : nN (ρ 2) < 4) {n' : Int32} (hn' : n' = ρ 2 + 1) : XH (fun _ => n') (upd tu (nN (ρ 2)) t) (upd ofs (nN (ρ 2)) o) (upd (upd (upd ρ 2 (ρ 2 + 1)) (7 + 2 * nN (ρ 2)) t) (8 + 2 * nN (ρ 2)) o) := by
  refine ⟨?_, fun i hi => ?_, fun i hi => ?_⟩
  · rw [hn', upd_ne (by omega), upd_ne (by omega), upd_eq]
  · by_cases e : i = nN (ρ 2)
    · subst e; rw [upd_eq, upd_ne (show 7 + 2 * nN (ρ 2) ≠ 8 + 2 * nN (ρ 2) by omega), upd_eq]
    · rw [upd_ne e, x.2.1 i hi]; exact (show upd (upd (upd ρ 2 (ρ 2 + 1)) (7 + 2 * nN (ρ 2)) t) (8 + 2 * nN (ρ 2)) o (7 + 2 * i) = ρ (7 + 2 * i) from (by unfold upd; repeat rw [if_neg (by omega)])).symm
  · by_cases e : i = nN (ρ 2)
    · subst e; rw [upd_eq, upd_eq]
    · rw [upd_ne e, x.2.2 i hi]; exact (show upd (upd (upd ρ 2 (ρ 2 + 1)) (7 + 2 * nN (ρ 2)) t) (8 + 2 * nN (ρ 2)) o (8 + 2 * i) = ρ (8 + 2 * i) from (by unfold upd; repeat rw [if_neg (by omega)])).symm
theorem Inv.home {ρ : Rw} (h : Inv ρ) (hn : nN (ρ 3) < 8) {t o : Int32} (ht : inS t 0 (ρ 2 - 1)) (ho : inS o 0 9) : Inv (upd (upd (upd ρ 3 (ρ 3 + 1)) (15 + 2 * nN (ρ 3)) t) (16 + 2 * nN (ρ 3)) o) := by
  have hb4 := h.hb
  have e2 : upd (upd (upd ρ 3 (ρ 3 + 1)) (15 + 2 * nN (ρ 3)) t) (16 + 2 * nN (ρ 3)) o 3 = nI (nN (ρ 3) + 1) := by rw [upd_ne (by omega), upd_ne (by omega), upd_eq]; exact nadd h.mn (nl 1)
  have e2n : nN (upd (upd (upd ρ 3 (ρ 3 + 1)) (15 + 2 * nN (ρ 3)) t) (16 + 2 * nN (ρ 3)) o 3) = nN (ρ 3) + 1 := nN_of e2 (by omega)
  have h1 := inS_n ht h.hn (by omega)
  have h2 := inS_c ho (nl 9) (by omega)
  refine ⟨h.pH.c (fun j hj => (by unfold upd; repeat rw [if_neg (by omega)])), ⟨isN.mk e2 (by omega) (by omega), fun i hi => ?_⟩, h.pP.c (fun j hj => (by unfold upd; repeat rw [if_neg (by omega)])) (by rw [e2n]; omega), by rw [show upd (upd (upd ρ 3 (ρ 3 + 1)) (15 + 2 * nN (ρ 3)) t) (16 + 2 * nN (ρ 3)) o 0 = ρ 0 from (by unfold upd; repeat rw [if_neg (by omega)])]; exact h.2.2.2.1, h.pB.c (fun j hj => (by unfold upd; repeat rw [if_neg (by omega)])), by rw [show upd (upd (upd ρ 3 (ρ 3 + 1)) (15 + 2 * nN (ρ 3)) t) (16 + 2 * nN (ρ 3)) o 6 = ρ 6 from (by unfold upd; repeat rw [if_neg (by omega)])]; exact h.2.2.2.2.2.1, fun u hu => (h.pL hu).c (fun j hj => (by unfold upd; repeat rw [if_neg (by omega)]))⟩
  rw [e2n] at hi
  have e2' : upd (upd (upd ρ 3 (ρ 3 + 1)) (15 + 2 * nN (ρ 3)) t) (16 + 2 * nN (ρ 3)) o 2 = ρ 2 := (by unfold upd; repeat rw [if_neg (by omega)])
  rw [e2']
  by_cases e : i = nN (ρ 3)
  · subst e
    rw [upd_ne (show 15 + 2 * nN (ρ 3) ≠ 16 + 2 * nN (ρ 3) by omega), upd_eq, upd_eq]
    exact ⟨⟨h1.1, by omega⟩, h1.2, h2⟩
  · have e7 : upd (upd (upd ρ 3 (ρ 3 + 1)) (15 + 2 * nN (ρ 3)) t) (16 + 2 * nN (ρ 3)) o (15 + 2 * i) = ρ (15 + 2 * i) := (by unfold upd; repeat rw [if_neg (by omega)])
    have e8 : upd (upd (upd ρ 3 (ρ 3 + 1)) (15 + 2 * nN (ρ 3)) t) (16 + 2 * nN (ρ 3)) o (16 + 2 * i) = ρ (16 + 2 * i) := (by unfold upd; repeat rw [if_neg (by omega)])
    rw [e7, e8]
    exact h.2.1.2 i (by omega)
theorem XM_add {h tu ofs ρ : Rw} {t o : Int32} (x : XM h tu ofs ρ) (hn : nN (ρ 3) < 8) {n' : Int32} (hn' : n' = ρ 3 + 1) : XM (fun _ => n') (upd tu (nN (ρ 3)) t) (upd ofs (nN (ρ 3)) o) (upd (upd (upd ρ 3 (ρ 3 + 1)) (15 + 2 * nN (ρ 3)) t) (16 + 2 * nN (ρ 3)) o) := by
  refine ⟨?_, fun i hi => ?_, fun i hi => ?_⟩
  · rw [hn', upd_ne (by omega), upd_ne (by omega), upd_eq]
  · by_cases e : i = nN (ρ 3)
    · subst e; rw [upd_eq, upd_ne (show 15 + 2 * nN (ρ 3) ≠ 16 + 2 * nN (ρ 3) by omega), upd_eq]
    · rw [upd_ne e, x.2.1 i hi]; exact (show upd (upd (upd ρ 3 (ρ 3 + 1)) (15 + 2 * nN (ρ 3)) t) (16 + 2 * nN (ρ 3)) o (15 + 2 * i) = ρ (15 + 2 * i) from (by unfold upd; repeat rw [if_neg (by omega)])).symm
  · by_cases e : i = nN (ρ 3)
    · subst e; rw [upd_eq, upd_eq]
    · rw [upd_ne e, x.2.2 i hi]; exact (show upd (upd (upd ρ 3 (ρ 3 + 1)) (15 + 2 * nN (ρ 3)) t) (16 + 2 * nN (ρ 3)) o (16 + 2 * i) = ρ (16 + 2 * i) from (by unfold upd; repeat rw [if_neg (by omega)])).symm
theorem km_d {km : Int32} (h : inS km 0 69) : isN (km / 10) 6 ∧ isN (irm km 10) 9 := by
  have h1 := inS_c h (nl 69) (by omega)
  exact ⟨isN.mk (ndiv h1.1 (nl 10) (by omega) (by omega) (by omega)) (by omega) (by omega), isN.mk (irm_n h1.1 (nl 10) (by omega) (by omega) (by omega)) (by omega) (by omega)⟩
theorem Inv.person {ρ : Rw} (h : Inv ρ) (hn : nN (ρ 4) < 6) {km t : Int32} (hk : inS km 0 69) (ht : inS t 0 (ρ 3 - 1)) : Inv (upd (upd (upd (upd ρ 4 (ρ 4 + 1)) (31 + 3 * nN (ρ 4)) (km / 10)) (32 + 3 * nN (ρ 4)) (irm km 10)) (33 + 3 * nN (ρ 4)) t) := by
  have hb8 := h.mb
  have e2 : upd (upd (upd (upd ρ 4 (ρ 4 + 1)) (31 + 3 * nN (ρ 4)) (km / 10)) (32 + 3 * nN (ρ 4)) (irm km 10)) (33 + 3 * nN (ρ 4)) t 4 = nI (nN (ρ 4) + 1) := by rw [upd_ne (by omega), upd_ne (by omega), upd_ne (by omega), upd_eq]; exact nadd h.pn (nl 1)
  have e2n : nN (upd (upd (upd (upd ρ 4 (ρ 4 + 1)) (31 + 3 * nN (ρ 4)) (km / 10)) (32 + 3 * nN (ρ 4)) (irm km 10)) (33 + 3 * nN (ρ 4)) t 4) = nN (ρ 4) + 1 := nN_of e2 (by omega)
  have h1 := inS_n ht h.mn (by omega)
  have h2 := km_d hk
  refine ⟨h.pH.c (fun j hj => (by unfold upd; repeat rw [if_neg (by omega)])), h.pM.c (fun j hj => (by unfold upd; repeat rw [if_neg (by omega)])) (by rw [show upd (upd (upd (upd ρ 4 (ρ 4 + 1)) (31 + 3 * nN (ρ 4)) (km / 10)) (32 + 3 * nN (ρ 4)) (irm km 10)) (33 + 3 * nN (ρ 4)) t 2 = ρ 2 from (by unfold upd; repeat rw [if_neg (by omega)])]; exact Nat.le_refl _), ⟨isN.mk e2 (by omega) (by omega), fun i hi => ?_⟩, by rw [show upd (upd (upd (upd ρ 4 (ρ 4 + 1)) (31 + 3 * nN (ρ 4)) (km / 10)) (32 + 3 * nN (ρ 4)) (irm km 10)) (33 + 3 * nN (ρ 4)) t 0 = ρ 0 from (by unfold upd; repeat rw [if_neg (by omega)])]; exact h.2.2.2.1, h.pB.c (fun j hj => (by unfold upd; repeat rw [if_neg (by omega)])), by rw [show upd (upd (upd (upd ρ 4 (ρ 4 + 1)) (31 + 3 * nN (ρ 4)) (km / 10)) (32 + 3 * nN (ρ 4)) (irm km 10)) (33 + 3 * nN (ρ 4)) t 6 = ρ 6 from (by unfold upd; repeat rw [if_neg (by omega)])]; exact h.2.2.2.2.2.1, fun u hu => (h.pL hu).c (fun j hj => (by unfold upd; repeat rw [if_neg (by omega)]))⟩
  rw [e2n] at hi
  have e2' : upd (upd (upd (upd ρ 4 (ρ 4 + 1)) (31 + 3 * nN (ρ 4)) (km / 10)) (32 + 3 * nN (ρ 4)) (irm km 10)) (33 + 3 * nN (ρ 4)) t 3 = ρ 3 := (by unfold upd; repeat rw [if_neg (by omega)])
  rw [e2']
  by_cases e : i = nN (ρ 4)
  · subst e
    rw [upd_ne (show 31 + 3 * nN (ρ 4) ≠ 33 + 3 * nN (ρ 4) by omega), upd_ne (show 31 + 3 * nN (ρ 4) ≠ 32 + 3 * nN (ρ 4) by omega), upd_eq, upd_ne (show 32 + 3 * nN (ρ 4) ≠ 33 + 3 * nN (ρ 4) by omega), upd_eq, upd_eq]
    exact ⟨h2.1, h2.2, ⟨h1.1, by omega⟩, h1.2⟩
  · have e7 : upd (upd (upd (upd ρ 4 (ρ 4 + 1)) (31 + 3 * nN (ρ 4)) (km / 10)) (32 + 3 * nN (ρ 4)) (irm km 10)) (33 + 3 * nN (ρ 4)) t (31 + 3 * i) = ρ (31 + 3 * i) := (by unfold upd; repeat rw [if_neg (by omega)])
    have e8 : upd (upd (upd (upd ρ 4 (ρ 4 + 1)) (31 + 3 * nN (ρ 4)) (km / 10)) (32 + 3 * nN (ρ 4)) (irm km 10)) (33 + 3 * nN (ρ 4)) t (32 + 3 * i) = ρ (32 + 3 * i) := (by unfold upd; repeat rw [if_neg (by omega)])
    have e9 : upd (upd (upd (upd ρ 4 (ρ 4 + 1)) (31 + 3 * nN (ρ 4)) (km / 10)) (32 + 3 * nN (ρ 4)) (irm km 10)) (33 + 3 * nN (ρ 4)) t (33 + 3 * i) = ρ (33 + 3 * i) := (by unfold upd; repeat rw [if_neg (by omega)])
    rw [e7, e8, e9]
    exact h.2.2.1.2 i (by omega)
theorem XP_add {pe ki nu ro ρ : Rw} {km t : Int32} (x : XP pe ki nu ro ρ) (hn : nN (ρ 4) < 6) {n' : Int32} (hn' : n' = ρ 4 + 1) : XP (fun _ => n') (upd ki (nN (ρ 4)) (km / 10)) (upd nu (nN (ρ 4)) (irm km 10)) (upd ro (nN (ρ 4)) t) (upd (upd (upd (upd ρ 4 (ρ 4 + 1)) (31 + 3 * nN (ρ 4)) (km / 10)) (32 + 3 * nN (ρ 4)) (irm km 10)) (33 + 3 * nN (ρ 4)) t) := by
  refine ⟨?_, fun i hi => ?_, fun i hi => ?_, fun i hi => ?_⟩
  · rw [hn', upd_ne (by omega), upd_ne (by omega), upd_ne (by omega), upd_eq]
  · by_cases e : i = nN (ρ 4)
    · subst e; rw [upd_eq, upd_ne (show 31 + 3 * nN (ρ 4) ≠ 33 + 3 * nN (ρ 4) by omega), upd_ne (show 31 + 3 * nN (ρ 4) ≠ 32 + 3 * nN (ρ 4) by omega), upd_eq]
    · rw [upd_ne e, x.2.1 i hi]; exact (show upd (upd (upd (upd ρ 4 (ρ 4 + 1)) (31 + 3 * nN (ρ 4)) (km / 10)) (32 + 3 * nN (ρ 4)) (irm km 10)) (33 + 3 * nN (ρ 4)) t (31 + 3 * i) = ρ (31 + 3 * i) from (by unfold upd; repeat rw [if_neg (by omega)])).symm
  · by_cases e : i = nN (ρ 4)
    · subst e; rw [upd_eq, upd_ne (show 32 + 3 * nN (ρ 4) ≠ 33 + 3 * nN (ρ 4) by omega), upd_eq]
    · rw [upd_ne e, x.2.2.1 i hi]; exact (show upd (upd (upd (upd ρ 4 (ρ 4 + 1)) (31 + 3 * nN (ρ 4)) (km / 10)) (32 + 3 * nN (ρ 4)) (irm km 10)) (33 + 3 * nN (ρ 4)) t (32 + 3 * i) = ρ (32 + 3 * i) from (by unfold upd; repeat rw [if_neg (by omega)])).symm
  · by_cases e : i = nN (ρ 4)
    · subst e; rw [upd_eq, upd_eq]
    · rw [upd_ne e, x.2.2.2 i hi]; exact (show upd (upd (upd (upd ρ 4 (ρ 4 + 1)) (31 + 3 * nN (ρ 4)) (km / 10)) (32 + 3 * nN (ρ 4)) (irm km 10)) (33 + 3 * nN (ρ 4)) t (33 + 3 * i) = ρ (33 + 3 * i) from (by unfold upd; repeat rw [if_neg (by omega)])).symm
theorem Inv.kind {ρ : Rw} (h : Inv ρ) {p : Nat} (hp : p < nN (ρ 4)) {km : Int32} (hk : inS km 0 69) : Inv (upd (upd ρ (32 + 3 * p) (irm km 10)) (31 + 3 * p) (km / 10)) := by
  have hb6 := h.pb
  have h2 := km_d hk
  refine ⟨h.pH.c (fun j hj => (by unfold upd; repeat rw [if_neg (by omega)])), h.pM.c (fun j hj => (by unfold upd; repeat rw [if_neg (by omega)])) (by rw [show upd (upd ρ (32 + 3 * p) (irm km 10)) (31 + 3 * p) (km / 10) 2 = ρ 2 from (by unfold upd; repeat rw [if_neg (by omega)])]; exact Nat.le_refl _), ⟨by rw [show upd (upd ρ (32 + 3 * p) (irm km 10)) (31 + 3 * p) (km / 10) 4 = ρ 4 from (by unfold upd; repeat rw [if_neg (by omega)])]; exact h.2.2.1.1, fun i hi => ?_⟩, by rw [show upd (upd ρ (32 + 3 * p) (irm km 10)) (31 + 3 * p) (km / 10) 0 = ρ 0 from (by unfold upd; repeat rw [if_neg (by omega)])]; exact h.2.2.2.1, h.pB.c (fun j hj => (by unfold upd; repeat rw [if_neg (by omega)])), by rw [show upd (upd ρ (32 + 3 * p) (irm km 10)) (31 + 3 * p) (km / 10) 6 = ρ 6 from (by unfold upd; repeat rw [if_neg (by omega)])]; exact h.2.2.2.2.2.1, fun u hu => (h.pL hu).c (fun j hj => (by unfold upd; repeat rw [if_neg (by omega)]))⟩
  rw [show upd (upd ρ (32 + 3 * p) (irm km 10)) (31 + 3 * p) (km / 10) 4 = ρ 4 from (by unfold upd; repeat rw [if_neg (by omega)])] at hi
  rw [show upd (upd ρ (32 + 3 * p) (irm km 10)) (31 + 3 * p) (km / 10) 3 = ρ 3 from (by unfold upd; repeat rw [if_neg (by omega)]), show upd (upd ρ (32 + 3 * p) (irm km 10)) (31 + 3 * p) (km / 10) (33 + 3 * i) = ρ (33 + 3 * i) from (by unfold upd; repeat rw [if_neg (by omega)])]
  have h9 := h.2.2.1.2 i hi
  by_cases e : i = p
  · subst e
    rw [upd_eq, upd_ne (show 32 + 3 * i ≠ 31 + 3 * i by omega), upd_eq]
    exact ⟨h2.1, h2.2, h9.2.2⟩
  · rw [show upd (upd ρ (32 + 3 * p) (irm km 10)) (31 + 3 * p) (km / 10) (31 + 3 * i) = ρ (31 + 3 * i) from (by unfold upd; repeat rw [if_neg (by omega)]), show upd (upd ρ (32 + 3 * p) (irm km 10)) (31 + 3 * p) (km / 10) (32 + 3 * i) = ρ (32 + 3 * i) from (by unfold upd; repeat rw [if_neg (by omega)])]
    exact h9
theorem XP_kind {pe ki nu ro ρ : Rw} {km : Int32} {p : Nat} (x : XP pe ki nu ro ρ) (hp : p < 6) : XP pe (upd ki p (km / 10)) (upd nu p (irm km 10)) ro (upd (upd ρ (32 + 3 * p) (irm km 10)) (31 + 3 * p) (km / 10)) := by
  refine ⟨x.1.trans (show upd (upd ρ (32 + 3 * p) (irm km 10)) (31 + 3 * p) (km / 10) 4 = ρ 4 from (by unfold upd; repeat rw [if_neg (by omega)])).symm, fun i hi => ?_, fun i hi => ?_, fun i hi => (x.2.2.2 i hi).trans (show upd (upd ρ (32 + 3 * p) (irm km 10)) (31 + 3 * p) (km / 10) (33 + 3 * i) = ρ (33 + 3 * i) from (by unfold upd; repeat rw [if_neg (by omega)])).symm⟩
  · by_cases e : i = p
    · subst e; rw [upd_eq, upd_eq]
    · rw [upd_ne e, x.2.1 i hi]; exact (show upd (upd ρ (32 + 3 * p) (irm km 10)) (31 + 3 * p) (km / 10) (31 + 3 * i) = ρ (31 + 3 * i) from (by unfold upd; repeat rw [if_neg (by omega)])).symm
  · by_cases e : i = p
    · subst e; rw [upd_eq, upd_ne (show 32 + 3 * i ≠ 31 + 3 * i by omega), upd_eq]
    · rw [upd_ne e, x.2.2.1 i hi]; exact (show upd (upd ρ (32 + 3 * p) (irm km 10)) (31 + 3 * p) (km / 10) (32 + 3 * i) = ρ (32 + 3 * i) from (by unfold upd; repeat rw [if_neg (by omega)])).symm
theorem RT.min {σ : St} {ρ : Rw} (h : RT σ ρ) (hI : Inv ρ) (v : Int32) : RT (va_up σ 20 (fun _ => v)) (upd ρ 0 v) := by
  obtain ⟨gH, gM, gP, gT, gB, gW, g0, g1⟩ := Rx_iff.mp h
  exact Rx_iff.mpr ⟨gH.c (fun j hj => upd_ne (by omega)), gM.c (fun j hj => upd_ne (by omega)), gP.c (fun j hj => upd_ne (by omega)), ⟨upd_eq.symm, gT.2.trans (upd_ne (by omega)).symm⟩, gB.c hI.bb (fun j hj => upd_ne (by omega)), gW.c (fun j hj => upd_ne (by omega)), g0.c (hI.lb (by omega)) (fun j hj => upd_ne (by omega)), g1.c (hI.lb (by omega)) (fun j hj => upd_ne (by omega))⟩
theorem RT.off {σ : St} {ρ : Rw} (h : RT σ ρ) (hI : Inv ρ) {p : Nat} (hp : p < 4) (v : Int32) : RT (va_up σ 12 (upd (σ 12) p v)) (upd ρ (8 + 2 * p) v) := by
  obtain ⟨gH, gM, gP, gT, gB, gW, g0, g1⟩ := Rx_iff.mp h
  exact Rx_iff.mpr ⟨XH_s gH hp, gM.c (fun j hj => upd_ne (by omega)), gP.c (fun j hj => upd_ne (by omega)), gT.c (fun j hj => upd_ne (by omega)), gB.c hI.bb (fun j hj => upd_ne (by omega)), gW.c (fun j hj => upd_ne (by omega)), g0.c (hI.lb (by omega)) (fun j hj => upd_ne (by omega)), g1.c (hI.lb (by omega)) (fun j hj => upd_ne (by omega))⟩
theorem RT.wait {σ : St} {ρ : Rw} (h : RT σ ρ) (hI : Inv ρ) (v : Int32) : RT (va_up σ 24 (fun _ => v)) (upd ρ 6 v) := by
  obtain ⟨gH, gM, gP, gT, gB, gW, g0, g1⟩ := Rx_iff.mp h
  exact Rx_iff.mpr ⟨gH.c (fun j hj => upd_ne (by omega)), gM.c (fun j hj => upd_ne (by omega)), gP.c (fun j hj => upd_ne (by omega)), gT.c (fun j hj => upd_ne (by omega)), gB.c hI.bb (fun j hj => upd_ne (by omega)), ⟨upd_eq.symm, fun i hi => (gW.2 i hi).trans (upd_ne (by omega)).symm⟩, g0.c (hI.lb (by omega)) (fun j hj => upd_ne (by omega)), g1.c (hI.lb (by omega)) (fun j hj => upd_ne (by omega))⟩
theorem RT.tell {σ : St} {ρ : Rw} (h : RT σ ρ) (hI : Inv ρ) {p : Nat} (hp : p < 24) (v : Int32) : RT (va_up σ 25 (upd (σ 25) p v)) (upd ρ (109 + p) v) := by
  obtain ⟨gH, gM, gP, gT, gB, gW, g0, g1⟩ := Rx_iff.mp h
  refine Rx_iff.mpr ⟨gH.c (fun j hj => upd_ne (by omega)), gM.c (fun j hj => upd_ne (by omega)), gP.c (fun j hj => upd_ne (by omega)), gT.c (fun j hj => upd_ne (by omega)), gB.c hI.bb (fun j hj => upd_ne (by omega)), ⟨gW.1.trans (upd_ne (by omega)).symm, fun i hi => ?_⟩, g0.c (hI.lb (by omega)) (fun j hj => upd_ne (by omega)), g1.c (hI.lb (by omega)) (fun j hj => upd_ne (by omega))⟩
  show upd (σ 25) p v i = _
  by_cases e : i = p
  · subst e; rw [upd_eq, upd_eq]
  · rw [upd_ne e, upd_ne (by omega)]; exact gW.2 i hi
theorem Inv.told {ρ : Rw} (h : Inv ρ) {p : Nat} (hp : p < 24) (x : Int32) : Inv (upd ρ (109 + p) x) :=
  h.low (by omega) (h.pH.c (fun j hj => upd_ne (by omega))) (h.pM.c (fun j hj => upd_ne (by omega)) (by rw [upd_ne (by omega)]; exact Nat.le_refl _)) (h.pP.c (fun j hj => upd_ne (by omega)) (by rw [upd_ne (by omega)]; exact Nat.le_refl _)) (by rw [upd_ne (by omega)]; exact h.2.2.2.1) (h.pB.c (fun j hj => upd_ne (by omega))) (by rw [upd_ne (by omega)]; exact h.2.2.2.2.2.1)

set_option maxHeartbeats 4000000 in
set_option maxRecDepth 100000 in
theorem c_X6_hand {l : Launch} {D : va_G} {k : Nat → ClassId} {g a : Nat → Nat} (σ ν μ : St) (t o : Int32) (hRR : RQ σ μ) : Ct l D k g yX6_hand cX6_hand 3 (some .int) 1 22 [.ref (a 0), .int t, .int o] (S := St × St) (wX k g a σ ν) (fun uu => wX k g a uu.1 uu.2) (fun vv uu => vv = some (.int ((op_hand t o μ).1)) ∧ RQ uu.1 (op_hand t o μ).2) := by
  refine Ct.ofI RX6 rfl (by decide +kernel) (Nat.le_of_ble_eq_true rfl) (fun X hC hR => ?_)
  have hT := hRR.1.2.2.1.1; have hI := hRR.1.2.2.1.2
  have hb4 := hI.hb; have hb8 := hI.mb; have hb6 := hI.pb; have hbm := hI.ob0; have hbt := hI.bb; have hbw := hI.wb
  obtain ⟨gH, gM, gP, gT, gB, gW, g0, g1⟩ := Rx_iff.mp hT
  show V X (wX k g a σ ν) [(0, .ref (a 0)), (1, .int t), (2, .int o)] [] 0
  refine V.iload_n (pc := 0) 1 hC dX6_hand_0 rfl ?_
  refine V.iconst (pc := 1) 1 hC dX6_hand_1 (by decide) ?_
  refine V.sipush (pc := 2) 1440 hC dX6_hand_2 (by decide) ?_
  refine V.callS0 (pc := 5) (as := [.int t, .int 1, .int 1440]) hC (c_X6_within t 1 1440 ) ms_X6_within ml_X6_53 (by decide) rfl (Nat.le_of_ble_eq_true rfl) dX6_hand_5 ?_
  rintro _ _ rfl
  show V X (wX k g a σ ν) [(0, .ref (a 0)), (1, .int t), (2, .int o)] [.int (bI (inS t 1 1440))] 8
  refine V.if_eq_b (P := inS t 1 1440) (pc := 8) 22 hC dX6_hand_8 (by decide) (fun c_8 => ?_) (fun c_8 => ?_)
  · refine V.aload_n (pc := 22) 0 hC dX6_hand_22 rfl ?_
    refine V.iconst (pc := 23) 1 hC dX6_hand_23 (by decide) ?_
    refine V.sts (st' := [.int (nI 1), .ref (a 0)]) (stc (nl 1) (stk rfl)) ?_
    refine V.callV0 (pc := 24) (as := [.int (nI 1)]) hC (c_X6_error σ ν 1 (by omega)) mu_X6_error ml_X6_57 (by decide) ⟨0, 6, TX6, 8, _, rfl, gx_0⟩ rfl (Nat.le_of_ble_eq_true rfl) dX6_hand_24 ?_
    rintro _ f24_0 ⟨rfl, hu24_0⟩
    have hu24_0 : f24_0 = upd (σ 0) 1 (σ 0 1 + 1) := hu24_0
    show V X (wX k g a (va_up σ 0 f24_0) ν) [(0, .ref (a 0)), (1, .int t), (2, .int o)] [.int (lowE 1)] 27
    exact hR (lowE 1) ((va_up σ 0 f24_0), ν) _ _ dX6_hand_27 rfl (ope (by rw [op_hand, if_pos c_8] <;> rfl) (hRR.er (by omega) hu24_0))
  · refine V.iload_n (pc := 11) 2 hC dX6_hand_11 rfl ?_
    refine V.iconst (pc := 12) 0 hC dX6_hand_12 (by decide) ?_
    refine V.sipush (pc := 13) 1439 hC dX6_hand_13 (by decide) ?_
    refine V.callS0 (pc := 16) (as := [.int o, .int 0, .int 1439]) hC (c_X6_within o 0 1439 ) ms_X6_within ml_X6_53 (by decide) rfl (Nat.le_of_ble_eq_true rfl) dX6_hand_16 ?_
    rintro _ _ rfl
    show V X (wX k g a σ ν) [(0, .ref (a 0)), (1, .int t), (2, .int o)] [.int (bI (inS o 0 1439))] 19
    refine V.if_ne_b (P := inS o 0 1439) (pc := 19) 28 hC dX6_hand_19 (by decide) (fun c_19 => ?_) (fun c_19 => ?_)
    · refine V.aload_n (pc := 28) 0 hC dX6_hand_28 rfl ?_
      refine V.get (pc := 29) (v := .ref (a 1)) hC cf_X6 0 0 fl_X6_10 (by decide) gx_0 rfl dX6_hand_29 ?_
      refine V.get (pc := 32) (v := .int (σ 10 0)) hC cf_X3 1 0 fl_X6_61 (by decide) gx_1 rfl dX6_hand_32 ?_
      refine V.eqi (y := μ 0 2) (hT.1.1) ?_
      refine V.iconst (pc := 35) 4 hC dX6_hand_35 (by decide) ?_
      refine V.icmp_lt (pc := 36) 45 hC dX6_hand_36 (by decide) (fun c_36 => ?_) (fun c_36 => ?_)
      · have nc_36 : nN (μ 0 2) < 4 := (nlt hI.hn (nl 4) (by omega) (by omega)).mp c_36
        have hnf : ¬ μ 0 2 = 4 := fun z => by have := nN_of (n := 4) z (by omega); omega
        refine V.aload_n (pc := 45) 0 hC dX6_hand_45 rfl ?_
        refine V.get (pc := 46) (v := .ref (a 1)) hC cf_X6 0 0 fl_X6_10 (by decide) gx_0 rfl dX6_hand_46 ?_
        refine V.iload_n (pc := 49) 1 hC dX6_hand_49 rfl ?_
        refine V.iload_n (pc := 50) 2 hC dX6_hand_50 rfl ?_
        refine V.callV0 (pc := 51) (as := [.int t, .int o]) hC (c_X3_addHand σ ν (μ 0) t o hT hI (by omega)) mu_X3_addHand ml_X6_65 (by decide) ⟨1, 3, TX3, 17, _, rfl, gx_1⟩ rfl (Nat.le_of_ble_eq_true rfl) dX6_hand_51 ?_
        rintro _ ⟨f51_0, f51_1, i51_2⟩ ⟨rfl, hu51_0, hu51_1, hu51_2⟩
        have hu51_0 : f51_0 = upd (σ 11) (nN ((μ 0) 2)) t := hu51_0
        have hu51_1 : f51_1 = upd (σ 12) (nN ((μ 0) 2)) o := hu51_1
        have hu51_2 : i51_2 = (μ 0) 2 + 1 := hu51_2
        show V X (wX k g a (va_up (va_up (va_up σ 11 f51_0) 12 f51_1) 10 (fun _ => i51_2)) ν) [(0, .ref (a 0)), (1, .int t), (2, .int o)] [.int ((μ 0) 2)] 54
        exact hR ((μ 0) 2) ((va_up (va_up (va_up σ 11 f51_0) 12 f51_1) 10 (fun _ => i51_2)), ν) _ _ dX6_hand_54 rfl (opc (m := row μ (upd (upd (upd (μ 0) 2 (μ 0 2 + 1)) (7 + 2 * nN (μ 0 2)) t) (8 + 2 * nN (μ 0 2)) o)) (by rw [op_hand, if_neg (not_not_intro c_8), if_neg (not_not_intro c_19), if_neg hnf] <;> rfl) (hRR.town (fun j hj => by dsimp only [va_up]; repeat rw [if_neg (by omega)]) (Rx_iff.mpr ⟨by rw [hu51_0, hu51_1]; exact XH_add gH (by omega) hu51_2, gM.c (fun j hj => by unfold upd; repeat rw [if_neg (by omega)]), gP.c (fun j hj => by unfold upd; repeat rw [if_neg (by omega)]), gT.c (fun j hj => by unfold upd; repeat rw [if_neg (by omega)]), gB.c hI.bb (fun j hj => by unfold upd; repeat rw [if_neg (by omega)]), gW.c (fun j hj => by unfold upd; repeat rw [if_neg (by omega)]), g0.c (hI.lb (by omega)) (fun j hj => by unfold upd; repeat rw [if_neg (by omega)]), g1.c (hI.lb (by omega)) (fun j hj => by unfold upd; repeat rw [if_neg (by omega)])⟩) (hI.hand (by omega) c_8 c_19) (show BF _ from hRR.2.1)))
      · have nc_36 : ¬ (nN (μ 0 2) < 4) := fun z => c_36 ((nlt hI.hn (nl 4) (by omega) (by omega)).mpr z)
        have hyf : μ 0 2 = 4 := by rw [hI.hn, show nN (μ 0 2) = 4 by omega]; rfl
        refine V.aload_n (pc := 39) 0 hC dX6_hand_39 rfl ?_
        refine V.iconst (pc := 40) 4 hC dX6_hand_40 (by decide) ?_
        refine V.sts (st' := [.int (nI 4), .ref (a 0)]) (stc (nl 4) (stk rfl)) ?_
        refine V.callV0 (pc := 41) (as := [.int (nI 4)]) hC (c_X6_error σ ν 4 (by omega)) mu_X6_error ml_X6_57 (by decide) ⟨0, 6, TX6, 8, _, rfl, gx_0⟩ rfl (Nat.le_of_ble_eq_true rfl) dX6_hand_41 ?_
        rintro _ f41_0 ⟨rfl, hu41_0⟩
        have hu41_0 : f41_0 = upd (σ 0) 4 (σ 0 4 + 1) := hu41_0
        show V X (wX k g a (va_up σ 0 f41_0) ν) [(0, .ref (a 0)), (1, .int t), (2, .int o)] [.int (lowE 4)] 44
        exact hR (lowE 4) ((va_up σ 0 f41_0), ν) _ _ dX6_hand_44 rfl (ope (by rw [op_hand, if_neg (not_not_intro c_8), if_neg (not_not_intro c_19), if_pos hyf] <;> rfl) (hRR.er (by omega) hu41_0))
    · refine V.aload_n (pc := 22) 0 hC dX6_hand_22 rfl ?_
      refine V.iconst (pc := 23) 1 hC dX6_hand_23 (by decide) ?_
      refine V.sts (st' := [.int (nI 1), .ref (a 0)]) (stc (nl 1) (stk rfl)) ?_
      refine V.callV0 (pc := 24) (as := [.int (nI 1)]) hC (c_X6_error σ ν 1 (by omega)) mu_X6_error ml_X6_57 (by decide) ⟨0, 6, TX6, 8, _, rfl, gx_0⟩ rfl (Nat.le_of_ble_eq_true rfl) dX6_hand_24 ?_
      rintro _ f24_0 ⟨rfl, hu24_0⟩
      have hu24_0 : f24_0 = upd (σ 0) 1 (σ 0 1 + 1) := hu24_0
      show V X (wX k g a (va_up σ 0 f24_0) ν) [(0, .ref (a 0)), (1, .int t), (2, .int o)] [.int (lowE 1)] 27
      exact hR (lowE 1) ((va_up σ 0 f24_0), ν) _ _ dX6_hand_27 rfl (ope (by rw [op_hand, if_neg (not_not_intro c_8), if_pos c_19] <;> rfl) (hRR.er (by omega) hu24_0))
set_option maxHeartbeats 4000000 in
set_option maxRecDepth 100000 in
theorem c_X6_home {l : Launch} {D : va_G} {k : Nat → ClassId} {g a : Nat → Nat} (σ ν μ : St) (h f : Int32) (hRR : RQ σ μ) : Ct l D k g yX6_home cX6_home 3 (some .int) 2 43 [.ref (a 0), .int h, .int f] (S := St × St) (wX k g a σ ν) (fun uu => wX k g a uu.1 uu.2) (fun vv uu => vv = some (.int ((op_home h f μ).1)) ∧ RQ uu.1 (op_home h f μ).2) := by
  refine Ct.ofI RX6 rfl (by decide +kernel) (Nat.le_of_ble_eq_true rfl) (fun X hC hR => ?_)
  have hT := hRR.1.2.2.1.1; have hI := hRR.1.2.2.1.2
  have hb4 := hI.hb; have hb8 := hI.mb; have hb6 := hI.pb; have hbm := hI.ob0; have hbt := hI.bb; have hbw := hI.wb
  obtain ⟨gH, gM, gP, gT, gB, gW, g0, g1⟩ := Rx_iff.mp hT
  show V X (wX k g a σ ν) [(0, .ref (a 0)), (1, .int h), (2, .int f)] [] 0
  refine V.aload_n (pc := 0) 0 hC dX6_home_0 rfl ?_
  refine V.get (pc := 1) (v := .ref (a 1)) hC cf_X6 0 0 fl_X6_10 (by decide) gx_0 rfl dX6_home_1 ?_
  refine V.iload_n (pc := 4) 1 hC dX6_home_4 rfl ?_
  refine V.callV0 (pc := 5) (as := [.int h]) hC (c_X3_hasHand σ ν (μ 0) h hT hI) mu_X3_hasHand ml_X6_69 (by decide) ⟨1, 3, TX3, 17, _, rfl, gx_1⟩ rfl (Nat.le_of_ble_eq_true rfl) dX6_home_5 ?_
  rintro _ _ rfl
  show V X (wX k g a σ ν) [(0, .ref (a 0)), (1, .int h), (2, .int f)] [.int (bI (inS h 0 ((μ 0) 2 - 1)))] 8
  refine V.if_eq_b (P := inS h 0 ((μ 0) 2 - 1)) (pc := 8) 21 hC dX6_home_8 (by decide) (fun c_8 => ?_) (fun c_8 => ?_)
  · refine V.aload_n (pc := 21) 0 hC dX6_home_21 rfl ?_
    refine V.iconst (pc := 22) 1 hC dX6_home_22 (by decide) ?_
    refine V.sts (st' := [.int (nI 1), .ref (a 0)]) (stc (nl 1) (stk rfl)) ?_
    refine V.callV0 (pc := 23) (as := [.int (nI 1)]) hC (c_X6_error σ ν 1 (by omega)) mu_X6_error ml_X6_57 (by decide) ⟨0, 6, TX6, 8, _, rfl, gx_0⟩ rfl (Nat.le_of_ble_eq_true rfl) dX6_home_23 ?_
    rintro _ f23_0 ⟨rfl, hu23_0⟩
    have hu23_0 : f23_0 = upd (σ 0) 1 (σ 0 1 + 1) := hu23_0
    show V X (wX k g a (va_up σ 0 f23_0) ν) [(0, .ref (a 0)), (1, .int h), (2, .int f)] [.int (lowE 1)] 26
    exact hR (lowE 1) ((va_up σ 0 f23_0), ν) _ _ dX6_home_26 rfl (ope (by rw [op_home, if_pos c_8] <;> rfl) (hRR.er (by omega) hu23_0))
  · refine V.iload_n (pc := 11) 2 hC dX6_home_11 rfl ?_
    refine V.iconst (pc := 12) 0 hC dX6_home_12 (by decide) ?_
    refine V.bipush (pc := 13) 9 hC dX6_home_13 (by decide) ?_
    refine V.callS0 (pc := 15) (as := [.int f, .int 0, .int 9]) hC (c_X6_within f 0 9 ) ms_X6_within ml_X6_53 (by decide) rfl (Nat.le_of_ble_eq_true rfl) dX6_home_15 ?_
    rintro _ _ rfl
    show V X (wX k g a σ ν) [(0, .ref (a 0)), (1, .int h), (2, .int f)] [.int (bI (inS f 0 9))] 18
    refine V.if_ne_b (P := inS f 0 9) (pc := 18) 27 hC dX6_home_18 (by decide) (fun c_18 => ?_) (fun c_18 => ?_)
    · refine V.aload_n (pc := 27) 0 hC dX6_home_27 rfl ?_
      refine V.get (pc := 28) (v := .ref (a 1)) hC cf_X6 0 0 fl_X6_10 (by decide) gx_0 rfl dX6_home_28 ?_
      refine V.get (pc := 31) (v := .int (σ 13 0)) hC cf_X3 1 3 fl_X6_91 (by decide) gx_1 rfl dX6_home_31 ?_
      refine V.eqi (y := μ 0 3) (hT.2.1.1) ?_
      refine V.bipush (pc := 34) 8 hC dX6_home_34 (by decide) ?_
      refine V.icmp_lt (pc := 36) 45 hC dX6_home_36 (by decide) (fun c_36 => ?_) (fun c_36 => ?_)
      · have nc_36 : nN (μ 0 3) < 8 := (nlt hI.mn (nl 8) (by omega) (by omega)).mp c_36
        have hnf : ¬ μ 0 3 = 8 := fun z => by have := nN_of (n := 8) z (by omega); omega
        refine V.aload_n (pc := 45) 0 hC dX6_home_45 rfl ?_
        refine V.get (pc := 46) (v := .ref (a 1)) hC cf_X6 0 0 fl_X6_10 (by decide) gx_0 rfl dX6_home_46 ?_
        refine V.iload_n (pc := 49) 1 hC dX6_home_49 rfl ?_
        refine V.iload_n (pc := 50) 2 hC dX6_home_50 rfl ?_
        refine V.callV0 (pc := 51) (as := [.int h, .int f]) hC (c_X3_addHome σ ν (μ 0) h f hT hI (by omega)) mu_X3_addHome ml_X6_94 (by decide) ⟨1, 3, TX3, 17, _, rfl, gx_1⟩ rfl (Nat.le_of_ble_eq_true rfl) dX6_home_51 ?_
        rintro _ ⟨f51_0, f51_1, i51_2⟩ ⟨rfl, hu51_0, hu51_1, hu51_2⟩
        have hu51_0 : f51_0 = upd (σ 14) (nN ((μ 0) 3)) h := hu51_0
        have hu51_1 : f51_1 = upd (σ 15) (nN ((μ 0) 3)) f := hu51_1
        have hu51_2 : i51_2 = (μ 0) 3 + 1 := hu51_2
        show V X (wX k g a (va_up (va_up (va_up σ 14 f51_0) 15 f51_1) 13 (fun _ => i51_2)) ν) [(0, .ref (a 0)), (1, .int h), (2, .int f)] [.int ((μ 0) 3)] 54
        exact hR ((μ 0) 3) ((va_up (va_up (va_up σ 14 f51_0) 15 f51_1) 13 (fun _ => i51_2)), ν) _ _ dX6_home_54 rfl (opc (m := row μ (upd (upd (upd (μ 0) 3 (μ 0 3 + 1)) (15 + 2 * nN (μ 0 3)) h) (16 + 2 * nN (μ 0 3)) f)) (by rw [op_home, if_neg (not_not_intro c_8), if_neg (not_not_intro c_18), if_neg hnf] <;> rfl) (hRR.town (fun j hj => by dsimp only [va_up]; repeat rw [if_neg (by omega)]) (Rx_iff.mpr ⟨gH.c (fun j hj => by unfold upd; repeat rw [if_neg (by omega)]), by rw [hu51_0, hu51_1]; exact XM_add gM (by omega) hu51_2, gP.c (fun j hj => by unfold upd; repeat rw [if_neg (by omega)]), gT.c (fun j hj => by unfold upd; repeat rw [if_neg (by omega)]), gB.c hI.bb (fun j hj => by unfold upd; repeat rw [if_neg (by omega)]), gW.c (fun j hj => by unfold upd; repeat rw [if_neg (by omega)]), g0.c (hI.lb (by omega)) (fun j hj => by unfold upd; repeat rw [if_neg (by omega)]), g1.c (hI.lb (by omega)) (fun j hj => by unfold upd; repeat rw [if_neg (by omega)])⟩) (hI.home (by omega) c_8 c_18) (show BF _ from hRR.2.1)))
      · have nc_36 : ¬ (nN (μ 0 3) < 8) := fun z => c_36 ((nlt hI.mn (nl 8) (by omega) (by omega)).mpr z)
        have hyf : μ 0 3 = 8 := by rw [hI.mn, show nN (μ 0 3) = 8 by omega]; rfl
        refine V.aload_n (pc := 39) 0 hC dX6_home_39 rfl ?_
        refine V.iconst (pc := 40) 4 hC dX6_home_40 (by decide) ?_
        refine V.sts (st' := [.int (nI 4), .ref (a 0)]) (stc (nl 4) (stk rfl)) ?_
        refine V.callV0 (pc := 41) (as := [.int (nI 4)]) hC (c_X6_error σ ν 4 (by omega)) mu_X6_error ml_X6_57 (by decide) ⟨0, 6, TX6, 8, _, rfl, gx_0⟩ rfl (Nat.le_of_ble_eq_true rfl) dX6_home_41 ?_
        rintro _ f41_0 ⟨rfl, hu41_0⟩
        have hu41_0 : f41_0 = upd (σ 0) 4 (σ 0 4 + 1) := hu41_0
        show V X (wX k g a (va_up σ 0 f41_0) ν) [(0, .ref (a 0)), (1, .int h), (2, .int f)] [.int (lowE 4)] 44
        exact hR (lowE 4) ((va_up σ 0 f41_0), ν) _ _ dX6_home_44 rfl (ope (by rw [op_home, if_neg (not_not_intro c_8), if_neg (not_not_intro c_18), if_pos hyf] <;> rfl) (hRR.er (by omega) hu41_0))
    · refine V.aload_n (pc := 21) 0 hC dX6_home_21 rfl ?_
      refine V.iconst (pc := 22) 1 hC dX6_home_22 (by decide) ?_
      refine V.sts (st' := [.int (nI 1), .ref (a 0)]) (stc (nl 1) (stk rfl)) ?_
      refine V.callV0 (pc := 23) (as := [.int (nI 1)]) hC (c_X6_error σ ν 1 (by omega)) mu_X6_error ml_X6_57 (by decide) ⟨0, 6, TX6, 8, _, rfl, gx_0⟩ rfl (Nat.le_of_ble_eq_true rfl) dX6_home_23 ?_
      rintro _ f23_0 ⟨rfl, hu23_0⟩
      have hu23_0 : f23_0 = upd (σ 0) 1 (σ 0 1 + 1) := hu23_0
      show V X (wX k g a (va_up σ 0 f23_0) ν) [(0, .ref (a 0)), (1, .int h), (2, .int f)] [.int (lowE 1)] 26
      exact hR (lowE 1) ((va_up σ 0 f23_0), ν) _ _ dX6_home_26 rfl (ope (by rw [op_home, if_neg (not_not_intro c_8), if_pos c_18] <;> rfl) (hRR.er (by omega) hu23_0))
set_option maxHeartbeats 4000000 in
set_option maxRecDepth 100000 in
theorem c_X6_person {l : Launch} {D : va_G} {k : Nat → ClassId} {g a : Nat → Nat} (σ ν μ : St) (km h : Int32) (hRR : RQ σ μ) : Ct l D k g yX6_person cX6_person 3 (some .int) 2 44 [.ref (a 0), .int km, .int h] (S := St × St) (wX k g a σ ν) (fun uu => wX k g a uu.1 uu.2) (fun vv uu => vv = some (.int ((op_person km h μ).1)) ∧ RQ uu.1 (op_person km h μ).2) := by
  refine Ct.ofI RX6 rfl (by decide +kernel) (Nat.le_of_ble_eq_true rfl) (fun X hC hR => ?_)
  have hT := hRR.1.2.2.1.1; have hI := hRR.1.2.2.1.2
  have hb4 := hI.hb; have hb8 := hI.mb; have hb6 := hI.pb; have hbm := hI.ob0; have hbt := hI.bb; have hbw := hI.wb
  obtain ⟨gH, gM, gP, gT, gB, gW, g0, g1⟩ := Rx_iff.mp hT
  show V X (wX k g a σ ν) [(0, .ref (a 0)), (1, .int km), (2, .int h)] [] 0
  refine V.iload_n (pc := 0) 1 hC dX6_person_0 rfl ?_
  refine V.callS0 (pc := 1) (as := [.int km]) hC (c_X6_isKindWithNumber km ) ms_X6_isKindWithNumber ml_X6_112 (by decide) rfl (Nat.le_of_ble_eq_true rfl) dX6_person_1 ?_
  rintro _ _ rfl
  show V X (wX k g a σ ν) [(0, .ref (a 0)), (1, .int km), (2, .int h)] [.int (bI (inS km 0 69))] 4
  refine V.if_eq_b (P := inS km 0 69) (pc := 4) 18 hC dX6_person_4 (by decide) (fun c_4 => ?_) (fun c_4 => ?_)
  · refine V.aload_n (pc := 18) 0 hC dX6_person_18 rfl ?_
    refine V.iconst (pc := 19) 1 hC dX6_person_19 (by decide) ?_
    refine V.sts (st' := [.int (nI 1), .ref (a 0)]) (stc (nl 1) (stk rfl)) ?_
    refine V.callV0 (pc := 20) (as := [.int (nI 1)]) hC (c_X6_error σ ν 1 (by omega)) mu_X6_error ml_X6_57 (by decide) ⟨0, 6, TX6, 8, _, rfl, gx_0⟩ rfl (Nat.le_of_ble_eq_true rfl) dX6_person_20 ?_
    rintro _ f20_0 ⟨rfl, hu20_0⟩
    have hu20_0 : f20_0 = upd (σ 0) 1 (σ 0 1 + 1) := hu20_0
    show V X (wX k g a (va_up σ 0 f20_0) ν) [(0, .ref (a 0)), (1, .int km), (2, .int h)] [.int (lowE 1)] 23
    exact hR (lowE 1) ((va_up σ 0 f20_0), ν) _ _ dX6_person_23 rfl (ope (by rw [op_person, if_pos c_4] <;> rfl) (hRR.er (by omega) hu20_0))
  · refine V.aload_n (pc := 7) 0 hC dX6_person_7 rfl ?_
    refine V.get (pc := 8) (v := .ref (a 1)) hC cf_X6 0 0 fl_X6_10 (by decide) gx_0 rfl dX6_person_8 ?_
    refine V.iload_n (pc := 11) 2 hC dX6_person_11 rfl ?_
    refine V.callV0 (pc := 12) (as := [.int h]) hC (c_X3_hasHome σ ν (μ 0) h hT hI) mu_X3_hasHome ml_X6_97 (by decide) ⟨1, 3, TX3, 17, _, rfl, gx_1⟩ rfl (Nat.le_of_ble_eq_true rfl) dX6_person_12 ?_
    rintro _ _ rfl
    show V X (wX k g a σ ν) [(0, .ref (a 0)), (1, .int km), (2, .int h)] [.int (bI (inS h 0 ((μ 0) 3 - 1)))] 15
    refine V.if_ne_b (P := inS h 0 ((μ 0) 3 - 1)) (pc := 15) 24 hC dX6_person_15 (by decide) (fun c_15 => ?_) (fun c_15 => ?_)
    · refine V.aload_n (pc := 24) 0 hC dX6_person_24 rfl ?_
      refine V.get (pc := 25) (v := .ref (a 1)) hC cf_X6 0 0 fl_X6_10 (by decide) gx_0 rfl dX6_person_25 ?_
      refine V.get (pc := 28) (v := .int (σ 16 0)) hC cf_X3 1 6 fl_X6_115 (by decide) gx_1 rfl dX6_person_28 ?_
      refine V.eqi (y := μ 0 4) (hT.2.2.1.1) ?_
      refine V.bipush (pc := 31) 6 hC dX6_person_31 (by decide) ?_
      refine V.icmp_lt (pc := 33) 42 hC dX6_person_33 (by decide) (fun c_33 => ?_) (fun c_33 => ?_)
      · have nc_33 : nN (μ 0 4) < 6 := (nlt hI.pn (nl 6) (by omega) (by omega)).mp c_33
        have hnf : ¬ μ 0 4 = 6 := fun z => by have := nN_of (n := 6) z (by omega); omega
        refine V.aload_n (pc := 42) 0 hC dX6_person_42 rfl ?_
        refine V.get (pc := 43) (v := .ref (a 1)) hC cf_X6 0 0 fl_X6_10 (by decide) gx_0 rfl dX6_person_43 ?_
        refine V.iload_n (pc := 46) 1 hC dX6_person_46 rfl ?_
        refine V.iload_n (pc := 47) 2 hC dX6_person_47 rfl ?_
        refine V.callV0 (pc := 48) (as := [.int km, .int h]) hC (c_X3_addPerson σ ν (μ 0) km h hT hI (by omega)) mu_X3_addPerson ml_X6_118 (by decide) ⟨1, 3, TX3, 17, _, rfl, gx_1⟩ rfl (Nat.le_of_ble_eq_true rfl) dX6_person_48 ?_
        rintro _ ⟨f48_0, f48_1, f48_2, i48_3⟩ ⟨rfl, hu48_0, hu48_1, hu48_2, hu48_3⟩
        have hu48_0 : f48_0 = upd (σ 17) (nN ((μ 0) 4)) (km / 10) := hu48_0
        have hu48_1 : f48_1 = upd (σ 18) (nN ((μ 0) 4)) (irm km 10) := hu48_1
        have hu48_2 : f48_2 = upd (σ 19) (nN ((μ 0) 4)) h := hu48_2
        have hu48_3 : i48_3 = (μ 0) 4 + 1 := hu48_3
        show V X (wX k g a (va_up (va_up (va_up (va_up σ 17 f48_0) 18 f48_1) 19 f48_2) 16 (fun _ => i48_3)) ν) [(0, .ref (a 0)), (1, .int km), (2, .int h)] [.int ((μ 0) 4)] 51
        exact hR ((μ 0) 4) ((va_up (va_up (va_up (va_up σ 17 f48_0) 18 f48_1) 19 f48_2) 16 (fun _ => i48_3)), ν) _ _ dX6_person_51 rfl (opc (m := row μ (upd (upd (upd (upd (μ 0) 4 (μ 0 4 + 1)) (31 + 3 * nN (μ 0 4)) (km / 10)) (32 + 3 * nN (μ 0 4)) (irm km 10)) (33 + 3 * nN (μ 0 4)) h)) (by rw [op_person, if_neg (not_not_intro c_4), if_neg (not_not_intro c_15), if_neg hnf] <;> rfl) (hRR.town (fun j hj => by dsimp only [va_up]; repeat rw [if_neg (by omega)]) (Rx_iff.mpr ⟨gH.c (fun j hj => by unfold upd; repeat rw [if_neg (by omega)]), gM.c (fun j hj => by unfold upd; repeat rw [if_neg (by omega)]), by rw [hu48_0, hu48_1, hu48_2]; exact XP_add gP (by omega) hu48_3, gT.c (fun j hj => by unfold upd; repeat rw [if_neg (by omega)]), gB.c hI.bb (fun j hj => by unfold upd; repeat rw [if_neg (by omega)]), gW.c (fun j hj => by unfold upd; repeat rw [if_neg (by omega)]), g0.c (hI.lb (by omega)) (fun j hj => by unfold upd; repeat rw [if_neg (by omega)]), g1.c (hI.lb (by omega)) (fun j hj => by unfold upd; repeat rw [if_neg (by omega)])⟩) (hI.person (by omega) c_4 c_15) (show BF _ from hRR.2.1)))
      · have nc_33 : ¬ (nN (μ 0 4) < 6) := fun z => c_33 ((nlt hI.pn (nl 6) (by omega) (by omega)).mpr z)
        have hyf : μ 0 4 = 6 := by rw [hI.pn, show nN (μ 0 4) = 6 by omega]; rfl
        refine V.aload_n (pc := 36) 0 hC dX6_person_36 rfl ?_
        refine V.iconst (pc := 37) 4 hC dX6_person_37 (by decide) ?_
        refine V.sts (st' := [.int (nI 4), .ref (a 0)]) (stc (nl 4) (stk rfl)) ?_
        refine V.callV0 (pc := 38) (as := [.int (nI 4)]) hC (c_X6_error σ ν 4 (by omega)) mu_X6_error ml_X6_57 (by decide) ⟨0, 6, TX6, 8, _, rfl, gx_0⟩ rfl (Nat.le_of_ble_eq_true rfl) dX6_person_38 ?_
        rintro _ f38_0 ⟨rfl, hu38_0⟩
        have hu38_0 : f38_0 = upd (σ 0) 4 (σ 0 4 + 1) := hu38_0
        show V X (wX k g a (va_up σ 0 f38_0) ν) [(0, .ref (a 0)), (1, .int km), (2, .int h)] [.int (lowE 4)] 41
        exact hR (lowE 4) ((va_up σ 0 f38_0), ν) _ _ dX6_person_41 rfl (ope (by rw [op_person, if_neg (not_not_intro c_4), if_neg (not_not_intro c_15), if_pos hyf] <;> rfl) (hRR.er (by omega) hu38_0))
    · refine V.aload_n (pc := 18) 0 hC dX6_person_18 rfl ?_
      refine V.iconst (pc := 19) 1 hC dX6_person_19 (by decide) ?_
      refine V.sts (st' := [.int (nI 1), .ref (a 0)]) (stc (nl 1) (stk rfl)) ?_
      refine V.callV0 (pc := 20) (as := [.int (nI 1)]) hC (c_X6_error σ ν 1 (by omega)) mu_X6_error ml_X6_57 (by decide) ⟨0, 6, TX6, 8, _, rfl, gx_0⟩ rfl (Nat.le_of_ble_eq_true rfl) dX6_person_20 ?_
      rintro _ f20_0 ⟨rfl, hu20_0⟩
      have hu20_0 : f20_0 = upd (σ 0) 1 (σ 0 1 + 1) := hu20_0
      show V X (wX k g a (va_up σ 0 f20_0) ν) [(0, .ref (a 0)), (1, .int km), (2, .int h)] [.int (lowE 1)] 23
      exact hR (lowE 1) ((va_up σ 0 f20_0), ν) _ _ dX6_person_23 rfl (ope (by rw [op_person, if_neg (not_not_intro c_4), if_pos c_15] <;> rfl) (hRR.er (by omega) hu20_0))
set_option maxHeartbeats 4000000 in
set_option maxRecDepth 100000 in
theorem c_X6_become {l : Launch} {D : va_G} {k : Nat → ClassId} {g a : Nat → Nat} (σ ν μ : St) (p km : Int32) (hRR : RQ σ μ) : Ct l D k g yX6_become cX6_become 4 (some .int) 2 43 [.ref (a 0), .int p, .int km] (S := St × St) (wX k g a σ ν) (fun uu => wX k g a uu.1 uu.2) (fun vv uu => vv = some (.int ((op_become p km μ).1)) ∧ RQ uu.1 (op_become p km μ).2) := by
  refine Ct.ofI RX6 rfl (by decide +kernel) (Nat.le_of_ble_eq_true rfl) (fun X hC hR => ?_)
  have hT := hRR.1.2.2.1.1; have hI := hRR.1.2.2.1.2
  have hb4 := hI.hb; have hb8 := hI.mb; have hb6 := hI.pb; have hbm := hI.ob0; have hbt := hI.bb; have hbw := hI.wb
  obtain ⟨gH, gM, gP, gT, gB, gW, g0, g1⟩ := Rx_iff.mp hT
  show V X (wX k g a σ ν) [(0, .ref (a 0)), (1, .int p), (2, .int km)] [] 0
  refine V.aload_n (pc := 0) 0 hC dX6_become_0 rfl ?_
  refine V.get (pc := 1) (v := .ref (a 1)) hC cf_X6 0 0 fl_X6_10 (by decide) gx_0 rfl dX6_become_1 ?_
  refine V.iload_n (pc := 4) 1 hC dX6_become_4 rfl ?_
  refine V.callV0 (pc := 5) (as := [.int p]) hC (c_X3_hasPerson σ ν (μ 0) p hT hI) mu_X3_hasPerson ml_X6_121 (by decide) ⟨1, 3, TX3, 17, _, rfl, gx_1⟩ rfl (Nat.le_of_ble_eq_true rfl) dX6_become_5 ?_
  rintro _ _ rfl
  show V X (wX k g a σ ν) [(0, .ref (a 0)), (1, .int p), (2, .int km)] [.int (bI (inS p 0 ((μ 0) 4 - 1)))] 8
  refine V.if_eq_b (P := inS p 0 ((μ 0) 4 - 1)) (pc := 8) 18 hC dX6_become_8 (by decide) (fun c_8 => ?_) (fun c_8 => ?_)
  · refine V.aload_n (pc := 18) 0 hC dX6_become_18 rfl ?_
    refine V.iconst (pc := 19) 1 hC dX6_become_19 (by decide) ?_
    refine V.sts (st' := [.int (nI 1), .ref (a 0)]) (stc (nl 1) (stk rfl)) ?_
    refine V.callV0 (pc := 20) (as := [.int (nI 1)]) hC (c_X6_error σ ν 1 (by omega)) mu_X6_error ml_X6_57 (by decide) ⟨0, 6, TX6, 8, _, rfl, gx_0⟩ rfl (Nat.le_of_ble_eq_true rfl) dX6_become_20 ?_
    rintro _ f20_0 ⟨rfl, hu20_0⟩
    have hu20_0 : f20_0 = upd (σ 0) 1 (σ 0 1 + 1) := hu20_0
    show V X (wX k g a (va_up σ 0 f20_0) ν) [(0, .ref (a 0)), (1, .int p), (2, .int km)] [.int (lowE 1)] 23
    exact hR (lowE 1) ((va_up σ 0 f20_0), ν) _ _ dX6_become_23 rfl (ope (by rw [op_become, if_pos c_8] <;> rfl) (hRR.er (by omega) hu20_0))
  · refine V.iload_n (pc := 11) 2 hC dX6_become_11 rfl ?_
    refine V.callS0 (pc := 12) (as := [.int km]) hC (c_X6_isKindWithNumber km ) ms_X6_isKindWithNumber ml_X6_112 (by decide) rfl (Nat.le_of_ble_eq_true rfl) dX6_become_12 ?_
    rintro _ _ rfl
    show V X (wX k g a σ ν) [(0, .ref (a 0)), (1, .int p), (2, .int km)] [.int (bI (inS km 0 69))] 15
    refine V.if_ne_b (P := inS km 0 69) (pc := 15) 24 hC dX6_become_15 (by decide) (fun c_15 => ?_) (fun c_15 => ?_)
    · have hh_p := inS_n c_8 hI.pn (by omega)
      refine V.aload_n (pc := 24) 0 hC dX6_become_24 rfl ?_
      refine V.get (pc := 25) (v := .ref (a 1)) hC cf_X6 0 0 fl_X6_10 (by decide) gx_0 rfl dX6_become_25 ?_
      refine V.get (pc := 28) (v := .ref (a 17)) hC cf_X3 1 7 fl_X6_124 (by decide) gx_1 rfl dX6_become_28 ?_
      refine V.iload_n (pc := 31) 1 hC dX6_become_31 rfl ?_
      refine V.iald (pc := 32) (f := σ 17) hC 12 (nN p) gx_12 hh_p.1 (by omega) (by decide) dX6_become_32 ?_
      refine V.eqi (y := μ 0 (31 + 3 * (nN p))) (hT.2.2.1.2.1 (nN p) (by omega)) ?_
      refine V.istore_n (pc := 33) [(3, .int (μ 0 (31 + 3 * (nN p)))), (0, .ref (a 0)), (1, .int p), (2, .int km)] hC dX6_become_33 (by decide) rfl ?_
      refine V.aload_n (pc := 34) 1 hC dX6_become_34 rfl ?_
      refine V.get (pc := 35) (v := .ref (a 1)) hC cf_X6 0 0 fl_X6_10 (by decide) gx_0 rfl dX6_become_35 ?_
      refine V.iload_n (pc := 38) 2 hC dX6_become_38 rfl ?_
      refine V.iload_n (pc := 39) 3 hC dX6_become_39 rfl ?_
      refine V.sts (st' := [.int km, .int (nI (nN p)), .ref (a 1)]) (stk (stc hh_p.1 (stk rfl))) ?_
      refine V.callV0 (pc := 40) (as := [.int (nI (nN p)), .int km]) hC (c_X3_setKind σ ν (μ 0) (nN p) km hT hI (by omega)) mu_X3_setKind ml_X6_142 (by decide) ⟨1, 3, TX3, 17, _, rfl, gx_1⟩ rfl (Nat.le_of_ble_eq_true rfl) dX6_become_40 ?_
      rintro _ ⟨f40_0, f40_1⟩ ⟨rfl, hu40_0, hu40_1⟩
      have hu40_0 : f40_0 = upd (σ 17) (nN p) (km / 10) := hu40_0
      have hu40_1 : f40_1 = upd (σ 18) (nN p) (irm km 10) := hu40_1
      show V X (wX k g a (va_up (va_up σ 17 f40_0) 18 f40_1) ν) [(3, .int (μ 0 (31 + 3 * (nN p)))), (0, .ref (a 0)), (1, .int p), (2, .int km)] [] 43
      refine V.iload_n (pc := 43) 0 hC dX6_become_43 rfl ?_
      exact hR (μ 0 (31 + 3 * (nN p))) ((va_up (va_up σ 17 f40_0) 18 f40_1), ν) _ _ dX6_become_44 rfl (opc (m := row μ (upd (upd (μ 0) (32 + 3 * nN p) (irm km 10)) (31 + 3 * nN p) (km / 10))) (by rw [op_become, if_neg (not_not_intro c_8), if_neg (not_not_intro c_15)] <;> rfl) (hRR.town (fun j hj => by dsimp only [va_up]; repeat rw [if_neg (by omega)]) (Rx_iff.mpr ⟨gH.c (fun j hj => by unfold upd; repeat rw [if_neg (by omega)]), gM.c (fun j hj => by unfold upd; repeat rw [if_neg (by omega)]), by rw [hu40_0, hu40_1]; exact XP_kind gP (by omega), gT.c (fun j hj => by unfold upd; repeat rw [if_neg (by omega)]), gB.c hI.bb (fun j hj => by unfold upd; repeat rw [if_neg (by omega)]), gW.c (fun j hj => by unfold upd; repeat rw [if_neg (by omega)]), g0.c (hI.lb (by omega)) (fun j hj => by unfold upd; repeat rw [if_neg (by omega)]), g1.c (hI.lb (by omega)) (fun j hj => by unfold upd; repeat rw [if_neg (by omega)])⟩) (hI.kind hh_p.2 c_15) (show BF _ from hRR.2.1)))
    · refine V.aload_n (pc := 18) 0 hC dX6_become_18 rfl ?_
      refine V.iconst (pc := 19) 1 hC dX6_become_19 (by decide) ?_
      refine V.sts (st' := [.int (nI 1), .ref (a 0)]) (stc (nl 1) (stk rfl)) ?_
      refine V.callV0 (pc := 20) (as := [.int (nI 1)]) hC (c_X6_error σ ν 1 (by omega)) mu_X6_error ml_X6_57 (by decide) ⟨0, 6, TX6, 8, _, rfl, gx_0⟩ rfl (Nat.le_of_ble_eq_true rfl) dX6_become_20 ?_
      rintro _ f20_0 ⟨rfl, hu20_0⟩
      have hu20_0 : f20_0 = upd (σ 0) 1 (σ 0 1 + 1) := hu20_0
      show V X (wX k g a (va_up σ 0 f20_0) ν) [(0, .ref (a 0)), (1, .int p), (2, .int km)] [.int (lowE 1)] 23
      exact hR (lowE 1) ((va_up σ 0 f20_0), ν) _ _ dX6_become_23 rfl (ope (by rw [op_become, if_neg (not_not_intro c_8), if_pos c_15] <;> rfl) (hRR.er (by omega) hu20_0))
set_option maxHeartbeats 4000000 in
set_option maxRecDepth 100000 in
theorem c_X6_jump {l : Launch} {D : va_G} {k : Nat → ClassId} {g a : Nat → Nat} (σ ν μ : St) (p h : Int32) (hRR : RQ σ μ) : Ct l D k g yX6_jump cX6_jump 4 (some .int) 5 120 [.ref (a 0), .int p, .int h] (S := St × St) (wX k g a σ ν) (fun uu => wX k g a uu.1 uu.2) (fun vv uu => vv = some (.int ((op_jump p h μ).1)) ∧ RQ uu.1 (op_jump p h μ).2) := by
  refine Ct.ofI RX6 rfl (by decide +kernel) (Nat.le_of_ble_eq_true rfl) (fun X hC hR => ?_)
  have hT := hRR.1.2.2.1.1; have hI := hRR.1.2.2.1.2
  have hb4 := hI.hb; have hb8 := hI.mb; have hb6 := hI.pb; have hbm := hI.ob0; have hbt := hI.bb; have hbw := hI.wb
  show V X (wX k g a σ ν) [(0, .ref (a 0)), (1, .int p), (2, .int h)] [] 0
  refine V.aload_n (pc := 0) 0 hC dX6_jump_0 rfl ?_
  refine V.get (pc := 1) (v := .ref (a 1)) hC cf_X6 0 0 fl_X6_10 (by decide) gx_0 rfl dX6_jump_1 ?_
  refine V.iload_n (pc := 4) 1 hC dX6_jump_4 rfl ?_
  refine V.callV0 (pc := 5) (as := [.int p]) hC (c_X3_hasPerson σ ν (μ 0) p hT hI) mu_X3_hasPerson ml_X6_121 (by decide) ⟨1, 3, TX3, 17, _, rfl, gx_1⟩ rfl (Nat.le_of_ble_eq_true rfl) dX6_jump_5 ?_
  rintro _ _ rfl
  show V X (wX k g a σ ν) [(0, .ref (a 0)), (1, .int p), (2, .int h)] [.int (bI (inS p 0 ((μ 0) 4 - 1)))] 8
  refine V.if_eq_b (P := inS p 0 ((μ 0) 4 - 1)) (pc := 8) 22 hC dX6_jump_8 (by decide) (fun c_8 => ?_) (fun c_8 => ?_)
  · refine V.aload_n (pc := 22) 0 hC dX6_jump_22 rfl ?_
    refine V.iconst (pc := 23) 1 hC dX6_jump_23 (by decide) ?_
    refine V.sts (st' := [.int (nI 1), .ref (a 0)]) (stc (nl 1) (stk rfl)) ?_
    refine V.callV0 (pc := 24) (as := [.int (nI 1)]) hC (c_X6_error σ ν 1 (by omega)) mu_X6_error ml_X6_57 (by decide) ⟨0, 6, TX6, 8, _, rfl, gx_0⟩ rfl (Nat.le_of_ble_eq_true rfl) dX6_jump_24 ?_
    rintro _ f24_0 ⟨rfl, hu24_0⟩
    have hu24_0 : f24_0 = upd (σ 0) 1 (σ 0 1 + 1) := hu24_0
    show V X (wX k g a (va_up σ 0 f24_0) ν) [(0, .ref (a 0)), (1, .int p), (2, .int h)] [.int (lowE 1)] 27
    exact hR (lowE 1) ((va_up σ 0 f24_0), ν) _ _ dX6_jump_27 rfl (ope (by rw [op_jump, if_pos c_8] <;> rfl) (hRR.er (by omega) hu24_0))
  · refine V.aload_n (pc := 11) 0 hC dX6_jump_11 rfl ?_
    refine V.get (pc := 12) (v := .ref (a 1)) hC cf_X6 0 0 fl_X6_10 (by decide) gx_0 rfl dX6_jump_12 ?_
    refine V.iload_n (pc := 15) 2 hC dX6_jump_15 rfl ?_
    refine V.callV0 (pc := 16) (as := [.int h]) hC (c_X3_hasHome σ ν (μ 0) h hT hI) mu_X3_hasHome ml_X6_97 (by decide) ⟨1, 3, TX3, 17, _, rfl, gx_1⟩ rfl (Nat.le_of_ble_eq_true rfl) dX6_jump_16 ?_
    rintro _ _ rfl
    show V X (wX k g a σ ν) [(0, .ref (a 0)), (1, .int p), (2, .int h)] [.int (bI (inS h 0 ((μ 0) 3 - 1)))] 19
    refine V.if_ne_b (P := inS h 0 ((μ 0) 3 - 1)) (pc := 19) 28 hC dX6_jump_19 (by decide) (fun c_19 => ?_) (fun c_19 => ?_)
    · have hh_p := inS_n c_8 hI.pn (by omega)
      have hh_h := inS_n c_19 hI.mn (by omega)
      refine V.aload_n (pc := 28) 0 hC dX6_jump_28 rfl ?_
      refine V.get (pc := 29) (v := .ref (a 1)) hC cf_X6 0 0 fl_X6_10 (by decide) gx_0 rfl dX6_jump_29 ?_
      refine V.get (pc := 32) (v := .ref (a 19)) hC cf_X3 1 9 fl_X6_130 (by decide) gx_1 rfl dX6_jump_32 ?_
      refine V.iload_n (pc := 35) 1 hC dX6_jump_35 rfl ?_
      refine V.iald (pc := 36) (f := σ 19) hC 14 (nN p) gx_14 hh_p.1 (by omega) (by decide) dX6_jump_36 ?_
      refine V.eqi (y := μ 0 (33 + 3 * (nN p))) (hT.2.2.1.2.2.2 (nN p) (by omega)) ?_
      refine V.istore_n (pc := 37) [(3, .int (μ 0 (33 + 3 * (nN p)))), (0, .ref (a 0)), (1, .int p), (2, .int h)] hC dX6_jump_37 (by decide) rfl ?_
      refine V.iload_n (pc := 38) 3 hC dX6_jump_38 rfl ?_
      refine V.iload_n (pc := 39) 0 hC dX6_jump_39 rfl ?_
      refine V.icmp_eq (pc := 40) 68 hC dX6_jump_40 (by decide) (fun c_40 => ?_) (fun c_40 => ?_)
      · refine V.aload_n (pc := 68) 1 hC dX6_jump_68 rfl ?_
        refine V.get (pc := 69) (v := .ref (a 1)) hC cf_X6 0 0 fl_X6_10 (by decide) gx_0 rfl dX6_jump_69 ?_
        refine V.get (pc := 72) (v := .ref (a 19)) hC cf_X3 1 9 fl_X6_130 (by decide) gx_1 rfl dX6_jump_72 ?_
        refine V.iload_n (pc := 75) 2 hC dX6_jump_75 rfl ?_
        refine V.iload_n (pc := 76) 3 hC dX6_jump_76 rfl ?_
        refine V.iast (pc := 77) (f := σ 19) hC 14 (nN p) (wX k g a (va_up σ 19 (upd (σ 19) (nN p) h)) ν) gx_14 hh_p.1 (by omega) (by decide) rfl dX6_jump_77 ?_
        refine V.iload_n (pc := 78) 0 hC dX6_jump_78 rfl ?_
        exact hR (μ 0 (33 + 3 * (nN p))) ((va_up σ 19 (upd (σ 19) (nN p) h)), ν) _ _ dX6_jump_79 rfl (opc (m := row μ (upd (μ 0) (33 + 3 * nN p) h)) (by rw [op_jump, if_neg (not_not_intro c_8), if_neg (not_not_intro c_19), if_pos (Or.inl c_40.symm)] <;> rfl) (hRR.town (fun j hj => by dsimp only [va_up]; repeat rw [if_neg (by omega)]) (hT.room hI (by omega) h) (hI.room (by omega) hh_h.1 hh_h.2) (show BF _ from hRR.2.1)))
      · refine V.aload_n (pc := 43) 1 hC dX6_jump_43 rfl ?_
        refine V.get (pc := 44) (v := .ref (a 1)) hC cf_X6 0 0 fl_X6_10 (by decide) gx_0 rfl dX6_jump_44 ?_
        refine V.iload_n (pc := 47) 2 hC dX6_jump_47 rfl ?_
        refine V.iload_n (pc := 48) 3 hC dX6_jump_48 rfl ?_
        refine V.aload_n (pc := 49) 1 hC dX6_jump_49 rfl ?_
        refine V.get (pc := 50) (v := .ref (a 1)) hC cf_X6 0 0 fl_X6_10 (by decide) gx_0 rfl dX6_jump_50 ?_
        refine V.get (pc := 53) (v := .int (σ 20 0)) hC cf_X3 1 10 fl_X6_79 (by decide) gx_1 rfl dX6_jump_53 ?_
        refine V.eqi (y := μ 0 0) (hT.2.2.2.1.1) ?_
        refine V.sts (st' := [.int (μ 0 0), .int (nI (nN h)), .int (nI (nN p)), .ref (a 1)]) (stk (stc hh_h.1 (stc hh_p.1 (stk rfl)))) ?_
        refine V.callV0 (pc := 56) (as := [.int (nI (nN p)), .int (nI (nN h)), .int (μ 0 0)]) hC (c_X3_gets σ ν (μ 0) (nN p) (nN h) (μ 0 0) hT hI hh_p.2 hh_h.2 (isN.mk hI.on0 (by omega) (by omega))) mu_X3_gets ml_X6_150 (by decide) ⟨1, 3, TX3, 17, _, rfl, gx_1⟩ rfl (Nat.le_of_ble_eq_true rfl) dX6_jump_56 ?_
        rintro _ f56_0 rfl
        show V X (wX k g a σ (va_up ν 31 f56_0)) [(3, .int (μ 0 (33 + 3 * (nN p)))), (0, .ref (a 0)), (1, .int p), (2, .int h)] [.int (bI (getsS (μ 0) (nN p) (nN ((μ 0) (33 + 3 * (nN p)))) (nN h) (μ 0 0)))] 59
        refine V.if_ne_b (P := getsS (μ 0) (nN p) (nN ((μ 0) (33 + 3 * (nN p)))) (nN h) (μ 0 0)) (pc := 59) 68 hC dX6_jump_59 (by decide) (fun c_59 => ?_) (fun c_59 => ?_)
        · refine V.aload_n (pc := 68) 1 hC dX6_jump_68 rfl ?_
          refine V.get (pc := 69) (v := .ref (a 1)) hC cf_X6 0 0 fl_X6_10 (by decide) gx_0 rfl dX6_jump_69 ?_
          refine V.get (pc := 72) (v := .ref (a 19)) hC cf_X3 1 9 fl_X6_130 (by decide) gx_1 rfl dX6_jump_72 ?_
          refine V.iload_n (pc := 75) 2 hC dX6_jump_75 rfl ?_
          refine V.iload_n (pc := 76) 3 hC dX6_jump_76 rfl ?_
          refine V.iast (pc := 77) (f := σ 19) hC 14 (nN p) (wX k g a (va_up σ 19 (upd (σ 19) (nN p) h)) (va_up ν 31 f56_0)) gx_14 hh_p.1 (by omega) (by decide) rfl dX6_jump_77 ?_
          refine V.iload_n (pc := 78) 0 hC dX6_jump_78 rfl ?_
          exact hR (μ 0 (33 + 3 * (nN p))) ((va_up σ 19 (upd (σ 19) (nN p) h)), (va_up ν 31 f56_0)) _ _ dX6_jump_79 rfl (opc (m := row μ (upd (μ 0) (33 + 3 * nN p) h)) (by rw [op_jump, if_neg (not_not_intro c_8), if_neg (not_not_intro c_19), if_pos (Or.inr c_59)] <;> rfl) (hRR.town (fun j hj => by dsimp only [va_up]; repeat rw [if_neg (by omega)]) (hT.room hI (by omega) h) (hI.room (by omega) hh_h.1 hh_h.2) (show BF _ from hRR.2.1)))
        · refine V.aload_n (pc := 62) 1 hC dX6_jump_62 rfl ?_
          refine V.iconst (pc := 63) 3 hC dX6_jump_63 (by decide) ?_
          refine V.sts (st' := [.int (nI 3), .ref (a 0)]) (stc (nl 3) (stk rfl)) ?_
          refine V.callV0 (pc := 64) (as := [.int (nI 3)]) hC (c_X6_error σ (va_up ν 31 f56_0) 3 (by omega)) mu_X6_error ml_X6_57 (by decide) ⟨0, 6, TX6, 8, _, rfl, gx_0⟩ rfl (Nat.le_of_ble_eq_true rfl) dX6_jump_64 ?_
          rintro _ f64_0 ⟨rfl, hu64_0⟩
          have hu64_0 : f64_0 = upd (σ 0) 3 (σ 0 3 + 1) := hu64_0
          show V X (wX k g a (va_up σ 0 f64_0) (va_up ν 31 f56_0)) [(3, .int (μ 0 (33 + 3 * (nN p)))), (0, .ref (a 0)), (1, .int p), (2, .int h)] [.int (lowE 3)] 67
          exact hR (lowE 3) ((va_up σ 0 f64_0), (va_up ν 31 f56_0)) _ _ dX6_jump_67 rfl (ope (by rw [op_jump, if_neg (not_not_intro c_8), if_neg (not_not_intro c_19), if_neg (fun q => q.elim (fun z => c_40 z.symm) c_59)] <;> rfl) (hRR.er (by omega) hu64_0))
    · refine V.aload_n (pc := 22) 0 hC dX6_jump_22 rfl ?_
      refine V.iconst (pc := 23) 1 hC dX6_jump_23 (by decide) ?_
      refine V.sts (st' := [.int (nI 1), .ref (a 0)]) (stc (nl 1) (stk rfl)) ?_
      refine V.callV0 (pc := 24) (as := [.int (nI 1)]) hC (c_X6_error σ ν 1 (by omega)) mu_X6_error ml_X6_57 (by decide) ⟨0, 6, TX6, 8, _, rfl, gx_0⟩ rfl (Nat.le_of_ble_eq_true rfl) dX6_jump_24 ?_
      rintro _ f24_0 ⟨rfl, hu24_0⟩
      have hu24_0 : f24_0 = upd (σ 0) 1 (σ 0 1 + 1) := hu24_0
      show V X (wX k g a (va_up σ 0 f24_0) ν) [(0, .ref (a 0)), (1, .int p), (2, .int h)] [.int (lowE 1)] 27
      exact hR (lowE 1) ((va_up σ 0 f24_0), ν) _ _ dX6_jump_27 rfl (ope (by rw [op_jump, if_neg (not_not_intro c_8), if_pos c_19] <;> rfl) (hRR.er (by omega) hu24_0))
set_option maxHeartbeats 4000000 in
set_option maxRecDepth 100000 in
theorem c_X6_minutes {l : Launch} {D : va_G} {k : Nat → ClassId} {g a : Nat → Nat} (σ ν μ : St) (m : Int32) (hRR : RQ σ μ) : Ct l D k g yX6_minutes cX6_minutes 2 (some .int) 1 22 [.ref (a 0), .int m] (S := St × St) (wX k g a σ ν) (fun uu => wX k g a uu.1 uu.2) (fun vv uu => vv = some (.int ((op_minutes m μ).1)) ∧ RQ uu.1 (op_minutes m μ).2) := by
  refine Ct.ofI RX6 rfl (by decide +kernel) (Nat.le_of_ble_eq_true rfl) (fun X hC hR => ?_)
  have hT := hRR.1.2.2.1.1; have hI := hRR.1.2.2.1.2
  have hb4 := hI.hb; have hb8 := hI.mb; have hb6 := hI.pb; have hbm := hI.ob0; have hbt := hI.bb; have hbw := hI.wb
  show V X (wX k g a σ ν) [(0, .ref (a 0)), (1, .int m)] [] 0
  refine V.iload_n (pc := 0) 1 hC dX6_minutes_0 rfl ?_
  refine V.iconst (pc := 1) 1 hC dX6_minutes_1 (by decide) ?_
  refine V.sipush (pc := 2) 720 hC dX6_minutes_2 (by decide) ?_
  refine V.callS0 (pc := 5) (as := [.int m, .int 1, .int 720]) hC (c_X6_within m 1 720 ) ms_X6_within ml_X6_53 (by decide) rfl (Nat.le_of_ble_eq_true rfl) dX6_minutes_5 ?_
  rintro _ _ rfl
  show V X (wX k g a σ ν) [(0, .ref (a 0)), (1, .int m)] [.int (bI (inS m 1 720))] 8
  refine V.if_ne_b (P := inS m 1 720) (pc := 8) 17 hC dX6_minutes_8 (by decide) (fun c_8 => ?_) (fun c_8 => ?_)
  · have hh_m := inS_1 c_8 (nl 1) (nl 720) (by omega) (by omega)
    refine V.aload_n (pc := 17) 0 hC dX6_minutes_17 rfl ?_
    refine V.get (pc := 18) (v := .ref (a 1)) hC cf_X6 0 0 fl_X6_10 (by decide) gx_0 rfl dX6_minutes_18 ?_
    refine V.get (pc := 21) (v := .int (σ 20 0)) hC cf_X3 1 10 fl_X6_79 (by decide) gx_1 rfl dX6_minutes_21 ?_
    refine V.eqi (y := μ 0 0) (hT.2.2.2.1.1) ?_
    refine V.iload_n (pc := 24) 1 hC dX6_minutes_24 rfl ?_
    refine V.iadd (pc := 25) hC dX6_minutes_25 ?_
    refine V.sipush (pc := 26) 9999 hC dX6_minutes_26 (by decide) ?_
    refine V.icmp_le (pc := 29) 38 hC dX6_minutes_29 (by decide) (fun c_29 => ?_) (fun c_29 => ?_)
    · have nc_29 : nN (μ 0 0) + nN m ≤ 9999 := (nle (ncast (b := nN (μ 0 0) + nN m) (nadd hI.on0 hh_m.1) (by omega)) (nl 9999) (by omega) (by omega)).mp c_29
      refine V.aload_n (pc := 38) 0 hC dX6_minutes_38 rfl ?_
      refine V.get (pc := 39) (v := .ref (a 1)) hC cf_X6 0 0 fl_X6_10 (by decide) gx_0 rfl dX6_minutes_39 ?_
      refine V.dup (pc := 42) hC dX6_minutes_42 rfl ?_
      refine V.get (pc := 43) (v := .int (σ 20 0)) hC cf_X3 1 10 fl_X6_79 (by decide) gx_1 rfl dX6_minutes_43 ?_
      refine V.eqi (y := μ 0 0) (hT.2.2.2.1.1) ?_
      refine V.iload_n (pc := 46) 1 hC dX6_minutes_46 rfl ?_
      refine V.iadd (pc := 47) hC dX6_minutes_47 ?_
      refine V.put (pc := 48) (v := .int ((μ 0 0) + m)) hC cf_X3 1 10 (wX k g a (va_up σ 20 (fun _ => (μ 0 0) + m)) ν) fl_X6_79 (by decide) gx_1 rfl rfl rfl (Nat.le_of_ble_eq_true rfl) rfl dX6_minutes_48 ?_
      refine V.aload_n (pc := 51) 0 hC dX6_minutes_51 rfl ?_
      refine V.get (pc := 52) (v := .ref (a 1)) hC cf_X6 0 0 fl_X6_10 (by decide) gx_0 rfl dX6_minutes_52 ?_
      refine V.get (pc := 55) (v := .int ((μ 0 0) + m)) hC cf_X3 1 10 fl_X6_79 (by decide) gx_1 rfl dX6_minutes_55 ?_
      exact hR ((μ 0 0) + m) ((va_up σ 20 (fun _ => (μ 0 0) + m)), ν) _ _ dX6_minutes_58 rfl (opc (m := row μ (upd (μ 0) 0 (μ 0 0 + m))) (by rw [op_minutes, if_neg (not_not_intro c_8), if_neg (i_ge c_29)] <;> rfl) (hRR.town (fun j hj => by dsimp only [va_up]; repeat rw [if_neg (by omega)]) (hT.min hI _) (hI.min (isN.mk (nadd hI.on0 hh_m.1) (by omega) (by omega))) (show BF _ from hRR.2.1)))
    · have nc_29 : ¬ (nN (μ 0 0) + nN m ≤ 9999) := fun z => c_29 ((nle (ncast (b := nN (μ 0 0) + nN m) (nadd hI.on0 hh_m.1) (by omega)) (nl 9999) (by omega) (by omega)).mpr z)
      refine V.aload_n (pc := 32) 0 hC dX6_minutes_32 rfl ?_
      refine V.iconst (pc := 33) 3 hC dX6_minutes_33 (by decide) ?_
      refine V.sts (st' := [.int (nI 3), .ref (a 0)]) (stc (nl 3) (stk rfl)) ?_
      refine V.callV0 (pc := 34) (as := [.int (nI 3)]) hC (c_X6_error σ ν 3 (by omega)) mu_X6_error ml_X6_57 (by decide) ⟨0, 6, TX6, 8, _, rfl, gx_0⟩ rfl (Nat.le_of_ble_eq_true rfl) dX6_minutes_34 ?_
      rintro _ f34_0 ⟨rfl, hu34_0⟩
      have hu34_0 : f34_0 = upd (σ 0) 3 (σ 0 3 + 1) := hu34_0
      show V X (wX k g a (va_up σ 0 f34_0) ν) [(0, .ref (a 0)), (1, .int m)] [.int (lowE 3)] 37
      exact hR (lowE 3) ((va_up σ 0 f34_0), ν) _ _ dX6_minutes_37 rfl (ope (by rw [op_minutes, if_neg (not_not_intro c_8), if_pos (i_nle c_29)] <;> rfl) (hRR.er (by omega) hu34_0))
  · refine V.aload_n (pc := 11) 0 hC dX6_minutes_11 rfl ?_
    refine V.iconst (pc := 12) 1 hC dX6_minutes_12 (by decide) ?_
    refine V.sts (st' := [.int (nI 1), .ref (a 0)]) (stc (nl 1) (stk rfl)) ?_
    refine V.callV0 (pc := 13) (as := [.int (nI 1)]) hC (c_X6_error σ ν 1 (by omega)) mu_X6_error ml_X6_57 (by decide) ⟨0, 6, TX6, 8, _, rfl, gx_0⟩ rfl (Nat.le_of_ble_eq_true rfl) dX6_minutes_13 ?_
    rintro _ f13_0 ⟨rfl, hu13_0⟩
    have hu13_0 : f13_0 = upd (σ 0) 1 (σ 0 1 + 1) := hu13_0
    show V X (wX k g a (va_up σ 0 f13_0) ν) [(0, .ref (a 0)), (1, .int m)] [.int (lowE 1)] 16
    exact hR (lowE 1) ((va_up σ 0 f13_0), ν) _ _ dX6_minutes_16 rfl (ope (by rw [op_minutes, if_pos c_8] <;> rfl) (hRR.er (by omega) hu13_0))
set_option maxHeartbeats 4000000 in
set_option maxRecDepth 100000 in
theorem c_X6_seed {l : Launch} {D : va_G} {k : Nat → ClassId} {g a : Nat → Nat} (σ ν μ : St) (v : Int32) (hRR : RQ σ μ) : Ct l D k g yX6_seed cX6_seed 3 (some .int) 0 0 [.ref (a 0), .int v] (S := St × St) (wX k g a σ ν) (fun uu => wX k g a uu.1 uu.2) (fun vv uu => vv = some (.int ((op_seed v μ).1)) ∧ RQ uu.1 (op_seed v μ).2) := by
  refine Ct.ofI RX6 rfl (by decide +kernel) (Nat.le_of_ble_eq_true rfl) (fun X hC hR => ?_)
  have hT := hRR.1.2.2.1.1; have hI := hRR.1.2.2.1.2
  have hb4 := hI.hb; have hb8 := hI.mb; have hb6 := hI.pb; have hbm := hI.ob0; have hbt := hI.bb; have hbw := hI.wb
  show V X (wX k g a σ ν) [(0, .ref (a 0)), (1, .int v)] [] 0
  refine V.aload_n (pc := 0) 0 hC dX6_seed_0 rfl ?_
  refine V.get (pc := 1) (v := .ref (a 1)) hC cf_X6 0 0 fl_X6_10 (by decide) gx_0 rfl dX6_seed_1 ?_
  refine V.get (pc := 4) (v := .int (σ 21 0)) hC cf_X3 1 11 fl_X6_194 (by decide) gx_1 rfl dX6_seed_4 ?_
  refine V.eqi (y := μ 0 1) (hT.2.2.2.1.2) ?_
  refine V.istore_n (pc := 7) [(2, .int (μ 0 1)), (0, .ref (a 0)), (1, .int v)] hC dX6_seed_7 (by decide) rfl ?_
  refine V.aload_n (pc := 8) 1 hC dX6_seed_8 rfl ?_
  refine V.get (pc := 9) (v := .ref (a 1)) hC cf_X6 0 0 fl_X6_10 (by decide) gx_0 rfl dX6_seed_9 ?_
  refine V.iload_n (pc := 12) 2 hC dX6_seed_12 rfl ?_
  refine V.put (pc := 13) (v := .int v) hC cf_X3 1 11 (wX k g a (va_up σ 21 (fun _ => v)) ν) fl_X6_194 (by decide) gx_1 rfl rfl rfl (Nat.le_of_ble_eq_true rfl) rfl dX6_seed_13 ?_
  refine V.iload_n (pc := 16) 0 hC dX6_seed_16 rfl ?_
  exact hR (μ 0 1) ((va_up σ 21 (fun _ => v)), ν) _ _ dX6_seed_17 rfl (opc (m := row μ (upd (μ 0) 1 v)) (by rw [op_seed] <;> rfl) (hRR.town (fun j hj => by dsimp only [va_up]; repeat rw [if_neg (by omega)]) (hT.z hI _) (hI.z _) (show BF _ from hRR.2.1)))
set_option maxHeartbeats 4000000 in
set_option maxRecDepth 100000 in
theorem c_X6_tell {l : Launch} {D : va_G} {k : Nat → ClassId} {g a : Nat → Nat} (σ ν μ : St) (v : Int32) (hRR : RQ σ μ) : Ct l D k g yX6_tell cX6_tell 2 (some .int) 1 21 [.ref (a 0), .int v] (S := St × St) (wX k g a σ ν) (fun uu => wX k g a uu.1 uu.2) (fun vv uu => vv = some (.int ((op_tell v μ).1)) ∧ RQ uu.1 (op_tell v μ).2) := by
  refine Ct.ofI RX6 rfl (by decide +kernel) (Nat.le_of_ble_eq_true rfl) (fun X hC hR => ?_)
  have hT := hRR.1.2.2.1.1; have hI := hRR.1.2.2.1.2
  have hb4 := hI.hb; have hb8 := hI.mb; have hb6 := hI.pb; have hbm := hI.ob0; have hbt := hI.bb; have hbw := hI.wb
  show V X (wX k g a σ ν) [(0, .ref (a 0)), (1, .int v)] [] 0
  refine V.aload_n (pc := 0) 0 hC dX6_tell_0 rfl ?_
  refine V.get (pc := 1) (v := .ref (a 1)) hC cf_X6 0 0 fl_X6_10 (by decide) gx_0 rfl dX6_tell_1 ?_
  refine V.get (pc := 4) (v := .int (σ 24 0)) hC cf_X3 1 14 fl_X6_280 (by decide) gx_1 rfl dX6_tell_4 ?_
  refine V.eqi (y := μ 0 6) (hT.2.2.2.2.2.1.1) ?_
  refine V.bipush (pc := 7) 24 hC dX6_tell_7 (by decide) ?_
  refine V.icmp_lt (pc := 9) 18 hC dX6_tell_9 (by decide) (fun c_9 => ?_) (fun c_9 => ?_)
  · have nc_9 : nN (μ 0 6) < 24 := (nlt hI.wn (nl 24) (by omega) (by omega)).mp c_9
    have hnf : ¬ μ 0 6 = 24 := fun z => by have := nN_of (n := 24) z (by omega); omega
    refine V.aload_n (pc := 18) 0 hC dX6_tell_18 rfl ?_
    refine V.get (pc := 19) (v := .ref (a 1)) hC cf_X6 0 0 fl_X6_10 (by decide) gx_0 rfl dX6_tell_19 ?_
    refine V.get (pc := 22) (v := .ref (a 25)) hC cf_X3 1 15 fl_X6_283 (by decide) gx_1 rfl dX6_tell_22 ?_
    refine V.aload_n (pc := 25) 0 hC dX6_tell_25 rfl ?_
    refine V.get (pc := 26) (v := .ref (a 1)) hC cf_X6 0 0 fl_X6_10 (by decide) gx_0 rfl dX6_tell_26 ?_
    refine V.get (pc := 29) (v := .int (σ 24 0)) hC cf_X3 1 14 fl_X6_280 (by decide) gx_1 rfl dX6_tell_29 ?_
    refine V.eqi (y := μ 0 6) (hT.2.2.2.2.2.1.1) ?_
    refine V.iload_n (pc := 32) 1 hC dX6_tell_32 rfl ?_
    refine V.iast (pc := 33) (f := σ 25) hC 16 (nN (μ 0 6)) (wX k g a (va_up σ 25 (upd (σ 25) (nN (μ 0 6)) v)) ν) gx_16 hI.wn (by omega) (by decide) rfl dX6_tell_33 ?_
    refine V.aload_n (pc := 34) 0 hC dX6_tell_34 rfl ?_
    refine V.get (pc := 35) (v := .ref (a 1)) hC cf_X6 0 0 fl_X6_10 (by decide) gx_0 rfl dX6_tell_35 ?_
    refine V.dup (pc := 38) hC dX6_tell_38 rfl ?_
    refine V.get (pc := 39) (v := .int (σ 24 0)) hC cf_X3 1 14 fl_X6_280 (by decide) gx_1 rfl dX6_tell_39 ?_
    refine V.eqi (y := μ 0 6) (hT.2.2.2.2.2.1.1) ?_
    refine V.iconst (pc := 42) 1 hC dX6_tell_42 (by decide) ?_
    refine V.iadd (pc := 43) hC dX6_tell_43 ?_
    refine V.put (pc := 44) (v := .int ((μ 0 6) + 1)) hC cf_X3 1 14 (wX k g a (va_up (va_up σ 25 (upd (σ 25) (nN (μ 0 6)) v)) 24 (fun _ => (μ 0 6) + 1)) ν) fl_X6_280 (by decide) gx_1 rfl rfl rfl (Nat.le_of_ble_eq_true rfl) rfl dX6_tell_44 ?_
    refine V.aload_n (pc := 47) 0 hC dX6_tell_47 rfl ?_
    refine V.get (pc := 48) (v := .ref (a 1)) hC cf_X6 0 0 fl_X6_10 (by decide) gx_0 rfl dX6_tell_48 ?_
    refine V.get (pc := 51) (v := .int ((μ 0 6) + 1)) hC cf_X3 1 14 fl_X6_280 (by decide) gx_1 rfl dX6_tell_51 ?_
    exact hR ((μ 0 6) + 1) ((va_up (va_up σ 25 (upd (σ 25) (nN (μ 0 6)) v)) 24 (fun _ => (μ 0 6) + 1)), ν) _ _ dX6_tell_54 rfl (opc (m := row μ (upd (upd (μ 0) (109 + nN (μ 0 6)) v) 6 (μ 0 6 + 1))) (by rw [op_tell, if_neg hnf] <;> rfl) (hRR.town (fun j hj => by dsimp only [va_up]; repeat rw [if_neg (by omega)]) ((hT.tell hI (by omega) v).wait (hI.told (by omega) v) _) ((hI.told (by omega) v).wait (isN.mk (nadd hI.wn (nl 1)) (by omega) (by omega))) (show BF _ from hRR.2.1)))
  · have nc_9 : ¬ (nN (μ 0 6) < 24) := fun z => c_9 ((nlt hI.wn (nl 24) (by omega) (by omega)).mpr z)
    have hyf : μ 0 6 = 24 := by rw [hI.wn, show nN (μ 0 6) = 24 by omega]; rfl
    refine V.aload_n (pc := 12) 0 hC dX6_tell_12 rfl ?_
    refine V.iconst (pc := 13) 4 hC dX6_tell_13 (by decide) ?_
    refine V.sts (st' := [.int (nI 4), .ref (a 0)]) (stc (nl 4) (stk rfl)) ?_
    refine V.callV0 (pc := 14) (as := [.int (nI 4)]) hC (c_X6_error σ ν 4 (by omega)) mu_X6_error ml_X6_57 (by decide) ⟨0, 6, TX6, 8, _, rfl, gx_0⟩ rfl (Nat.le_of_ble_eq_true rfl) dX6_tell_14 ?_
    rintro _ f14_0 ⟨rfl, hu14_0⟩
    have hu14_0 : f14_0 = upd (σ 0) 4 (σ 0 4 + 1) := hu14_0
    show V X (wX k g a (va_up σ 0 f14_0) ν) [(0, .ref (a 0)), (1, .int v)] [.int (lowE 4)] 17
    exact hR (lowE 4) ((va_up σ 0 f14_0), ν) _ _ dX6_tell_17 rfl (ope (by rw [op_tell, if_pos hyf] <;> rfl) (hRR.er (by omega) hu14_0))
set_option maxHeartbeats 4000000 in
set_option maxRecDepth 100000 in
theorem c_X6_check {l : Launch} {D : va_G} {k : Nat → ClassId} {g a : Nat → Nat} (σ ν μ : St) (hRR : RQ σ μ) : Ct l D k g yX6_check cX6_check 2 (some .int) 4 87 [.ref (a 0)] (S := St × St) (wX k g a σ ν) (fun uu => wX k g a uu.1 uu.2) (fun vv uu => vv = some (.int ((op_check μ).1)) ∧ RQ uu.1 (op_check μ).2) := by
  refine Ct.ofI RX6 rfl (by decide +kernel) (Nat.le_of_ble_eq_true rfl) (fun X hC hR => ?_)
  have hT := hRR.1.2.2.1.1; have hI := hRR.1.2.2.1.2
  have hb4 := hI.hb; have hb8 := hI.mb; have hb6 := hI.pb; have hbm := hI.ob0; have hbt := hI.bb; have hbw := hI.wb
  show V X (wX k g a σ ν) [(0, .ref (a 0))] [] 0
  refine V.aload_n (pc := 0) 0 hC dX6_check_0 rfl ?_
  refine V.get (pc := 1) (v := .ref (a 1)) hC cf_X6 0 0 fl_X6_10 (by decide) gx_0 rfl dX6_check_1 ?_
  refine V.callV0 (pc := 4) (as := []) hC (c_X3_firstWrongMark σ ν (μ 0) hT hI) mu_X3_firstWrongMark ml_X6_286 (by decide) ⟨1, 3, TX3, 17, _, rfl, gx_1⟩ rfl (Nat.le_of_ble_eq_true rfl) dX6_check_4 ?_
  rintro _ _ rfl
  show V X (wX k g a σ ν) [(0, .ref (a 0))] [.int (if chkS (μ 0) = nN ((μ 0) 6) then -1 else nI (chkS (μ 0)))] 7
  refine V.istore_n (pc := 7) [(1, .int (if chkS (μ 0) = nN ((μ 0) 6) then -1 else nI (chkS (μ 0)))), (0, .ref (a 0))] hC dX6_check_7 (by decide) rfl ?_
  refine V.aload_n (pc := 8) 1 hC dX6_check_8 rfl ?_
  refine V.get (pc := 9) (v := .ref (a 1)) hC cf_X6 0 0 fl_X6_10 (by decide) gx_0 rfl dX6_check_9 ?_
  refine V.iconst (pc := 12) 0 hC dX6_check_12 (by decide) ?_
  refine V.put (pc := 13) (v := .int 0) hC cf_X3 1 14 (wX k g a (va_up σ 24 (fun _ => 0)) ν) fl_X6_280 (by decide) gx_1 rfl rfl rfl (Nat.le_of_ble_eq_true rfl) rfl dX6_check_13 ?_
  refine V.iload_n (pc := 16) 0 hC dX6_check_16 rfl ?_
  refine V.iconst (pc := 17) 1 hC dX6_check_17 (by decide) ?_
  refine V.iadd (pc := 18) hC dX6_check_18 ?_
  exact hR ((if chkS (μ 0) = nN ((μ 0) 6) then -1 else nI (chkS (μ 0))) + 1) ((va_up σ 24 (fun _ => 0)), ν) _ _ dX6_check_19 rfl (opc (m := row μ (upd (μ 0) 6 0)) (by rw [op_check]; exact congrArg (fun z => (z, row μ (upd (μ 0) 6 0))) (by split <;> first | rfl | exact Int32.add_comm _ _)) (hRR.town (fun j hj => by dsimp only [va_up]; repeat rw [if_neg (by omega)]) (hT.wait hI _) (hI.wait ⟨rfl, by decide⟩) (show BF _ from hRR.2.1)))
theorem lst_01 (ρ : Rw) : (lstS ρ).1 = 0 ∨ (lstS ρ).1 = 1 := by
  unfold lstS drnS
  split
  · split
    · exact Or.inl rfl
    · exact Or.inr rfl
  · exact Or.inl rfl

theorem cpy_in {f g : Rw} {i : Nat} (h : i < 375) : va_cpy f g 0 0 375 i = f i := cpy_v h
theorem Inv.cpy {ρ g : Rw} (h : Inv ρ) : Inv (va_cpy ρ g 0 0 375) := by
  have e : ∀ j, j < 375 → va_cpy ρ g 0 0 375 j = ρ j := fun j hj => cpy_in hj
  have hb4 := h.hb; have hb8 := h.mb; have hb6 := h.pb; have hbb := h.bb
  exact ⟨h.pH.c (fun j hj => e j (by omega)), h.pM.c (fun j hj => e j (by omega)) (by rw [e 2 (by omega)]; exact Nat.le_refl _), h.pP.c (fun j hj => e j (by omega)) (by rw [e 3 (by omega)]; exact Nat.le_refl _), by rw [e 0 (by omega)]; exact h.2.2.2.1, h.pB.c (fun j hj => e j (by omega)), by rw [e 6 (by omega)]; exact h.2.2.2.2.2.1, fun u hu => (h.pL hu).c (fun j hj => e j (by omega))⟩
theorem Rx_cpy {h tu ofs ho hof fa pe ki nu ro mi z bs ta wa wt w0 w1 d0 d1 ρ g : Rw} (hI : Inv ρ) (x : Rx h tu ofs ho hof fa pe ki nu ro mi z bs ta wa wt w0 w1 d0 d1 ρ) : Rx h tu ofs ho hof fa pe ki nu ro mi z bs ta wa wt w0 w1 d0 d1 (va_cpy ρ g 0 0 375) := by
  have e : ∀ j, j < 375 → va_cpy ρ g 0 0 375 j = ρ j := fun j hj => cpy_in hj
  obtain ⟨gH, gM, gP, gT, gB, gW, g0, g1⟩ := Rx_iff.mp x
  exact Rx_iff.mpr ⟨gH.c (fun j hj => e j (by omega)), gM.c (fun j hj => e j (by omega)), gP.c (fun j hj => e j (by omega)), gT.c (fun j hj => e j (by omega)), gB.c hI.bb (fun j hj => e j (by omega)), gW.c (fun j hj => e j (by omega)), g0.c (hI.lb (by omega)) (fun j hj => e j (by omega)), g1.c (hI.lb (by omega)) (fun j hj => e j (by omega))⟩
theorem RQ.image {σ σ' μ : St} (h : RQ σ μ) (hk : RK σ' (μ 0)) (e : ∀ j, (j < 40 ∨ 61 ≤ j) → σ' j = σ j) (hb : BF (σ' 53)) (hz : ¬ μ 2 0 + 1 = 0 ∨ True) : RQ (va_up σ' 1 (fun _ => μ 2 0 + 1)) (va_up (va_up μ 1 (va_cpy (μ 0) (μ 1) 0 0 375)) 2 (fun _ => μ 2 0 + 1)) := by
  have e' : ∀ j, j ≠ 1 → (j < 40 ∨ 61 ≤ j) → va_up σ' 1 (fun _ => μ 2 0 + 1) j = σ j := fun j h1 h2 => (va_up_ne _ _ h1).trans (e j h2)
  have hI := h.1.2.2.1.2
  refine h.mk' (fun q hq => ?_) rfl ⟨RT_c h.1.2.2.1.1 (fun j a b => e' j (by omega) (by omega)), hI⟩ (fun _ => ⟨Rx_cpy hI (RK_c hk (fun j a b => va_up_ne _ _ (by omega))), hI.cpy⟩) (fun s hs => ?_) ?_ ?_ ?_
  · rw [e' 0 (by omega) (by omega)]; exact h.1.1 q hq
  · rw [e' (90 + s) (by omega) (by omega), e' (94 + s) (by omega) (by omega), e' (98 + s) (by omega) (by omega)]; exact h.1.2.2.2.2.1 s hs
  · rw [e' 81 (by omega) (by omega), e' 80 (by omega) (by omega)]; exact h.1.2.2.2.2.2
  · rw [e' 23 (by omega) (by omega)]; exact h.2.1
  · exact hb

set_option maxHeartbeats 4000000 in
set_option maxRecDepth 100000 in
theorem c_X6_image {l : Launch} {D : va_G} {k : Nat → ClassId} {g a : Nat → Nat} (σ ν μ : St) (hRR : RQ σ μ) : Ct l D k g yX6_image cX6_image 1 (some .int) 3 244 [.ref (a 0)] (S := St × St) (wX k g a σ ν) (fun uu => wX k g a uu.1 uu.2) (fun vv uu => vv = some (.int ((op_image μ).1)) ∧ RQ uu.1 (op_image μ).2) := by
  refine Ct.ofI RX6 rfl (by decide +kernel) (Nat.le_of_ble_eq_true rfl) (fun X hC hR => ?_)
  have hT := hRR.1.2.2.1.1; have hI := hRR.1.2.2.1.2
  have hb4 := hI.hb; have hb8 := hI.mb; have hb6 := hI.pb; have hbm := hI.ob0; have hbt := hI.bb; have hbw := hI.wb
  show V X (wX k g a σ ν) [(0, .ref (a 0))] [] 0
  refine V.aload_n (pc := 0) 0 hC dX6_image_0 rfl ?_
  refine V.get (pc := 1) (v := .ref (a 2)) hC cf_X6 0 1 fl_X6_16 (by decide) gx_0 rfl dX6_image_1 ?_
  refine V.aload_n (pc := 4) 0 hC dX6_image_4 rfl ?_
  refine V.get (pc := 5) (v := .ref (a 1)) hC cf_X6 0 0 fl_X6_10 (by decide) gx_0 rfl dX6_image_5 ?_
  refine V.callV0 (pc := 8) (as := [.ref (a 1)]) hC (c_take_keep σ ν (μ 0) hT hI hRR.2.1) mu_X3_take ml_X6_275 (by decide) ⟨2, 3, TX3, 17, _, rfl, gx_2⟩ rfl (Nat.le_of_ble_eq_true rfl) dX6_image_8 ?_
  rintro _ S8_0 ⟨rfl, hu8_0, hu8_1, hu8_2⟩
  have hu8_0 : RK S8_0 (μ 0) := hu8_0
  have hu8_1 : (∀ j, (j < 40 ∨ 61 ≤ j) → S8_0 j = σ j) := hu8_1
  have hu8_2 : BF (S8_0 53) := hu8_2
  show V X (wX k g a S8_0 ν) [(0, .ref (a 0))] [] 11
  refine V.aload_n (pc := 11) 0 hC dX6_image_11 rfl ?_
  refine V.dup (pc := 12) hC dX6_image_12 rfl ?_
  refine V.get (pc := 13) (v := .int (S8_0 1 0)) hC cf_X6 0 7 fl_X6_277 (by decide) gx_0 rfl dX6_image_13 ?_
  refine V.eqi (y := μ 2 0) ((hu8_1 1 (by omega) ▸ hRR.1.2.1 : S8_0 1 0 = μ 2 0)) ?_
  refine V.iconst (pc := 16) 1 hC dX6_image_16 (by decide) ?_
  refine V.iadd (pc := 17) hC dX6_image_17 ?_
  refine V.put (pc := 18) (v := .int ((μ 2 0) + 1)) hC cf_X6 0 7 (wX k g a (va_up S8_0 1 (fun _ => (μ 2 0) + 1)) ν) fl_X6_277 (by decide) gx_0 rfl rfl rfl (Nat.le_of_ble_eq_true rfl) rfl dX6_image_18 ?_
  refine V.aload_n (pc := 21) 0 hC dX6_image_21 rfl ?_
  refine V.get (pc := 22) (v := .int ((μ 2 0) + 1)) hC cf_X6 0 7 fl_X6_277 (by decide) gx_0 rfl dX6_image_22 ?_
  exact hR ((μ 2 0) + 1) ((va_up S8_0 1 (fun _ => (μ 2 0) + 1)), ν) _ _ dX6_image_25 rfl (opc (m := va_up (va_up μ 1 (va_cpy (μ 0) (μ 1) 0 0 375)) 2 (fun _ => μ 2 0 + 1)) (by rw [op_image]) (hRR.image hu8_0 hu8_1 hu8_2 (Or.inr trivial)))
set_option maxHeartbeats 4000000 in
set_option maxRecDepth 100000 in
theorem c_X6_restore {l : Launch} {D : va_G} {k : Nat → ClassId} {g a : Nat → Nat} (σ ν μ : St) (hRR : RQ σ μ) : Ct l D k g yX6_restore cX6_restore 1 (some .int) 3 244 [.ref (a 0)] (S := St × St) (wX k g a σ ν) (fun uu => wX k g a uu.1 uu.2) (fun vv uu => vv = some (.int ((op_restore μ).1)) ∧ RQ uu.1 (op_restore μ).2) := by
  refine Ct.ofI RX6 rfl (by decide +kernel) (Nat.le_of_ble_eq_true rfl) (fun X hC hR => ?_)
  have hT := hRR.1.2.2.1.1; have hI := hRR.1.2.2.1.2
  have hb4 := hI.hb; have hb8 := hI.mb; have hb6 := hI.pb; have hbm := hI.ob0; have hbt := hI.bb; have hbw := hI.wb
  show V X (wX k g a σ ν) [(0, .ref (a 0))] [] 0
  refine V.aload_n (pc := 0) 0 hC dX6_restore_0 rfl ?_
  refine V.get (pc := 1) (v := .int (σ 1 0)) hC cf_X6 0 7 fl_X6_277 (by decide) gx_0 rfl dX6_restore_1 ?_
  refine V.eqi (y := μ 2 0) (hRR.1.2.1) ?_
  refine V.if_ne (pc := 4) 13 hC dX6_restore_4 (by decide) (fun c_4 => ?_) (fun c_4 => ?_)
  · have hK := hRR.1.2.2.2.1 c_4
    refine V.aload_n (pc := 13) 0 hC dX6_restore_13 rfl ?_
    refine V.get (pc := 14) (v := .ref (a 1)) hC cf_X6 0 0 fl_X6_10 (by decide) gx_0 rfl dX6_restore_14 ?_
    refine V.aload_n (pc := 17) 0 hC dX6_restore_17 rfl ?_
    refine V.get (pc := 18) (v := .ref (a 2)) hC cf_X6 0 1 fl_X6_16 (by decide) gx_0 rfl dX6_restore_18 ?_
    refine V.callV0 (pc := 21) (as := [.ref (a 2)]) hC (c_take_back σ ν (μ 1) hK.1 hK.2 hRR.2.2) mu_X3_take ml_X6_275 (by decide) ⟨1, 3, TX3, 17, _, rfl, gx_1⟩ rfl (Nat.le_of_ble_eq_true rfl) dX6_restore_21 ?_
    rintro _ S21_0 ⟨rfl, hu21_0, hu21_1, hu21_2⟩
    have hu21_0 : RT S21_0 (μ 1) := hu21_0
    have hu21_1 : (∀ j, (j < 10 ∨ 31 ≤ j) → S21_0 j = σ j) := hu21_1
    have hu21_2 : BF (S21_0 23) := hu21_2
    show V X (wX k g a S21_0 ν) [(0, .ref (a 0))] [] 24
    refine V.aload_n (pc := 24) 0 hC dX6_restore_24 rfl ?_
    refine V.get (pc := 25) (v := .ref (a 1)) hC cf_X6 0 0 fl_X6_10 (by decide) gx_0 rfl dX6_restore_25 ?_
    refine V.get (pc := 28) (v := .int (S21_0 20 0)) hC cf_X3 1 10 fl_X6_79 (by decide) gx_1 rfl dX6_restore_28 ?_
    refine V.eqi (y := μ 1 0) (hu21_0.2.2.2.1.1) ?_
    exact hR (μ 1 0) (S21_0, ν) _ _ dX6_restore_31 rfl (opc (m := row μ (va_cpy (μ 1) (μ 0) 0 0 375)) (by rw [op_restore, if_neg c_4]) (hRR.town hu21_1 (Rx_cpy hK.2 hu21_0) hK.2.cpy hu21_2))
  · refine V.aload_n (pc := 7) 0 hC dX6_restore_7 rfl ?_
    refine V.iconst (pc := 8) 2 hC dX6_restore_8 (by decide) ?_
    refine V.sts (st' := [.int (nI 2), .ref (a 0)]) (stc (nl 2) (stk rfl)) ?_
    refine V.callV0 (pc := 9) (as := [.int (nI 2)]) hC (c_X6_error σ ν 2 (by omega)) mu_X6_error ml_X6_57 (by decide) ⟨0, 6, TX6, 8, _, rfl, gx_0⟩ rfl (Nat.le_of_ble_eq_true rfl) dX6_restore_9 ?_
    rintro _ f9_0 ⟨rfl, hu9_0⟩
    have hu9_0 : f9_0 = upd (σ 0) 2 (σ 0 2 + 1) := hu9_0
    show V X (wX k g a (va_up σ 0 f9_0) ν) [(0, .ref (a 0))] [.int (lowE 2)] 12
    exact hR (lowE 2) ((va_up σ 0 f9_0), ν) _ _ dX6_restore_12 rfl (ope (by rw [op_restore, if_pos c_4] <;> rfl) (hRR.er (by omega) hu9_0))
