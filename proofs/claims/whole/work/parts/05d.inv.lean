/-! the bounds are kept -/
def IH (ρ : Rw) : Prop := isN (ρ 2) 4 ∧ ∀ i, i < nN (ρ 2) → isN (ρ (7 + 2 * i)) 1440 ∧ 1 ≤ nN (ρ (7 + 2 * i)) ∧ isN (ρ (8 + 2 * i)) 1439
def IM (ρ : Rw) : Prop := isN (ρ 3) 8 ∧ ∀ i, i < nN (ρ 3) → isN (ρ (15 + 2 * i)) 3 ∧ nN (ρ (15 + 2 * i)) < nN (ρ 2) ∧ isN (ρ (16 + 2 * i)) 9
def IP (ρ : Rw) : Prop := isN (ρ 4) 6 ∧ ∀ i, i < nN (ρ 4) → isN (ρ (31 + 3 * i)) 6 ∧ isN (ρ (32 + 3 * i)) 9 ∧ isN (ρ (33 + 3 * i)) 7 ∧ nN (ρ (33 + 3 * i)) < nN (ρ 3)
def IB (ρ : Rw) : Prop := isN (ρ 5) 60 ∧ ∀ i, i < nN (ρ 5) → isN (ρ (49 + i)) 255
def IL (ρ : Rw) (u : Nat) : Prop := isN (ρ (133 + 121 * u)) 60 ∧ (0 < nN (ρ (133 + 121 * u)) → wfC (acS ρ u) (wiS ρ u) (nN (ρ (133 + 121 * u))) 0 0)
theorem Inv_iff {ρ : Rw} : Inv ρ ↔ IH ρ ∧ IM ρ ∧ IP ρ ∧ isN (ρ 0) 9999 ∧ IB ρ ∧ isN (ρ 6) 24 ∧ ∀ u, u < 2 → IL ρ u := Iff.rfl
theorem Inv.pH {ρ : Rw} (h : Inv ρ) : IH ρ := h.1
theorem Inv.pM {ρ : Rw} (h : Inv ρ) : IM ρ := h.2.1
theorem Inv.pP {ρ : Rw} (h : Inv ρ) : IP ρ := h.2.2.1
theorem Inv.pB {ρ : Rw} (h : Inv ρ) : IB ρ := h.2.2.2.2.1
theorem Inv.pL {ρ : Rw} (h : Inv ρ) {u : Nat} (hu : u < 2) : IL ρ u := h.2.2.2.2.2.2 u hu
theorem IH.c {ρ ρ' : Rw} (h : IH ρ) (e : ∀ j, j = 2 ∨ (7 ≤ j ∧ j < 15) → ρ' j = ρ j) : IH ρ' := by
  have e2 := e 2 (Or.inl rfl)
  refine ⟨by rw [e2]; exact h.1, fun i hi => ?_⟩
  rw [e2] at hi
  have hb := h.1.2
  rw [e (7 + 2 * i) (by omega), e (8 + 2 * i) (by omega)]
  exact h.2 i hi
theorem IM.c {ρ ρ' : Rw} (h : IM ρ) (e : ∀ j, j = 3 ∨ (15 ≤ j ∧ j < 31) → ρ' j = ρ j) (e2 : nN (ρ 2) ≤ nN (ρ' 2)) : IM ρ' := by
  have e3 := e 3 (Or.inl rfl)
  refine ⟨by rw [e3]; exact h.1, fun i hi => ?_⟩
  rw [e3] at hi
  have hb := h.1.2
  have h9 := h.2 i hi
  rw [e (15 + 2 * i) (by omega), e (16 + 2 * i) (by omega)]
  exact ⟨h9.1, by omega, h9.2.2⟩
theorem IP.c {ρ ρ' : Rw} (h : IP ρ) (e : ∀ j, j = 4 ∨ (31 ≤ j ∧ j < 49) → ρ' j = ρ j) (e3 : nN (ρ 3) ≤ nN (ρ' 3)) : IP ρ' := by
  have e4 := e 4 (Or.inl rfl)
  refine ⟨by rw [e4]; exact h.1, fun i hi => ?_⟩
  rw [e4] at hi
  have hb := h.1.2
  have h9 := h.2 i hi
  rw [e (31 + 3 * i) (by omega), e (32 + 3 * i) (by omega), e (33 + 3 * i) (by omega)]
  exact ⟨h9.1, h9.2.1, h9.2.2.1, by omega⟩
theorem IB.c {ρ ρ' : Rw} (h : IB ρ) (e : ∀ j, j = 5 ∨ (49 ≤ j ∧ j < 109) → ρ' j = ρ j) : IB ρ' := by
  have e5 := e 5 (Or.inl rfl)
  refine ⟨by rw [e5]; exact h.1, fun i hi => ?_⟩
  rw [e5] at hi
  have hb := h.1.2
  rw [e (49 + i) (by omega)]
  exact h.2 i hi
theorem wfC.c {ac wi ac' wi' : Rw} : ∀ (n j d : Nat), wfC ac wi n j d → (∀ i, j ≤ i → i < j + n → ac' i = ac i ∧ wi' i = wi i) → wfC ac' wi' n j d := by
  intro n
  induction n with
  | zero => intro j d h _; exact h
  | succ n ih =>
    intro j d h e
    have e0 := e j (Nat.le_refl j) (by omega)
    have e1 : ∀ i, j + 1 ≤ i → i < j + 1 + n → ac' i = ac i ∧ wi' i = wi i := fun i h1 h2 => e i (by omega) (by omega)
    rcases h with h | h | h | h
    · exact Or.inl ⟨e0.1.trans h.1, ih _ _ h.2 e1⟩
    · exact Or.inr (Or.inl ⟨⟨e0.1.trans h.1.1, by rw [e0.2]; exact h.1.2⟩, ih _ _ h.2 e1⟩)
    · exact Or.inr (Or.inr (Or.inl ⟨⟨e0.1.trans h.1.1, h.1.2⟩, ih _ _ h.2 e1⟩))
    · exact Or.inr (Or.inr (Or.inr ⟨⟨by rw [e0.1]; exact h.1.1, h.1.2⟩, ih _ _ h.2 e1⟩))
theorem IL.c {ρ ρ' : Rw} {u : Nat} (h : IL ρ u) (e : ∀ j, 133 + 121 * u ≤ j ∧ j < 254 + 121 * u → ρ' j = ρ j) : IL ρ' u := by
  have e0 := e (133 + 121 * u) (by omega)
  refine ⟨by rw [e0]; exact h.1, fun hp => ?_⟩
  rw [e0] at hp ⊢
  have hb := h.1.2
  exact wfC.c _ _ _ (h.2 hp) (fun i h1 h2 => ⟨e (134 + 121 * u + i) (by omega), e (194 + 121 * u + i) (by omega)⟩)
theorem upd_ne {f : Rw} {k j : Nat} {x : Int32} (h : j ≠ k) : upd f k x j = f j := if_neg h
theorem upd_eq {f : Rw} {k : Nat} {x : Int32} : upd f k x k = x := if_pos rfl
/-- all but the pieces that a change touches -/
theorem Inv.low {ρ : Rw} (h : Inv ρ) {k : Nat} {x : Int32} (hk : k < 133) (h1 : IH (upd ρ k x)) (h2 : IM (upd ρ k x)) (h3 : IP (upd ρ k x)) (h4 : isN (upd ρ k x 0) 9999) (h5 : IB (upd ρ k x)) (h6 : isN (upd ρ k x 6) 24) : Inv (upd ρ k x) :=
  ⟨h1, h2, h3, h4, h5, h6, fun u hu => (h.pL hu).c (fun j hj => upd_ne (by omega))⟩
theorem Inv.z {ρ : Rw} (h : Inv ρ) (x : Int32) : Inv (upd ρ 1 x) :=
  h.low (by omega) (h.pH.c (fun j hj => upd_ne (by omega))) (h.pM.c (fun j hj => upd_ne (by omega)) (by rw [upd_ne (by omega)]; exact Nat.le_refl _)) (h.pP.c (fun j hj => upd_ne (by omega)) (by rw [upd_ne (by omega)]; exact Nat.le_refl _)) (by rw [upd_ne (by omega)]; exact h.2.2.2.1) (h.pB.c (fun j hj => upd_ne (by omega))) (by rw [upd_ne (by omega)]; exact h.2.2.2.2.2.1)
theorem Inv.min {ρ : Rw} (h : Inv ρ) {x : Int32} (hx : isN x 9999) : Inv (upd ρ 0 x) :=
  h.low (by omega) (h.pH.c (fun j hj => upd_ne (by omega))) (h.pM.c (fun j hj => upd_ne (by omega)) (by rw [upd_ne (by omega)]; exact Nat.le_refl _)) (h.pP.c (fun j hj => upd_ne (by omega)) (by rw [upd_ne (by omega)]; exact Nat.le_refl _)) (by rw [upd_eq]; exact hx) (h.pB.c (fun j hj => upd_ne (by omega))) (by rw [upd_ne (by omega)]; exact h.2.2.2.2.2.1)
theorem Inv.room {ρ : Rw} (h : Inv ρ) {p : Nat} {x : Int32} (hp : p < 6) (hx : x = nI (nN x)) (hb : nN x < nN (ρ 3)) : Inv (upd ρ (33 + 3 * p) x) := by
  have h8 := h.mb
  refine h.low (by omega) (h.pH.c (fun j hj => upd_ne (by omega))) (h.pM.c (fun j hj => upd_ne (by omega)) (by rw [upd_ne (by omega)]; exact Nat.le_refl _)) ⟨by rw [upd_ne (by omega)]; exact h.2.2.1.1, fun i hi => ?_⟩ (by rw [upd_ne (by omega)]; exact h.2.2.2.1) (h.pB.c (fun j hj => upd_ne (by omega))) (by rw [upd_ne (by omega)]; exact h.2.2.2.2.2.1)
  rw [upd_ne (by omega)] at hi
  have h9 := h.2.2.1.2 i hi
  rw [upd_ne (show 31 + 3 * i ≠ 33 + 3 * p by omega), upd_ne (show 32 + 3 * i ≠ 33 + 3 * p by omega), upd_ne (show 3 ≠ 33 + 3 * p by omega)]
  by_cases e : i = p
  · subst e; rw [upd_eq]; exact ⟨h9.1, h9.2.1, ⟨hx, by omega⟩, hb⟩
  · rw [upd_ne (by omega)]; exact h9
theorem Inv.off {ρ : Rw} (h : Inv ρ) {p : Nat} {x : Int32} (hp : p < 4) (hx : isN x 1439) : Inv (upd ρ (8 + 2 * p) x) := by
  refine h.low (by omega) ⟨by rw [upd_ne (by omega)]; exact h.1.1, fun i hi => ?_⟩ (h.pM.c (fun j hj => upd_ne (by omega)) (by rw [upd_ne (by omega)]; exact Nat.le_refl _)) (h.pP.c (fun j hj => upd_ne (by omega)) (by rw [upd_ne (by omega)]; exact Nat.le_refl _)) (by rw [upd_ne (by omega)]; exact h.2.2.2.1) (h.pB.c (fun j hj => upd_ne (by omega))) (by rw [upd_ne (by omega)]; exact h.2.2.2.2.2.1)
  rw [upd_ne (by omega)] at hi
  have h9 := h.1.2 i hi
  rw [upd_ne (show 7 + 2 * i ≠ 8 + 2 * p by omega)]
  by_cases e : i = p
  · subst e; rw [upd_eq]; exact ⟨h9.1, h9.2.1, hx⟩
  · rw [upd_ne (by omega)]; exact h9
/-! draws -/
theorem ush8 (x : Int32) : ∃ q, q < 16777216 ∧ (x.toUInt32 >>> ((8 : Int32).toUInt32 &&& Int32.toUInt32 31)).toInt32 = nI q := by
  have e := pk_ushr x 8 8 (by decide)
  have hb : x.toBitVec.toNat < 4294967296 := x.toBitVec.isLt
  refine ⟨x.toBitVec.toNat / 256, by omega, ?_⟩
  apply Int32.toBitVec_inj.mp
  apply BitVec.eq_of_toNat_eq
  rw [e, pk_tn (by omega)]
theorem irm_n {x y : Int32} {a b : Nat} (hx : x = nI a) (hy : y = nI b) (ha : a < 2147483648) (h0 : 0 < b) (hb : b < 2147483648) : irm x y = nI (a % b) := by rw [irm, hx, hy]; exact pk_rem ha h0 hb
theorem dp_n {ρ : Rw} (h : Inv ρ) (h0 : 0 < nN (ρ 4)) : irm (dvS ρ) (ρ 4) = nI (dpS ρ) ∧ dpS ρ < nN (ρ 4) := by
  obtain ⟨q, hq, e⟩ := ush8 (ρ 1 * 1103515245 + 12345)
  have hb := h.pb
  have e2 := irm_n (x := dvS ρ) e h.pn (by omega) h0 (by omega)
  have hl := Nat.mod_lt q h0
  rw [dpS, e2, nN_nI (by omega)]
  exact ⟨rfl, hl⟩
theorem dh_n {ρ : Rw} (h : Inv ρ) (h0 : 0 < nN (ρ 3)) : dhS ρ = nI (nN (dhS ρ)) ∧ nN (dhS ρ) < nN (ρ 3) := by
  obtain ⟨q, hq, e⟩ := ush8 (drwS ρ 1 * 1103515245 + 12345)
  have hb := h.mb
  have e2 := irm_n (x := dvS (drwS ρ)) e h.mn (by omega) h0 (by omega)
  have hl := Nat.mod_lt q h0
  rw [dhS, e2, nN_nI (by omega)]
  exact ⟨rfl, hl⟩
theorem Inv.home0 {ρ : Rw} (h : Inv ρ) (h0 : 0 < nN (ρ 4)) : 0 < nN (ρ 3) := by have := h.ab h0; omega
theorem Inv.drw {ρ : Rw} (h : Inv ρ) : Inv (drwS ρ) := h.z _
theorem drw_ne {ρ : Rw} {j : Nat} (h : j ≠ 1) : drwS ρ j = ρ j := upd_ne h
theorem drn_t {ρ : Rw} (h : dnoS ρ) : drnS ρ = (0, drwS (drwS ρ)) := if_pos h
theorem drn_f {ρ : Rw} (h : ¬ dnoS ρ) : drnS ρ = (1, upd (drwS (drwS ρ)) (33 + 3 * dpS ρ) (dhS ρ)) := if_neg h
theorem Inv.drn {ρ : Rw} (h : Inv ρ) (h0 : 0 < nN (ρ 4)) : Inv (drnS ρ).2 := by
  have h1 := dp_n h h0
  have h2 := dh_n h (h.home0 h0)
  have hb := h.pb
  by_cases hq : dnoS ρ
  · rw [drn_t hq]; exact h.drw.drw
  · rw [drn_f hq]; exact h.drw.drw.room (by omega) h2.1 (by rw [drw_ne (j := 3) (by decide), drw_ne (j := 3) (by decide)]; exact h2.2)
theorem drw2_ne {ρ : Rw} {j : Nat} (h : j ≠ 1) : drwS (drwS ρ) j = ρ j := by rw [drw_ne h, drw_ne h]
theorem up3_0 {f : Rw} {q : Nat} {x : Int32} : upd f (33 + q) x 0 = f 0 := upd_ne (by omega)
theorem drn_0 {ρ : Rw} : (drnS ρ).2 0 = ρ 0 := by
  by_cases h : dnoS ρ
  · rw [drn_t h]
    show drwS (drwS ρ) 0 = ρ 0
    exact drw2_ne (by decide)
  · rw [drn_f h]
    show upd (drwS (drwS ρ)) (33 + 3 * dpS ρ) (dhS ρ) 0 = ρ 0
    rw [up3_0]
    exact drw2_ne (by decide)
theorem Inv.lst {ρ : Rw} (h : Inv ρ) : Inv (lstS ρ).2 ∧ (lstS ρ).2 0 = ρ 0 := by
  unfold lstS
  split
  · rename_i hp
    rw [h.pn] at hp
    have hb := h.pb
    have h0 : 0 < nN (ρ 4) := (nI_ltI (a := 0) (by omega) (by omega)).mp hp
    exact ⟨h.drn h0, drn_0⟩
  · exact ⟨h, rfl⟩
theorem lst_t {ρ : Rw} {r : Int32} {F : Rw} (h : 0 < ρ 4) (h1 : r = (drnS ρ).1) (h2 : F = (drnS ρ).2) : (lstS ρ).1 = r ∧ (lstS ρ).2 = F := by rw [h1, h2, lstS, if_pos h]; exact ⟨rfl, rfl⟩
theorem lst_f {ρ : Rw} (h : ¬ 0 < ρ 4) : (lstS ρ).1 = 0 ∧ (lstS ρ).2 = ρ := by rw [lstS, if_neg h]; exact ⟨rfl, rfl⟩
theorem los_s {n : Nat} {j r : Int32} {ρ F : Rw} (h : (lstS ρ).1 = r ∧ (lstS ρ).2 = F) : losS (n + 1) j ρ = losS n (j + r) (upd F 0 (F 0 + 1)) := by obtain ⟨h1, h2⟩ := h; subst h1; subst h2; rfl
theorem los_i {ρ F : Rw} {r : Int32} (hf : Inv ρ) (h : (lstS ρ).1 = r ∧ (lstS ρ).2 = F) {m : Nat} (hm : nN (ρ 0) + m ≤ 9999) (h1 : 1 ≤ m) : Inv (upd F 0 (F 0 + 1)) ∧ nN (upd F 0 (F 0 + 1) 0) + (m - 1) ≤ 9999 := by
  have hL := hf.lst
  rw [h.2] at hL
  have e : F 0 = nI (nN (ρ 0)) := hL.2.trans hf.on0
  refine ⟨hL.1.min (isN.mk (nadd e (nl 1)) (by omega) (by omega)), ?_⟩
  rw [upd_eq, nN_of (nadd e (nl 1)) (by omega)]
  omega
