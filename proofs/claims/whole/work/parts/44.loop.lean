/-! the law's loop -/
theorem law_le {L i : Nat} (hL : L ≤ 3072) (hi : i ≤ 10000) (h : ¬ nI L - 6 < nI i) : i + 6 ≤ L := by
  by_cases h6 : 6 ≤ L
  · have e : nI L - 6 = nI (L - 6) := by
      have e1 : nI L = nI (L - 6) + nI 6 := by rw [nI_add]; congr 1; omega
      rw [e1, show (6 : Int32) = nI 6 from rfl]
      exact Int32.add_sub_cancel _ _
    rw [e] at h
    have h2 : ¬ L - 6 < i := fun z => h (nI_lt z (by omega))
    omega
  · refine absurd ?_ h
    have h7 : (nI L - 6).toInt < 0 := by
      rcases (show L = 0 ∨ L = 1 ∨ L = 2 ∨ L = 3 ∨ L = 4 ∨ L = 5 by omega) with rfl | rfl | rfl | rfl | rfl | rfl <;> decide +kernel
    rw [Int32.lt_iff_toInt_lt, nI_toInt (n := i) (by omega)]
    omega
set_option maxHeartbeats 1000000 in
set_option maxRecDepth 20000 in
theorem law_sw {X : Cx} {l : Launch} {D : va_G} {k : Nat → ClassId} {g : Nat → Nat} {fr lo b L : Nat} {xs : Nat → Int32} {a c : Nat → Nat} (hC : Ok X l D k g cL_law RL 4 fr lo) (hX : Scr X b L xs) (hfr : 100 ≤ fr) (hlo : 2000 ≤ lo) (hL : L ≤ 3072) {i : Nat} (hi : i + 6 ≤ L) {σ μ ν ν2 : St} (hRQ : RQ σ μ) (y : Int32) (hk : ∀ σ ν μ ν2 : St, RQ σ μ → V X (wX k g a σ ν ++ wM k c μ ν2) [(3, .int (nI i)), (2, .ref (c 20)), (1, .ref (a 0)), (0, .ref b)] [] 1441) : V X (wX k g a σ ν ++ wM k c μ ν2) [(3, .int (nI i)), (2, .ref (c 20)), (1, .ref (a 0)), (0, .ref b)] [.int y] 33 := by
  by_cases hin : 0 ≤ y.toInt ∧ y.toInt ≤ 38
  · obtain ⟨j, hj⟩ : ∃ j : Nat, y.toInt = (j : Int) := ⟨y.toInt.toNat, by omega⟩
    have hj39 : j < 39 := by omega
    match j, hj39, hj with
      | 0, _, ey => exact V.tableIn (pc := 33) 204 hC dL_law_33 (by rw [ey]; decide) (by rw [ey]; decide) (by rw [ey]; rfl) (by decide) (law_c0 hC hX hfr hlo hL hi hRQ hk)
      | 1, _, ey => exact V.tableIn (pc := 33) 237 hC dL_law_33 (by rw [ey]; decide) (by rw [ey]; decide) (by rw [ey]; rfl) (by decide) (law_c1 hC hX hfr hlo hL hi hRQ hk)
      | 2, _, ey => exact V.tableIn (pc := 33) 270 hC dL_law_33 (by rw [ey]; decide) (by rw [ey]; decide) (by rw [ey]; rfl) (by decide) (law_c2 hC hX hfr hlo hL hi hRQ hk)
      | 3, _, ey => exact V.tableIn (pc := 33) 303 hC dL_law_33 (by rw [ey]; decide) (by rw [ey]; decide) (by rw [ey]; rfl) (by decide) (law_c3 hC hX hfr hlo hL hi hRQ hk)
      | 4, _, ey => exact V.tableIn (pc := 33) 336 hC dL_law_33 (by rw [ey]; decide) (by rw [ey]; decide) (by rw [ey]; rfl) (by decide) (law_c4 hC hX hfr hlo hL hi hRQ hk)
      | 5, _, ey => exact V.tableIn (pc := 33) 369 hC dL_law_33 (by rw [ey]; decide) (by rw [ey]; decide) (by rw [ey]; rfl) (by decide) (law_c5 hC hX hfr hlo hL hi hRQ hk)
      | 6, _, ey => exact V.tableIn (pc := 33) 402 hC dL_law_33 (by rw [ey]; decide) (by rw [ey]; decide) (by rw [ey]; rfl) (by decide) (law_c6 hC hX hfr hlo hL hi hRQ hk)
      | 7, _, ey => exact V.tableIn (pc := 33) 435 hC dL_law_33 (by rw [ey]; decide) (by rw [ey]; decide) (by rw [ey]; rfl) (by decide) (law_c7 hC hX hfr hlo hL hi hRQ hk)
      | 8, _, ey => exact V.tableIn (pc := 33) 468 hC dL_law_33 (by rw [ey]; decide) (by rw [ey]; decide) (by rw [ey]; rfl) (by decide) (law_c8 hC hX hfr hlo hL hi hRQ hk)
      | 9, _, ey => exact V.tableIn (pc := 33) 501 hC dL_law_33 (by rw [ey]; decide) (by rw [ey]; decide) (by rw [ey]; rfl) (by decide) (law_c9 hC hX hfr hlo hL hi hRQ hk)
      | 10, _, ey => exact V.tableIn (pc := 33) 534 hC dL_law_33 (by rw [ey]; decide) (by rw [ey]; decide) (by rw [ey]; rfl) (by decide) (law_c10 hC hX hfr hlo hL hi hRQ hk)
      | 11, _, ey => exact V.tableIn (pc := 33) 597 hC dL_law_33 (by rw [ey]; decide) (by rw [ey]; decide) (by rw [ey]; rfl) (by decide) (law_c11 hC hX hfr hlo hL hi hRQ hk)
      | 12, _, ey => exact V.tableIn (pc := 33) 620 hC dL_law_33 (by rw [ey]; decide) (by rw [ey]; decide) (by rw [ey]; rfl) (by decide) (law_c12 hC hX hfr hlo hL hi hRQ hk)
      | 13, _, ey => exact V.tableIn (pc := 33) 643 hC dL_law_33 (by rw [ey]; decide) (by rw [ey]; decide) (by rw [ey]; rfl) (by decide) (law_c13 hC hX hfr hlo hL hi hRQ hk)
      | 14, _, ey => exact V.tableIn (pc := 33) 696 hC dL_law_33 (by rw [ey]; decide) (by rw [ey]; decide) (by rw [ey]; rfl) (by decide) (law_c14 hC hX hfr hlo hL hi hRQ hk)
      | 15, _, ey => exact V.tableIn (pc := 33) 719 hC dL_law_33 (by rw [ey]; decide) (by rw [ey]; decide) (by rw [ey]; rfl) (by decide) (law_c15 hC hX hfr hlo hL hi hRQ hk)
      | 16, _, ey => exact V.tableIn (pc := 33) 742 hC dL_law_33 (by rw [ey]; decide) (by rw [ey]; decide) (by rw [ey]; rfl) (by decide) (law_c16 hC hX hfr hlo hL hi hRQ hk)
      | 17, _, ey => exact V.tableIn (pc := 33) 765 hC dL_law_33 (by rw [ey]; decide) (by rw [ey]; decide) (by rw [ey]; rfl) (by decide) (law_c17 hC hX hfr hlo hL hi hRQ hk)
      | 18, _, ey => exact V.tableIn (pc := 33) 798 hC dL_law_33 (by rw [ey]; decide) (by rw [ey]; decide) (by rw [ey]; rfl) (by decide) (law_c18 hC hX hfr hlo hL hi hRQ hk)
      | 19, _, ey => exact V.tableIn (pc := 33) 831 hC dL_law_33 (by rw [ey]; decide) (by rw [ey]; decide) (by rw [ey]; rfl) (by decide) (law_c19 hC hX hfr hlo hL hi hRQ hk)
      | 20, _, ey => exact V.tableIn (pc := 33) 844 hC dL_law_33 (by rw [ey]; decide) (by rw [ey]; decide) (by rw [ey]; rfl) (by decide) (law_c20 hC hX hfr hlo hL hi hRQ hk)
      | 21, _, ey => exact V.tableIn (pc := 33) 877 hC dL_law_33 (by rw [ey]; decide) (by rw [ey]; decide) (by rw [ey]; rfl) (by decide) (law_c21 hC hX hfr hlo hL hi hRQ hk)
      | 22, _, ey => exact V.tableIn (pc := 33) 910 hC dL_law_33 (by rw [ey]; decide) (by rw [ey]; decide) (by rw [ey]; rfl) (by decide) (law_c22 hC hX hfr hlo hL hi hRQ hk)
      | 23, _, ey => exact V.tableIn (pc := 33) 963 hC dL_law_33 (by rw [ey]; decide) (by rw [ey]; decide) (by rw [ey]; rfl) (by decide) (law_c23 hC hX hfr hlo hL hi hRQ hk)
      | 24, _, ey => exact V.tableIn (pc := 33) 1006 hC dL_law_33 (by rw [ey]; decide) (by rw [ey]; decide) (by rw [ey]; rfl) (by decide) (law_c24 hC hX hfr hlo hL hi hRQ hk)
      | 25, _, ey => exact V.tableIn (pc := 33) 1049 hC dL_law_33 (by rw [ey]; decide) (by rw [ey]; decide) (by rw [ey]; rfl) (by decide) (law_c25 hC hX hfr hlo hL hi hRQ hk)
      | 26, _, ey => exact V.tableIn (pc := 33) 1072 hC dL_law_33 (by rw [ey]; decide) (by rw [ey]; decide) (by rw [ey]; rfl) (by decide) (law_c26 hC hX hfr hlo hL hi hRQ hk)
      | 27, _, ey => exact V.tableIn (pc := 33) 1115 hC dL_law_33 (by rw [ey]; decide) (by rw [ey]; decide) (by rw [ey]; rfl) (by decide) (law_c27 hC hX hfr hlo hL hi hRQ hk)
      | 28, _, ey => exact V.tableIn (pc := 33) 1138 hC dL_law_33 (by rw [ey]; decide) (by rw [ey]; decide) (by rw [ey]; rfl) (by decide) (law_c28 hC hX hfr hlo hL hi hRQ hk)
      | 29, _, ey => exact V.tableIn (pc := 33) 1181 hC dL_law_33 (by rw [ey]; decide) (by rw [ey]; decide) (by rw [ey]; rfl) (by decide) (law_c29 hC hX hfr hlo hL hi hRQ hk)
      | 30, _, ey => exact V.tableIn (pc := 33) 1224 hC dL_law_33 (by rw [ey]; decide) (by rw [ey]; decide) (by rw [ey]; rfl) (by decide) (law_c30 hC hX hfr hlo hL hi hRQ hk)
      | 31, _, ey => exact V.tableIn (pc := 33) 1287 hC dL_law_33 (by rw [ey]; decide) (by rw [ey]; decide) (by rw [ey]; rfl) (by decide) (law_c31 hC hX hfr hlo hL hi hRQ hk)
      | 32, _, ey => exact V.tableIn (pc := 33) 1310 hC dL_law_33 (by rw [ey]; decide) (by rw [ey]; decide) (by rw [ey]; rfl) (by decide) (law_c32 hC hX hfr hlo hL hi hRQ hk)
      | 33, _, ey => exact V.tableIn (pc := 33) 1333 hC dL_law_33 (by rw [ey]; decide) (by rw [ey]; decide) (by rw [ey]; rfl) (by decide) (law_c33 hC hX hfr hlo hL hi hRQ hk)
      | 34, _, ey => exact V.tableIn (pc := 33) 1346 hC dL_law_33 (by rw [ey]; decide) (by rw [ey]; decide) (by rw [ey]; rfl) (by decide) (law_c34 hC hX hfr hlo hL hi hRQ hk)
      | 35, _, ey => exact V.tableIn (pc := 33) 1359 hC dL_law_33 (by rw [ey]; decide) (by rw [ey]; decide) (by rw [ey]; rfl) (by decide) (law_c35 hC hX hfr hlo hL hi hRQ hk)
      | 36, _, ey => exact V.tableIn (pc := 33) 1382 hC dL_law_33 (by rw [ey]; decide) (by rw [ey]; decide) (by rw [ey]; rfl) (by decide) (law_c36 hC hX hfr hlo hL hi hRQ hk)
      | 37, _, ey => exact V.tableIn (pc := 33) 1395 hC dL_law_33 (by rw [ey]; decide) (by rw [ey]; decide) (by rw [ey]; rfl) (by decide) (law_c37 hC hX hfr hlo hL hi hRQ hk)
      | 38, _, ey => exact V.tableIn (pc := 33) 1418 hC dL_law_33 (by rw [ey]; decide) (by rw [ey]; decide) (by rw [ey]; rfl) (by decide) (law_c38 hC hX hfr hlo hL hi hRQ hk)
      | j + 39, h, _ => exact absurd h (by omega)
  · exact V.tableOut (pc := 33) 1441 hC dL_law_33 (by omega) (by decide) (hk σ ν μ ν2 hRQ)
theorem law_loop {X : Cx} {l : Launch} {D : va_G} {k : Nat → ClassId} {g : Nat → Nat} {fr lo b L : Nat} {xs : Nat → Int32} {a c : Nat → Nat} (hC : Ok X l D k g cL_law RL 4 fr lo) (hX : Scr X b L xs) (hfr : 100 ≤ fr) (hlo : 2000 ≤ lo) (hL : L ≤ 3072) (hE : ∀ (ws : va_W) (lv : List (Nat × Value)), V X ws lv [] 1447) : ∀ (n i : Nat) (σ μ ν ν2 : St), L < i + n → i ≤ 4000 → RQ σ μ → V X (wX k g a σ ν ++ wM k c μ ν2) [(3, .int (nI i)), (2, .ref (c 20)), (1, .ref (a 0)), (0, .ref b)] [] 18 := by
  intro n
  induction n with
  | zero =>
    intro i σ μ ν ν2 hn hi4 hRQ
    refine V.iload_n (pc := 18) 0 hC dL_law_18 rfl ?_
    refine V.aload_n (pc := 19) 3 hC dL_law_19 rfl ?_
    refine V.slen (pc := 20) hC hX dL_law_20 ?_
    refine V.bipush (pc := 21) 6 hC dL_law_21 (by decide) ?_
    refine V.isub (pc := 23) hC dL_law_23 ?_
    refine V.icmp_gt (pc := 24) 1447 hC dL_law_24 (by decide) (fun _ => hE _ _) (fun h => ?_)
    have hi := law_le hL (by omega) h
    exact absurd hn (by omega)
  | succ n ih =>
    intro i σ μ ν ν2 hn hi4 hRQ
    refine V.iload_n (pc := 18) 0 hC dL_law_18 rfl ?_
    refine V.aload_n (pc := 19) 3 hC dL_law_19 rfl ?_
    refine V.slen (pc := 20) hC hX dL_law_20 ?_
    refine V.bipush (pc := 21) 6 hC dL_law_21 (by decide) ?_
    refine V.isub (pc := 23) hC dL_law_23 ?_
    refine V.icmp_gt (pc := 24) 1447 hC dL_law_24 (by decide) (fun _ => hE _ _) (fun h => ?_)
    have hi := law_le hL (by omega) h
    refine V.aload_n (pc := 27) 3 hC dL_law_27 rfl ?_
    refine V.iload_n (pc := 28) 0 hC dL_law_28 rfl ?_
    refine V.sld (pc := 29) i hC hX rfl (by omega) hL dL_law_29 ?_
    refine V.bipush (pc := 30) 63 hC dL_law_30 (by decide) ?_
    refine V.iand (pc := 32) hC dL_law_32 ?_
    refine law_sw hC hX hfr hlo hL hi hRQ _ (fun σ1 ν1 μ1 ν3 hRQ1 => ?_)
    refine V.iinc (pc := 1441) 0 (nI (i + 6)) [(3, .int (nI (i + 6))), (2, .ref (c 20)), (1, .ref (a 0)), (0, .ref b)] hC dL_law_1441 rfl (ncast (nadd rfl (nl 6)) (by omega)) (by decide) rfl ?_
    refine V.goto (pc := 1444) 18 hC dL_law_1444 (by decide) ?_
    exact ih (i + 6) σ1 μ1 ν1 ν3 (by omega) (by omega) hRQ1
