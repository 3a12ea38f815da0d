/-! the ops, as the reference does them: answer and lasting state -/
theorem opr {x : Int32 × St} {r : Int32} {m : St} (h : x = (r, m)) : some (Value.int r) = some (Value.int x.1) ∧ m = x.2 := by rw [h]; exact ⟨rfl, rfl⟩
theorem inS_n {v N : Int32} {n : Nat} (h : inS v 0 (N - 1)) (hN : N = nI n) (hn : n < 1073741824) : v = nI (nN v) ∧ nN v < n := by
  obtain ⟨j, hj, rfl⟩ := nI_of (x := v) (fun q => absurd h.1 (Int32.not_le.mpr q))
  have h2 := h.2
  rw [hN] at h2
  have hk : nN (nI j) = j := nN_nI hj
  rw [hk]
  refine ⟨rfl, ?_⟩
  cases n with
  | zero => exact absurd (Int32.le_trans h.1 h2) (by decide)
  | succ n => rw [nI_pred] at h2; have := (nI_leI hj (by omega)).mp h2; omega
theorem inS_c {v M : Int32} {n : Nat} (h : inS v 0 M) (hM : M = nI n) (hn : n < 2147483648) : v = nI (nN v) ∧ nN v ≤ n := by
  obtain ⟨j, hj, rfl⟩ := nI_of (x := v) (fun q => absurd h.1 (Int32.not_le.mpr q))
  have h2 := h.2
  rw [hM] at h2
  have hk : nN (nI j) = j := nN_nI hj
  rw [hk]
  exact ⟨rfl, (nI_leI hj hn).mp h2⟩
theorem inS_1 {v M : Int32} {n m : Nat} {L : Int32} (h : inS v L M) (hL : L = nI m) (hM : M = nI n) (hm : m < 2147483648) (hn : n < 2147483648) : v = nI (nN v) ∧ m ≤ nN v ∧ nN v ≤ n := by
  obtain ⟨j, hj, rfl⟩ := nI_of (x := v) (fun q => absurd (Int32.lt_of_lt_of_le q (by rw [hL]; exact nI_pos' hm)) (Int32.not_lt.mpr h.1))
  have h1 := h.1
  have h2 := h.2
  rw [hM] at h2
  rw [hL] at h1
  have hk : nN (nI j) = j := nN_nI hj
  rw [hk]
  exact ⟨rfl, (nI_leI hm hj).mp h1, (nI_leI hj hn).mp h2⟩
abbrev hndS (μ : St) (h : Int32) : Prop := inS h 0 (μ 0 2 - 1)
abbrev homS (μ : St) (h : Int32) : Prop := inS h 0 (μ 0 3 - 1)
abbrev prsS (μ : St) (p : Int32) : Prop := inS p 0 (μ 0 4 - 1)
abbrev row (μ : St) (ρ : Rw) : St := va_up μ 0 ρ
def op_hand (t o : Int32) (μ : St) : Int32 × St := if ¬ inS t 1 1440 then er 1 μ else if ¬ inS o 0 1439 then er 1 μ else if μ 0 2 = 4 then er 4 μ else (μ 0 2, row μ (upd (upd (upd (μ 0) 2 (μ 0 2 + 1)) (7 + 2 * nN (μ 0 2)) t) (8 + 2 * nN (μ 0 2)) o))
def op_handIs (h w : Int32) (μ : St) : Int32 × St := if ¬ hndS μ h then er 1 μ else if ¬ inS w 0 3 then er 1 μ else (if w = 0 then μ 0 (7 + 2 * nN h) else if w = 1 then μ 0 (8 + 2 * nN h) else if w = 2 then markS (μ 0) (nN h) (μ 0 0) else homesOnS (μ 0) h, μ)
def froV (tu o v : Int32) : Int32 := if irm (o - v) tu < 0 then irm (o - v) tu + tu else irm (o - v) tu
def op_frost (h v : Int32) (μ : St) : Int32 × St := if ¬ hndS μ h then er 1 μ else if ¬ inS v 1 99 then er 1 μ else (froV (μ 0 (7 + 2 * nN h)) (μ 0 (8 + 2 * nN h)) v, row μ (upd (μ 0) (8 + 2 * nN h) (froV (μ 0 (7 + 2 * nN h)) (μ 0 (8 + 2 * nN h)) v)))
def op_home (h f : Int32) (μ : St) : Int32 × St := if ¬ hndS μ h then er 1 μ else if ¬ inS f 0 9 then er 1 μ else if μ 0 3 = 8 then er 4 μ else (μ 0 3, row μ (upd (upd (upd (μ 0) 3 (μ 0 3 + 1)) (15 + 2 * nN (μ 0 3)) h) (16 + 2 * nN (μ 0 3)) f))
def op_homeIs (h w : Int32) (μ : St) : Int32 × St := if ¬ homS μ h then er 1 μ else if w = 0 then (μ 0 (15 + 2 * nN h), μ) else if w = 1 then (μ 0 (16 + 2 * nN h), μ) else if w = 2 then (markS (μ 0) (nN (μ 0 (15 + 2 * nN h))) (μ 0 0), μ) else if w = 3 then (worthS (μ 0) (nN h) (μ 0 0), μ) else if w = 4 then (whoInS (μ 0) h, μ) else er 1 μ
def op_person (km h : Int32) (μ : St) : Int32 × St := if ¬ inS km 0 69 then er 1 μ else if ¬ homS μ h then er 1 μ else if μ 0 4 = 6 then er 4 μ else (μ 0 4, row μ (upd (upd (upd (upd (μ 0) 4 (μ 0 4 + 1)) (31 + 3 * nN (μ 0 4)) (km / 10)) (32 + 3 * nN (μ 0 4)) (irm km 10)) (33 + 3 * nN (μ 0 4)) h))
def op_personIs (p w : Int32) (μ : St) : Int32 × St := if ¬ prsS μ p then er 1 μ else if w = 0 then (μ 0 (31 + 3 * nN p), μ) else if w = 1 then (μ 0 (32 + 3 * nN p), μ) else if w = 2 then (μ 0 (33 + 3 * nN p), μ) else if w = 3 then (leapsS (μ 0) (nN p) (μ 0 0), μ) else if w = 4 then (spansS (μ 0) (nN p), μ) else if w = 5 then (roomsByS (μ 0) (nN p) 1, μ) else er 1 μ
def op_become (p km : Int32) (μ : St) : Int32 × St := if ¬ prsS μ p then er 1 μ else if ¬ inS km 0 69 then er 1 μ else (μ 0 (31 + 3 * nN p), row μ (upd (upd (μ 0) (32 + 3 * nN p) (irm km 10)) (31 + 3 * nN p) (km / 10)))
abbrev asOk (kd s : Int32) : Prop := kd = 0 ∨ kd = s ∨ (kd = 1 ∧ s = 4) ∨ (kd = 2 ∧ s = 5)
def op_as (p kd : Int32) (μ : St) : Int32 × St := if ¬ prsS μ p then er 1 μ else if ¬ inS kd 0 6 then er 1 μ else if asOk kd (μ 0 (31 + 3 * nN p)) then (μ 0 (32 + 3 * nN p), μ) else er 5 μ
def op_jump (p h : Int32) (μ : St) : Int32 × St := if ¬ prsS μ p then er 1 μ else if ¬ homS μ h then er 1 μ else if μ 0 (33 + 3 * nN p) = h ∨ getsS (μ 0) (nN p) (nN (μ 0 (33 + 3 * nN p))) (nN h) (μ 0 0) then (μ 0 (33 + 3 * nN p), row μ (upd (μ 0) (33 + 3 * nN p) h)) else er 3 μ
def bytS (w : Int64) (j : Nat) : Int32 := ((w >>> ((8 * nI j).toInt64 &&& 63)) &&& 255).toInt32
def feedS (w : Int64) : Nat → Nat → Rw → Rw
  | 0, _, ρ => ρ
  | n + 1, j, ρ => feedS w n (j + 1) (upd (upd ρ (49 + nN (ρ 5)) (bytS w j)) 5 (ρ 5 + 1))
def op_feed (w : Int64) (n : Int32) (μ : St) : Int32 × St := if ¬ inS n 1 8 then er 1 μ else if 60 < μ 0 5 + n then er 4 μ else (feedS w (nN n) 0 (μ 0) 5, row μ (feedS w (nN n) 0 (μ 0)))
def op_untell (u : Int32) (μ : St) : Int32 × St := if ¬ inS u 0 1 then er 1 μ else (if 0 < μ 0 (133 + 121 * nN u) then 1 else 0, row μ (upd (μ 0) (133 + 121 * nN u) 0))
def op_law (u x y z : Int32) (μ : St) : Int32 × St := if inS u 0 1 then (givesS (μ 0) (nN u) x y z, μ) else er 1 μ
def op_minutes (n : Int32) (μ : St) : Int32 × St := if ¬ inS n 1 720 then er 1 μ else if 9999 < μ 0 0 + n then er 3 μ else (μ 0 0 + n, row μ (upd (μ 0) 0 (μ 0 0 + n)))
def drwS (ρ : Rw) : Rw := upd ρ 1 (ρ 1 * 1103515245 + 12345)
def dvS (ρ : Rw) : Int32 := ((ρ 1 * 1103515245 + 12345).toUInt32 >>> ((8 : Int32).toUInt32 &&& Int32.toUInt32 31)).toInt32
/-- who is drawn, and where to -/
def dpS (ρ : Rw) : Nat := nN (irm (dvS ρ) (ρ 4))
def dhS (ρ : Rw) : Int32 := irm (dvS (drwS ρ)) (ρ 3)
abbrev dnoS (ρ : Rw) : Prop := dhS ρ = ρ (33 + 3 * dpS ρ) ∨ ¬ getsS (drwS (drwS ρ)) (dpS ρ) (nN (ρ (33 + 3 * dpS ρ))) (nN (dhS ρ)) (ρ 0)
def drnS (ρ : Rw) : Int32 × Rw := if dnoS ρ then (0, drwS (drwS ρ)) else (1, upd (drwS (drwS ρ)) (33 + 3 * dpS ρ) (dhS ρ))
def lstS (ρ : Rw) : Int32 × Rw := if 0 < ρ 4 then drnS ρ else (0, ρ)
def losS : Nat → Int32 → Rw → Int32 × Rw
  | 0, j, ρ => (j, ρ)
  | n + 1, j, ρ => losS n (j + (lstS ρ).1) (upd (lstS ρ).2 0 ((lstS ρ).2 0 + 1))
def op_loose (n : Int32) (μ : St) : Int32 × St := if ¬ inS n 1 40 then er 1 μ else if 9999 < μ 0 0 + n then er 3 μ else ((losS (nN n) 0 (μ 0)).1, row μ (losS (nN n) 0 (μ 0)).2)
def op_seed (v : Int32) (μ : St) : Int32 × St := (μ 0 1, row μ (upd (μ 0) 1 v))
def op_markAt (h n : Int32) (μ : St) : Int32 × St := if ¬ hndS μ h then er 1 μ else if ¬ inS n 0 9999 then er 1 μ else (markS (μ 0) (nN h) (μ 0 0 + n), μ)
def metS (ρ : Rw) (x y : Nat) : Nat := srch (fun i => decide (¬ 0 < apartS ρ x y (ρ 0 + nI i))) 1441 0
def op_meet (x y : Int32) (μ : St) : Int32 × St := if ¬ hndS μ x then er 1 μ else if ¬ hndS μ y then er 1 μ else if x = y then er 1 μ else if 1440 < metS (μ 0) (nN x) (nN y) then er 2 μ else (nI (metS (μ 0) (nN x) (nN y)), μ)
def allF (q : Nat → Bool) : Nat → Nat → Bool
  | 0, _ => true
  | n + 1, i => q i && allF q n (i + 1)
def almS (ρ : Rw) (t : Int32) : Bool := allF (fun h => decide (apartS ρ 0 h t = 0)) (nN (ρ 2) - 1) 1
def couS (ρ : Rw) : Nat := srch (fun i => almS ρ (ρ 0 + nI i)) 10000 0
def op_council (μ : St) : Int32 × St := if μ 0 2 = 0 then er 3 μ else if 9999 < couS (μ 0) then er 2 μ else (nI (couS (μ 0)), μ)
def sooS (ρ : Rw) (p : Nat) (h : Int32) : Nat → Nat → Int32 → Nat
  | 0, i, _ => i
  | n + 1, i, set => if bitS set h = 0 then sooS ρ p h n (i + 1) (onwardS ρ p set (ρ 0 + nI i)) else i
abbrev sooV (ρ : Rw) (p : Nat) (h : Int32) : Nat := sooS ρ p h 721 0 (b1 (ρ (33 + 3 * p)))
def op_soonest (p h : Int32) (μ : St) : Int32 × St := if ¬ prsS μ p then er 1 μ else if ¬ homS μ h then er 1 μ else if 720 < sooV (μ 0) (nN p) h then er 2 μ else (nI (sooV (μ 0) (nN p) h), μ)
def op_rooms (p n : Int32) (μ : St) : Int32 × St := if ¬ prsS μ p then er 1 μ else if ¬ inS n 0 720 then er 1 μ else (roomsByS (μ 0) (nN p) (nN n), μ)
def pc8 (c : Nat) : Nat := c % 2 + c / 2 % 2 + c / 4 % 2 + c / 8 % 2 + c / 16 % 2 + c / 32 % 2 + c / 64 % 2 + c / 128 % 2
def reW (ρ : Rw) (p : Nat) : Rw := fun j => wayS ρ p (j % 8) (ρ 0 + nI (j / 8))
def watF (ρ : Rw) (p n : Nat) (h : Int32) (re : Rw) : Nat → Int32 → Int32 := fun i best => if nI i &&& (b1 h ||| b1 (ρ (33 + 3 * p))) = 0 ∧ (best < 0 ∨ pc8 i < pc8 (nN best)) then (if bitS (roomsButS ρ re p n (nI i)) h = 0 then nI i else best) else best
def watS (ρ : Rw) (p n : Nat) (h : Int32) : Int32 := run (watF ρ p n h (reW ρ p)) (2 ^ nN (ρ 3)) 0 (-1)
def op_watch (p h n w : Int32) (μ : St) : Int32 × St := if ¬ prsS μ p then er 1 μ else if ¬ homS μ h then er 1 μ else if ¬ inS n 1 60 then er 1 μ else if ¬ inS w 0 1 then er 1 μ else if μ 0 (33 + 3 * nN p) = h then er 3 μ else if watS (μ 0) (nN p) (nN n) h < 0 then er 2 μ else (if w = 0 then nI (pc8 (nN (watS (μ 0) (nN p) (nN n) h))) else watS (μ 0) (nN p) (nN n) h, μ)
def bstF (ρ : Rw) (set t : Int32) : Nat → Int32 → Int32 := fun i best => if bitS set (nI i) = 1 ∧ (best < 0 ∨ worthS ρ (nN best) t < worthS ρ i t) then nI i else best
def bstS (ρ : Rw) (p : Nat) (n : Int32) : Int32 := run (bstF ρ (roomsByS ρ p (nN n)) (ρ 0 + n)) (nN (ρ 3)) 0 (-1)
def op_best (p n w : Int32) (μ : St) : Int32 × St := if ¬ prsS μ p then er 1 μ else if ¬ inS n 0 60 then er 1 μ else if ¬ inS w 0 1 then er 1 μ else (if w = 0 then bstS (μ 0) (nN p) n else worthS (μ 0) (nN (bstS (μ 0) (nN p) n)) (μ 0 0 + n), μ)
def oddS (ρ : Rw) (p : Nat) (h : Int32) : Int32 := run (fun i s => s + (if ρ (33 + 3 * p) = h ∨ getsS ρ p (nN (ρ (33 + 3 * p))) (nN h) (ρ 0 + nI i) then 1 else 0)) 60 0 0
def op_odds (p h w : Int32) (μ : St) : Int32 × St := if ¬ prsS μ p then er 1 μ else if ¬ homS μ h then er 1 μ else if ¬ inS w 0 1 then er 1 μ else (if w = 0 then nI (nN (oddS (μ 0) (nN p) h) / Nat.gcd (nN (oddS (μ 0) (nN p) h)) 60) else nI (60 / Nat.gcd (nN (oddS (μ 0) (nN p) h)) 60), μ)
abbrev shtS (s : Int32) : Prop := inS s 0 3
def fitF (μ : St) (s : Int32) : Nat → Int32 → Int32 := fun i set => set ||| (if allF (fun j => decide (μ 6 (24 * nN s + j) = markS (μ 0) i (μ 0 0 + nI j))) (nN (μ 5 (nN s))) 0 = true then b1 (nI i) else 0)
def op_fits (s : Int32) (μ : St) : Int32 × St := if ¬ shtS s then er 1 μ else if μ 4 (nN s) = 0 then er 2 μ else (run (fitF μ s) (nN (μ 0 2)) 0 0, μ)
def op_body (i : Int32) (μ : St) : Int32 × St := if inS i 0 (μ 18 0 - 1) then (μ 17 (nN i), μ) else er 2 μ
def clrS (f : Rw) (p : Nat) : Rw := fun j => if p ≤ j ∧ j < p + 24 then 0 else f j
def op_sheet (s bt n : Int32) (μ : St) : Int32 × St := if ¬ shtS s then er 1 μ else if ¬ bt = 0 ∧ ¬ bt = 8 ∧ ¬ bt = 16 ∧ ¬ bt = 32 then er 1 μ else if 0 < bt ∧ n < 0 then er 3 μ else if 0 < bt ∧ 24 < n then er 1 μ else (1, va_up (va_up (va_up μ 4 (upd (μ 4) (nN s) bt)) 5 (upd (μ 5) (nN s) (if bt = 0 then 0 else n))) 6 (clrS (μ 6) (24 * nN s)))
def cstS (bt v : Int32) : Int32 := if bt = 8 then v.toInt8.toInt32 else if bt = 16 then v.toInt16.toInt32 else v
def op_put (s i v : Int32) (μ : St) : Int32 × St := if ¬ shtS s then er 1 μ else if μ 4 (nN s) = 0 then er 2 μ else if ¬ inS i 0 (μ 5 (nN s) - 1) then er 1 μ else (1, va_up μ 6 (upd (μ 6) (24 * nN s + nN i) (cstS (μ 4 (nN s)) v)))
abbrev movOk (s i o j n : Int32) (μ : St) : Prop := 0 ≤ n ∧ 0 ≤ i ∧ 0 ≤ j ∧ n ≤ μ 5 (nN s) - i ∧ n ≤ μ 5 (nN o) - j
def op_move (s i o j n : Int32) (μ : St) : Int32 × St := if ¬ shtS s then er 1 μ else if ¬ shtS o then er 1 μ else if μ 4 (nN s) = 0 then er 2 μ else if μ 4 (nN o) = 0 then er 2 μ else if ¬ μ 4 (nN s) = μ 4 (nN o) then er 5 μ else if ¬ movOk s i o j n μ then er 1 μ else (n, va_up μ 6 (va_cpy (μ 6) (μ 6) (24 * nN s + nN i) (24 * nN o + nN j) (nN n)))
def ofsS (c : Rw) : Nat → Nat → Rw → Nat × Rw
  | 0, i, ρ => (i, ρ)
  | n + 1, i, ρ => if inS (c i) 0 1439 then ofsS c n (i + 1) (upd ρ (8 + 2 * i) (c i)) else (i, ρ)
def ofsV (μ : St) (s : Int32) : Nat × Rw := ofsS (fun i => μ 6 (24 * nN s + i)) (min (nN (μ 5 (nN s))) (nN (μ 0 2))) 0 (μ 0)
def op_offsets (s : Int32) (μ : St) : Int32 × St := if ¬ shtS s then er 1 μ else if μ 4 (nN s) = 0 then er 2 μ else (nI (ofsV μ s).1, row μ (ofsV μ s).2)
def op_judge (s : Int32) (μ : St) : Int32 × St := if ¬ shtS s then er 1 μ else if μ 4 (nN s) = 0 then er 2 μ else (nI (srch (fun i => decide (¬ μ 6 (24 * nN s + i) = μ 0 (33 + 3 * i))) (min (nN (μ 5 (nN s))) (nN (μ 0 4))) 0), μ)
def op_image (μ : St) : Int32 × St := (μ 2 0 + 1, va_up (va_up μ 1 (va_cpy (μ 0) (μ 1) 0 0 375)) 2 (fun _ => μ 2 0 + 1))
def op_restore (μ : St) : Int32 × St := if μ 2 0 = 0 then er 2 μ else (μ 1 0, row μ (va_cpy (μ 1) (μ 0) 0 0 375))
def op_tell (v : Int32) (μ : St) : Int32 × St := if μ 0 6 = 24 then er 4 μ else (μ 0 6 + 1, row μ (upd (upd (μ 0) (109 + nN (μ 0 6)) v) 6 (μ 0 6 + 1)))
def chkS (ρ : Rw) : Nat := srch (fun i => decide (¬ (i < nN (ρ 2) ∧ ρ (109 + i) = markS ρ i (ρ 0)))) (nN (ρ 6)) 0
def op_check (μ : St) : Int32 × St := (if chkS (μ 0) = nN (μ 0 6) then 0 else 1 + nI (chkS (μ 0)), row μ (upd (μ 0) 6 0))
def op_count (w : Int32) (μ : St) : Int32 × St := if w = 0 then (μ 0 2, μ) else if w = 1 then (μ 0 3, μ) else if w = 2 then (μ 0 4, μ) else if w = 3 then (μ 0 0, μ) else if w = 4 then (μ 0 5, μ) else if w = 5 then (μ 0 6, μ) else if w = 6 then (μ 18 0, μ) else if w = 7 then (μ 0 1, μ) else er 1 μ
def op_told (e : Int32) (μ : St) : Int32 × St := if inS e 1 6 then (μ 3 (nN e), μ) else er 1 μ
theorem er_1 {μ : St} : er 1 μ = ((-1000000001), va_up μ 3 (upd (μ 3) 1 (μ 3 1 + 1))) := by unfold er; rw [show lowE 1 = -1000000001 from by decide]
theorem er_2 {μ : St} : er 2 μ = ((-1000000002), va_up μ 3 (upd (μ 3) 2 (μ 3 2 + 1))) := by unfold er; rw [show lowE 2 = -1000000002 from by decide]
theorem er_3 {μ : St} : er 3 μ = ((-1000000003), va_up μ 3 (upd (μ 3) 3 (μ 3 3 + 1))) := by unfold er; rw [show lowE 3 = -1000000003 from by decide]
theorem er_4 {μ : St} : er 4 μ = ((-1000000004), va_up μ 3 (upd (μ 3) 4 (μ 3 4 + 1))) := by unfold er; rw [show lowE 4 = -1000000004 from by decide]
theorem er_5 {μ : St} : er 5 μ = ((-1000000005), va_up μ 3 (upd (μ 3) 5 (μ 3 5 + 1))) := by unfold er; rw [show lowE 5 = -1000000005 from by decide]
theorem er_6 {μ : St} : er 6 μ = ((-1000000006), va_up μ 3 (upd (μ 3) 6 (μ 3 6 + 1))) := by unfold er; rw [show lowE 6 = -1000000006 from by decide]
theorem pc8_t : (List.range 256).all (fun r => decide (0 < r → (nI r &&& (nI r - 1)) = nI (r &&& (r - 1)) ∧ (r &&& (r - 1)) < r ∧ pc8 (r &&& (r - 1)) + 1 = pc8 r)) = true := by decide +kernel
theorem pc8_s {r : Nat} (h : r < 256) (h0 : 0 < r) : (nI r &&& (nI r - 1)) = nI (r &&& (r - 1)) ∧ (r &&& (r - 1)) < r ∧ pc8 (r &&& (r - 1)) + 1 = pc8 r := by
  have := List.all_eq_true.mp pc8_t r (List.mem_range.mpr h)
  exact of_decide_eq_true this h0
