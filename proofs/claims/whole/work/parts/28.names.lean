theorem V.getCompact {X : Cx} {l : Launch} {D : va_G} {k : Nat → ClassId} {g : Nat → Nat} {cc : ByteArray} {own : String} {n fr lo : Nat} {ws : va_W} {lv : List (Nat × Value)} {st : List Value} {pc : Nat} {idx : Nat} (hC : Ok X l D k g cc own n fr lo) (hlk : Cond.fieldLink own idx "java/lang/String" "COMPACT_STRINGS" "Z" ∈ lwG) (hd : decode cc pc = .ok (.getstatic idx, 3)) (kk : V X ws lv (.int 1 :: st) (pc + 3)) : V X ws lv st pc := by
  obtain ⟨p, l, e, R, s, m, args, below, meth, c, Q, D, A, nL, cells, slots⟩ := X
  obtain ⟨rfl, rfl, rfl, hx, hb, hml, hown, hts, hK, hAm, hA, hfr, hlo, hce, hsl⟩ := hC
  intro H locs ls hP hD hS hl
  exact va_gets hx hb hAm.2.2.2.2.2.2.2.2.2 hS hown (hts _ hlk) (fun _ h9 => h9) hd (kk H locs ls hP hD hS hl)
theorem V.getCoder {X : Cx} {l : Launch} {D : va_G} {k : Nat → ClassId} {g : Nat → Nat} {cc : ByteArray} {own : String} {n fr lo : Nat} {ws : va_W} {lv : List (Nat × Value)} {st : List Value} {pc : Nat} {idx i : Nat} (hC : Ok X l D k g cc own n fr lo) (hi : i < 3) (hlk : Cond.fieldLink own idx "java/lang/String" "coder" "B" ∈ lwG) (hd : decode cc pc = .ok (.getfield idx, 3)) (kk : V X ws lv (.int 0 :: st) (pc + 3)) : V X ws lv (.ref (g (2 + i)) :: st) pc := by
  obtain ⟨p, l, e, R, s, m, args, below, meth, c, Q, D, A, nL, cells, slots⟩ := X
  obtain ⟨rfl, rfl, rfl, hx, hb, hml, hown, hts, hK, hAm, hA, hfr, hlo, hce, hsl⟩ := hC
  intro H locs ls hP hD hS hl
  exact vk_getf hx hb (hAm.2.2.2.2.2.1.1 i hi).2.1 hS hown (hts _ hlk) (fun _ h9 => h9) hd (kk H locs ls hP hD hS hl)
theorem V.getVal {X : Cx} {l : Launch} {D : va_G} {k : Nat → ClassId} {g : Nat → Nat} {cc : ByteArray} {own : String} {n fr lo : Nat} {ws : va_W} {lv : List (Nat × Value)} {st : List Value} {pc : Nat} {idx i : Nat} (hC : Ok X l D k g cc own n fr lo) (hi : i < 3) (hlk : Cond.fieldLink own idx "java/lang/String" "value" "[B" ∈ lwG) (hd : decode cc pc = .ok (.getfield idx, 3)) (kk : V X ws lv (.ref (g (5 + i)) :: st) (pc + 3)) : V X ws lv (.ref (g (2 + i)) :: st) pc := by
  obtain ⟨p, l, e, R, s, m, args, below, meth, c, Q, D, A, nL, cells, slots⟩ := X
  obtain ⟨rfl, rfl, rfl, hx, hb, hml, hown, hts, hK, hAm, hA, hfr, hlo, hce, hsl⟩ := hC
  intro H locs ls hP hD hS hl
  exact vk_getf hx hb (hAm.2.2.2.2.2.1.1 i hi).2.2.1 hS hown (hts _ hlk) (fun _ h9 => h9) hd (kk H locs ls hP hD hS hl)
theorem V.lenStr {X : Cx} {l : Launch} {D : va_G} {k : Nat → ClassId} {g : Nat → Nat} {cc : ByteArray} {own : String} {n fr lo : Nat} {ws : va_W} {lv : List (Nat × Value)} {st : List Value} {pc : Nat} {i : Nat} {v : Int32} (hC : Ok X l D k g cc own n fr lo) (hi : i < 3) (hv : Int32.ofNat (stLen.getD i 0) = v) (hd : decode cc pc = .ok (.arraylength, 1)) (kk : V X ws lv (.int v :: st) (pc + 1)) : V X ws lv (.ref (g (5 + i)) :: st) pc := by
  obtain ⟨p, l, e, R, s, m, args, below, meth, c, Q, D, A, nL, cells, slots⟩ := X
  obtain ⟨rfl, rfl, rfl, hx, hb, hml, hown, hts, hK, hAm, hA, hfr, hlo, hce, hsl⟩ := hC
  intro H locs ls hP hD hS hl
  exact va_tlen hx hb (hAm.2.2.2.2.2.1.1 i hi).2.2.2 hS hv hd (kk H locs ls hP hD hS hl)
theorem V.ldStr {X : Cx} {l : Launch} {D : va_G} {k : Nat → ClassId} {g : Nat → Nat} {cc : ByteArray} {own : String} {n fr lo : Nat} {ws : va_W} {lv : List (Nat × Value)} {st : List Value} {pc : Nat} {i : Nat} {x : Int32} (hC : Ok X l D k g cc own n fr lo) (j : Nat) (v : Int32) (hi : i < 3) (hx0 : x = nI j) (hj : j < stLen.getD i 0 ∧ stLen.getD i 0 < 4) (hv : (stByt.getD i []).getD j 0 = v) (hd : decode cc pc = .ok (.baload, 1)) (kk : V X ws lv (.int v :: st) (pc + 1)) : V X ws lv (.int x :: .ref (g (5 + i)) :: st) pc := by
  obtain ⟨p, l, e, R, s, m, args, below, meth, c, Q, D, A, nL, cells, slots⟩ := X
  obtain ⟨rfl, rfl, rfl, hx, hb, hml, hown, hts, hK, hAm, hA, hfr, hlo, hce, hsl⟩ := hC
  intro H locs ls hP hD hS hl
  subst hx0; subst hv
  exact va_tb hx hb (hAm.2.2.2.2.2.1.1 i hi).2.2.2 hS (vp_in_nI hj.1 (by omega)) (v := .int ((stByt.getD i []).getD j 0)) (by rw [nI_clamp (by omega)]) hd (kk H locs ls hP hD hS hl)
theorem V.ldcM {X : Cx} {l : Launch} {D : va_G} {k : Nat → ClassId} {g : Nat → Nat} {cc : ByteArray} {own : String} {n fr lo : Nat} {ws : va_W} {lv : List (Nat × Value)} {st : List Value} {pc : Nat} (hC : Ok X l D k g cc own n fr lo) (ho : own = RX1) (hd : decode cc pc = .ok (.ldc 32, 2)) (kk : V X ws lv (.ref (g 3) :: st) (pc + 2)) : V X ws lv st pc := by
  subst ho
  obtain ⟨p, l, e, R, s, m, args, below, meth, c, Q, D, A, nL, cells, slots⟩ := X
  obtain ⟨rfl, rfl, rfl, hx, hb, hml, hown, hts, hK, hAm, hA, hfr, hlo, hce, hsl⟩ := hC
  intro H locs ls hP hD hS hl
  exact va_ldcS hx hb hown hAm.2.2.2.2.2.2.2.1 hd (kk H locs ls hP hD hS hl)
theorem V.ldcR {X : Cx} {l : Launch} {D : va_G} {k : Nat → ClassId} {g : Nat → Nat} {cc : ByteArray} {own : String} {n fr lo : Nat} {ws : va_W} {lv : List (Nat × Value)} {st : List Value} {pc : Nat} (hC : Ok X l D k g cc own n fr lo) (ho : own = RX1) (hd : decode cc pc = .ok (.ldc 34, 2)) (kk : V X ws lv (.ref (g 4) :: st) (pc + 2)) : V X ws lv st pc := by
  subst ho
  obtain ⟨p, l, e, R, s, m, args, below, meth, c, Q, D, A, nL, cells, slots⟩ := X
  obtain ⟨rfl, rfl, rfl, hx, hb, hml, hown, hts, hK, hAm, hA, hfr, hlo, hce, hsl⟩ := hC
  intro H locs ls hP hD hS hl
  exact va_ldcS hx hb hown hAm.2.2.2.2.2.2.2.2.1 hd (kk H locs ls hP hD hS hl)
theorem V.callStr {X : Cx} {l : Launch} {D : va_G} {k : Nat → ClassId} {g : Nat → Nat} {cc : ByteArray} {own : String} {n fr lo : Nat} {ws : va_W} {lv : List (Nat × Value)} {pc : Nat} {idx i : Nat} {y : MethodName} {yb : ByteArray} {yn fr' lo' : Nat} {yr : Option FieldType} {as : List Value} {S : Type} {post : Option Value → S → Prop} {rest stk : List Value} (hC : Ok X l D k g cc own n fr lo) (hct : Ct l D k g y yb yn yr fr' lo' (.ref (g (2 + i)) :: as) [] (fun _ => []) post) (hU : MU "java/lang/String" y yb yn yr as.length) (hlk : Cond.methodLink own idx y ∈ lwG) (hroom : fr' + 1 ≤ fr ∧ 8 + (yn + 11) + lo' ≤ lo) (hi : i < 3) (hst : stk = as.reverse ++ .ref (g (2 + i)) :: rest) (hsum : (rest.map fun v => v.category).sum ≤ 8) (hd : decode cc pc = .ok (.invokevirtual idx, 3)) (kk : ∀ (v : Option Value) (u : S), post v u → V X ws lv (v.toList ++ rest) (pc + 3)) : V X ws lv stk pc := by
  obtain ⟨p, l, e, R, s, m, args, below, meth, c, Q, D, A, nL, cells, slots⟩ := X
  obtain ⟨rfl, rfl, rfl, hx, hb, hml, hown, hts, hK, hAm, hA, hfr, hlo, hce, hsl⟩ := hC
  intro H locs ls hP hD hS hl
  subst hst
  have hpre := V.pre (k := k) (g := g) (as := .ref (g (2 + i)) :: as) (wl := []) (wc := []) (wr := ws) hP hD hS hA hK hAm
  exact V.after (wl := []) (wc := []) (wr := ws) (as' := .ref (g (2 + i)) :: as) hP hD hS hl hA (va_runV (As := as) (rest := rest) ⟨hx, hb, hml, hown, hts⟩ (hct H.size) (cwV as.length hts (gUV hlk hU) rfl rfl rfl hU.2.2.2.2 ⟨Nat.le_trans hroom.1 hfr, Nat.le_trans hroom.2 hlo⟩) ⟨hpre.1, vk_recv hAm.2.2.2.2.2.1 hi hS, hpre.2⟩ rfl rfl hl.1 rfl (lv_room hsum) hd ⟨hce, hsl⟩) kk
theorem bq {c v : Int32} (hc : isN c 255) {q : Nat} (hv : v = nI q) (hq : q < 128) : v = c.toInt8.toInt32 ↔ c = v := by
  have h : ∀ w, w < 256 → ∀ q, q < 128 → (nI q = (nI w).toInt8.toInt32 ↔ nI w = nI q) := by decide +kernel
  obtain ⟨w, hw, hwb⟩ : ∃ w, c = nI w ∧ w ≤ 255 := ⟨_, hc.1, hc.2⟩
  rw [hw, hv]
  exact h w (by omega) q hq

set_option maxHeartbeats 4000000 in
set_option maxRecDepth 100000 in
theorem c_J1_canEncode_9a6ad {l : Launch} {D : va_G} {k : Nat → ClassId} {g : Nat → Nat} (c : Int32) (hc : isN c 255) : Ct l D k g yJ1_canEncode_9a6ad cJ1_canEncode_9a6ad 1 (some .boolean) 0 0 [.int c] (S := Unit) ([]) (fun _ => []) (fun vv _ => vv = some (.int 1)) := by
  refine Ct.ofI RJ1 rfl (by decide +kernel) (Nat.le_of_ble_eq_true rfl) (fun X hC hR => ?_)
  show V X ([]) [(0, .int c)] [] 0
  refine V.iload_n (pc := 0) 0 hC dJ1_canEncode_9a6ad_0 rfl ?_
  refine V.if_lt (pc := 1) 15 hC dJ1_canEncode_9a6ad_1 (by decide) (fun c_1 => ?_) (fun c_1 => ?_)
  · exact absurd c_1 (by rw [hc.1]; exact nI_pos (by have := hc.2; omega))
  · refine V.iload_n (pc := 4) 0 hC dJ1_canEncode_9a6ad_4 rfl ?_
    refine V.sipush (pc := 5) 255 hC dJ1_canEncode_9a6ad_5 (by decide) ?_
    refine V.icmp_gt (pc := 8) 15 hC dJ1_canEncode_9a6ad_8 (by decide) (fun c_8 => ?_) (fun c_8 => ?_)
    · exact absurd c_8 (fun z => by rw [hc.1] at z; have := (nI_ltI (a := 255) (b := nN c) (by omega) (by have := hc.2; omega)).mp z; have := hc.2; omega)
    · refine V.iconst (pc := 11) 1 hC dJ1_canEncode_9a6ad_11 (by decide) ?_
      refine V.goto (pc := 12) 16 hC dJ1_canEncode_9a6ad_12 (by decide) ?_
      exact hR 1 () _ _ dJ1_canEncode_9a6ad_16 (by first | rfl | exact bI_n _) rfl
set_option maxHeartbeats 4000000 in
set_option maxRecDepth 100000 in
theorem c_coder_1 {l : Launch} {D : va_G} {k : Nat → ClassId} {g : Nat → Nat}   : Ct l D k g yJ0_coder_7d493 cJ0_coder_7d493 1 (some .byte) 0 0 [.ref (g 3)] (S := Unit) ([]) (fun _ => []) (fun vv _ => vv = some (.int 0)) := by
  refine Ct.ofI RJ0 rfl (by decide +kernel) (Nat.le_of_ble_eq_true rfl) (fun X hC hR => ?_)
  show V X ([]) [(0, .ref (g 3))] [] 0
  refine V.getCompact (pc := 0) hC fl_J0_38 dJ0_coder_7d493_0 ?_
  refine V.if_eq (pc := 3) 13 hC dJ0_coder_7d493_3 (by decide) (fun c_3 => ?_) (fun c_3 => ?_)
  · have nc_3 : 1 = 0 := (neq (nl 1) (nl 0) (by omega) (by omega)).mp c_3
    exact absurd c_3 (by decide)
  · have nc_3 : ¬ (1 = 0) := fun z => c_3 ((neq (nl 1) (nl 0) (by omega) (by omega)).mpr z)
    refine V.aload_n (pc := 6) 0 hC dJ0_coder_7d493_6 rfl ?_
    refine V.getCoder (pc := 7) (i := 1) hC (by decide) fl_J0_15 dJ0_coder_7d493_7 ?_
    refine V.goto (pc := 10) 14 hC dJ0_coder_7d493_10 (by decide) ?_
    exact hR 0 () _ _ dJ0_coder_7d493_14 rfl rfl
set_option maxHeartbeats 4000000 in
set_option maxRecDepth 100000 in
theorem c_latin_1 {l : Launch} {D : va_G} {k : Nat → ClassId} {g : Nat → Nat}   : Ct l D k g yJ0_isLatin1_aae02 cJ0_isLatin1_aae02 1 (some .boolean) 0 0 [.ref (g 3)] (S := Unit) ([]) (fun _ => []) (fun vv _ => vv = some (.int 1)) := by
  refine Ct.ofI RJ0 rfl (by decide +kernel) (Nat.le_of_ble_eq_true rfl) (fun X hC hR => ?_)
  show V X ([]) [(0, .ref (g 3))] [] 0
  refine V.getCompact (pc := 0) hC fl_J0_38 dJ0_isLatin1_aae02_0 ?_
  refine V.if_eq (pc := 3) 17 hC dJ0_isLatin1_aae02_3 (by decide) (fun c_3 => ?_) (fun c_3 => ?_)
  · have nc_3 : 1 = 0 := (neq (nl 1) (nl 0) (by omega) (by omega)).mp c_3
    exact absurd c_3 (by decide)
  · have nc_3 : ¬ (1 = 0) := fun z => c_3 ((neq (nl 1) (nl 0) (by omega) (by omega)).mpr z)
    refine V.aload_n (pc := 6) 0 hC dJ0_isLatin1_aae02_6 rfl ?_
    refine V.getCoder (pc := 7) (i := 1) hC (by decide) fl_J0_15 dJ0_isLatin1_aae02_7 ?_
    refine V.if_ne (pc := 10) 17 hC dJ0_isLatin1_aae02_10 (by decide) (fun c_10 => ?_) (fun c_10 => ?_)
    · have nc_10 : ¬ (0 = 0) := fun z => c_10 ((neq (nl 0) (nl 0) (by omega) (by omega)).mpr z)
      exact absurd c_10 (by decide)
    · have nc_10 : 0 = 0 := (neq (nl 0) (nl 0) (by omega) (by omega)).mp c_10
      refine V.iconst (pc := 13) 1 hC dJ0_isLatin1_aae02_13 (by decide) ?_
      refine V.goto (pc := 14) 18 hC dJ0_isLatin1_aae02_14 (by decide) ?_
      exact hR 1 () _ _ dJ0_isLatin1_aae02_18 (by first | rfl | exact bI_n _) rfl
set_option maxHeartbeats 4000000 in
set_option maxRecDepth 100000 in
theorem c_slen_1 {l : Launch} {D : va_G} {k : Nat → ClassId} {g : Nat → Nat}   : Ct l D k g yJ0_length_8abf5 cJ0_length_8abf5 1 (some .int) 1 20 [.ref (g 3)] (S := Unit) ([]) (fun _ => []) (fun vv _ => vv = some (.int 3)) := by
  refine Ct.ofI RJ0 rfl (by decide +kernel) (Nat.le_of_ble_eq_true rfl) (fun X hC hR => ?_)
  show V X ([]) [(0, .ref (g 3))] [] 0
  refine V.aload_n (pc := 0) 0 hC dJ0_length_8abf5_0 rfl ?_
  refine V.getVal (pc := 1) (i := 1) hC (by decide) fl_J0_9 dJ0_length_8abf5_1 ?_
  refine V.lenStr (pc := 4) (i := 1) hC (v := 3) (by decide) rfl dJ0_length_8abf5_4 ?_
  refine V.aload_n (pc := 5) 0 hC dJ0_length_8abf5_5 rfl ?_
  refine V.callStr (pc := 6) (as := []) (i := 1) hC (c_coder_1  ) mu_J0_coder_7d493 ml_J0_335 (by decide) (by decide) rfl (Nat.le_of_ble_eq_true rfl) dJ0_length_8abf5_6 ?_
  rintro _ _ rfl
  show V X ([]) [(0, .ref (g 3))] [.int 0, .int 3] 9
  refine V.ishr (pc := 9) hC dJ0_length_8abf5_9 ?_
  refine V.eqi (y := 3) (by decide) ?_
  exact hR 3 () _ _ dJ0_length_8abf5_10 rfl rfl
set_option maxHeartbeats 4000000 in
set_option maxRecDepth 100000 in
theorem c_ixc_1 {l : Launch} {D : va_G} {k : Nat → ClassId} {g : Nat → Nat} (c : Int32) (hc : isN c 255) : Ct l D k g yJ1_indexOfChar_4cfef cJ1_indexOfChar_4cfef 6 (some .int) 0 0 [.ref (g 6), .int c, .int 0, .int 3] (S := Unit) ([]) (fun _ => []) (fun vv _ => vv = some (.int (namS 0 c))) := by
  refine Ct.ofI RJ1 rfl (by decide +kernel) (Nat.le_of_ble_eq_true rfl) (fun X hC hR => ?_)
  show V X ([]) [(0, .ref (g 6)), (1, .int c), (2, .int 0), (3, .int 3)] [] 0
  refine V.iload_n (pc := 0) 1 hC dJ1_indexOfChar_4cfef_0 rfl ?_
  refine V.i2b (pc := 1) hC dJ1_indexOfChar_4cfef_1 ?_
  refine V.istore (pc := 2) [(4, .int c.toInt8.toInt32), (0, .ref (g 6)), (1, .int c), (2, .int 0), (3, .int 3)] hC dJ1_indexOfChar_4cfef_2 (by decide) rfl ?_
  refine V.iload_n (pc := 4) 3 hC dJ1_indexOfChar_4cfef_4 rfl ?_
  refine V.istore (pc := 5) [(5, .int 0), (4, .int c.toInt8.toInt32), (0, .ref (g 6)), (1, .int c), (2, .int 0), (3, .int 3)] hC dJ1_indexOfChar_4cfef_5 (by decide) rfl ?_
  refine V.iload (pc := 7) 0 hC dJ1_indexOfChar_4cfef_7 rfl ?_
  refine V.iload_n (pc := 9) 5 hC dJ1_indexOfChar_4cfef_9 rfl ?_
  refine V.icmp_ge (pc := 10) 31 hC dJ1_indexOfChar_4cfef_10 (by decide) (fun c_10 => ?_) (fun c_10 => ?_)
  · have nc_10 : 3 ≤ 0 := (nle (nl 3) (nl 0) (by omega) (by omega)).mp c_10
    exact absurd c_10 (by decide)
  · have nc_10 : ¬ (3 ≤ 0) := fun z => c_10 ((nle (nl 3) (nl 0) (by omega) (by omega)).mpr z)
    refine V.aload_n (pc := 13) 2 hC dJ1_indexOfChar_4cfef_13 rfl ?_
    refine V.iload (pc := 14) 0 hC dJ1_indexOfChar_4cfef_14 rfl ?_
    refine V.ldStr (pc := 16) (i := 1) hC 0 109 (by decide) (nl 0) (by decide) rfl dJ1_indexOfChar_4cfef_16 ?_
    refine V.iload (pc := 17) 1 hC dJ1_indexOfChar_4cfef_17 rfl ?_
    refine V.icmp_ne (pc := 19) 25 hC dJ1_indexOfChar_4cfef_19 (by decide) (fun c_19 => ?_) (fun c_19 => ?_)
    · refine V.iinc (pc := 25) 0 (nI 1) [(5, .int (nI 1)), (4, .int c.toInt8.toInt32), (0, .ref (g 6)), (1, .int c), (2, .int 0), (3, .int 3)] hC dJ1_indexOfChar_4cfef_25 rfl (ncast (nadd (nl 0) (nl 1)) (by omega)) (by decide) rfl ?_
      refine V.goto (pc := 28) 7 hC dJ1_indexOfChar_4cfef_28 (by decide) ?_
      refine V.iload (pc := 7) 0 hC dJ1_indexOfChar_4cfef_7 rfl ?_
      refine V.iload_n (pc := 9) 5 hC dJ1_indexOfChar_4cfef_9 rfl ?_
      refine V.icmp_ge (pc := 10) 31 hC dJ1_indexOfChar_4cfef_10 (by decide) (fun c_10_2 => ?_) (fun c_10_2 => ?_)
      · have nc_10_2 : 3 ≤ 1 := (nle (nl 3) rfl (by omega) (by omega)).mp c_10_2
        exact absurd c_10_2 (by decide)
      · have nc_10_2 : ¬ (3 ≤ 1) := fun z => c_10_2 ((nle (nl 3) rfl (by omega) (by omega)).mpr z)
        refine V.aload_n (pc := 13) 2 hC dJ1_indexOfChar_4cfef_13 rfl ?_
        refine V.iload (pc := 14) 0 hC dJ1_indexOfChar_4cfef_14 rfl ?_
        refine V.ldStr (pc := 16) (i := 1) hC 1 116 (by decide) rfl (by decide) rfl dJ1_indexOfChar_4cfef_16 ?_
        refine V.iload (pc := 17) 1 hC dJ1_indexOfChar_4cfef_17 rfl ?_
        refine V.icmp_ne (pc := 19) 25 hC dJ1_indexOfChar_4cfef_19 (by decide) (fun c_19_2 => ?_) (fun c_19_2 => ?_)
        · refine V.iinc (pc := 25) 0 (nI 2) [(5, .int (nI 2)), (4, .int c.toInt8.toInt32), (0, .ref (g 6)), (1, .int c), (2, .int 0), (3, .int 3)] hC dJ1_indexOfChar_4cfef_25 rfl (ncast (nadd rfl (nl 1)) (by omega)) (by decide) rfl ?_
          refine V.goto (pc := 28) 7 hC dJ1_indexOfChar_4cfef_28 (by decide) ?_
          refine V.iload (pc := 7) 0 hC dJ1_indexOfChar_4cfef_7 rfl ?_
          refine V.iload_n (pc := 9) 5 hC dJ1_indexOfChar_4cfef_9 rfl ?_
          refine V.icmp_ge (pc := 10) 31 hC dJ1_indexOfChar_4cfef_10 (by decide) (fun c_10_3 => ?_) (fun c_10_3 => ?_)
          · have nc_10_3 : 3 ≤ 2 := (nle (nl 3) rfl (by omega) (by omega)).mp c_10_3
            exact absurd c_10_3 (by decide)
          · have nc_10_3 : ¬ (3 ≤ 2) := fun z => c_10_3 ((nle (nl 3) rfl (by omega) (by omega)).mpr z)
            refine V.aload_n (pc := 13) 2 hC dJ1_indexOfChar_4cfef_13 rfl ?_
            refine V.iload (pc := 14) 0 hC dJ1_indexOfChar_4cfef_14 rfl ?_
            refine V.ldStr (pc := 16) (i := 1) hC 2 104 (by decide) rfl (by decide) rfl dJ1_indexOfChar_4cfef_16 ?_
            refine V.iload (pc := 17) 1 hC dJ1_indexOfChar_4cfef_17 rfl ?_
            refine V.icmp_ne (pc := 19) 25 hC dJ1_indexOfChar_4cfef_19 (by decide) (fun c_19_3 => ?_) (fun c_19_3 => ?_)
            · refine V.iinc (pc := 25) 0 (nI 3) [(5, .int (nI 3)), (4, .int c.toInt8.toInt32), (0, .ref (g 6)), (1, .int c), (2, .int 0), (3, .int 3)] hC dJ1_indexOfChar_4cfef_25 rfl (ncast (nadd rfl (nl 1)) (by omega)) (by decide) rfl ?_
              refine V.goto (pc := 28) 7 hC dJ1_indexOfChar_4cfef_28 (by decide) ?_
              refine V.iload (pc := 7) 0 hC dJ1_indexOfChar_4cfef_7 rfl ?_
              refine V.iload_n (pc := 9) 5 hC dJ1_indexOfChar_4cfef_9 rfl ?_
              refine V.icmp_ge (pc := 10) 31 hC dJ1_indexOfChar_4cfef_10 (by decide) (fun c_10_4 => ?_) (fun c_10_4 => ?_)
              · have nc_10_4 : 3 ≤ 3 := (nle (nl 3) rfl (by omega) (by omega)).mp c_10_4
                refine V.iconst (pc := 31) (-1) hC dJ1_indexOfChar_4cfef_31 (by decide) ?_
                exact hR (-1) () _ _ dJ1_indexOfChar_4cfef_32 rfl (ri (by unfold namS; rw [if_neg (fun q => q.elim (fun z => c_19 ((bq hc (nl 109) (by omega)).mpr z)) (fun q => q.elim (fun z => c_19_2 ((bq hc (nl 116) (by omega)).mpr z)) (fun z => c_19_3 ((bq hc (nl 104) (by omega)).mpr z))))]; split <;> rfl))
              · have nc_10_4 : ¬ (3 ≤ 3) := fun z => c_10_4 ((nle (nl 3) rfl (by omega) (by omega)).mpr z)
                exact absurd c_10_4 (by decide)
            · refine V.iload (pc := 22) 0 hC dJ1_indexOfChar_4cfef_22 rfl ?_
              exact hR (nI 2) () _ _ dJ1_indexOfChar_4cfef_24 rfl (ri (by rw [(bq hc (nl 104) (by omega)).mp (c_19_3)]; rfl))
        · refine V.iload (pc := 22) 0 hC dJ1_indexOfChar_4cfef_22 rfl ?_
          exact hR (nI 1) () _ _ dJ1_indexOfChar_4cfef_24 rfl (ri (by rw [(bq hc (nl 116) (by omega)).mp (c_19_2)]; rfl))
    · refine V.iload (pc := 22) 0 hC dJ1_indexOfChar_4cfef_22 rfl ?_
      exact hR 0 () _ _ dJ1_indexOfChar_4cfef_24 rfl (ri (by rw [(bq hc (nl 109) (by omega)).mp (c_19)]; rfl))
set_option maxHeartbeats 4000000 in
set_option maxRecDepth 100000 in
theorem c_l1_1 {l : Launch} {D : va_G} {k : Nat → ClassId} {g : Nat → Nat} (c : Int32) (hc : isN c 255) : Ct l D k g yJ1_indexOf_4cfef cJ1_indexOf_4cfef 4 (some .int) 1 25 [.ref (g 6), .int c, .int 0, .int 3] (S := Unit) ([]) (fun _ => []) (fun vv _ => vv = some (.int (namS 0 c))) := by
  refine Ct.ofI RJ1 rfl (by decide +kernel) (Nat.le_of_ble_eq_true rfl) (fun X hC hR => ?_)
  show V X ([]) [(0, .ref (g 6)), (1, .int c), (2, .int 0), (3, .int 3)] [] 0
  refine V.iload_n (pc := 0) 1 hC dJ1_indexOf_4cfef_0 rfl ?_
  refine V.callS0 (pc := 1) (as := [.int c]) hC (c_J1_canEncode_9a6ad c hc) ms_J1_canEncode_9a6ad ml_J1_88 (by decide) rfl (Nat.le_of_ble_eq_true rfl) dJ1_indexOf_4cfef_1 ?_
  rintro _ _ rfl
  show V X ([]) [(0, .ref (g 6)), (1, .int c), (2, .int 0), (3, .int 3)] [.int 1] 4
  refine V.if_ne (pc := 4) 9 hC dJ1_indexOf_4cfef_4 (by decide) (fun c_4 => ?_) (fun c_4 => ?_)
  · refine V.iload_n (pc := 9) 2 hC dJ1_indexOf_4cfef_9 rfl ?_
    refine V.iconst (pc := 10) 0 hC dJ1_indexOf_4cfef_10 (by decide) ?_
    refine V.mmax (pc := 11) hC ml_J1_92 ⟨Nat.le_of_ble_eq_true rfl, Nat.le_of_ble_eq_true rfl⟩ dJ1_indexOf_4cfef_11 ?_
    refine V.eqi (y := 0) (by decide) ?_
    refine V.istore_n (pc := 14) [(2, .int 0), (0, .ref (g 6)), (1, .int c), (3, .int 3)] hC dJ1_indexOf_4cfef_14 (by decide) rfl ?_
    refine V.iload_n (pc := 15) 3 hC dJ1_indexOf_4cfef_15 rfl ?_
    refine V.aload_n (pc := 16) 1 hC dJ1_indexOf_4cfef_16 rfl ?_
    refine V.lenStr (pc := 17) (i := 1) hC (v := 3) (by decide) rfl dJ1_indexOf_4cfef_17 ?_
    refine V.mmin (pc := 18) hC ml_J1_38 ⟨Nat.le_of_ble_eq_true rfl, Nat.le_of_ble_eq_true rfl⟩ dJ1_indexOf_4cfef_18 ?_
    refine V.eqi (y := 3) (by decide) ?_
    refine V.istore_n (pc := 21) [(3, .int 3), (2, .int 0), (0, .ref (g 6)), (1, .int c)] hC dJ1_indexOf_4cfef_21 (by decide) rfl ?_
    refine V.iload_n (pc := 22) 1 hC dJ1_indexOf_4cfef_22 rfl ?_
    refine V.iload_n (pc := 23) 0 hC dJ1_indexOf_4cfef_23 rfl ?_
    refine V.icmp_lt (pc := 24) 29 hC dJ1_indexOf_4cfef_24 (by decide) (fun c_24 => ?_) (fun c_24 => ?_)
    · have nc_24 : 0 < 3 := (nlt (nl 0) (nl 3) (by omega) (by omega)).mp c_24
      refine V.aload_n (pc := 29) 2 hC dJ1_indexOf_4cfef_29 rfl ?_
      refine V.iload_n (pc := 30) 3 hC dJ1_indexOf_4cfef_30 rfl ?_
      refine V.iload_n (pc := 31) 1 hC dJ1_indexOf_4cfef_31 rfl ?_
      refine V.iload_n (pc := 32) 0 hC dJ1_indexOf_4cfef_32 rfl ?_
      refine V.callS0 (pc := 33) (as := [.ref (g 6), .int c, .int 0, .int 3]) hC (c_ixc_1 c hc) ms_J1_indexOfChar_4cfef ml_J1_95 (by decide) rfl (Nat.le_of_ble_eq_true rfl) dJ1_indexOf_4cfef_33 ?_
      rintro _ _ rfl
      show V X ([]) [(3, .int 3), (2, .int 0), (0, .ref (g 6)), (1, .int c)] [.int (namS 0 c)] 36
      exact hR (namS 0 c) () _ _ dJ1_indexOf_4cfef_36 rfl rfl
    · have nc_24 : ¬ (0 < 3) := fun z => c_24 ((nlt (nl 0) (nl 3) (by omega) (by omega)).mpr z)
      exact absurd c_24 (by decide)
  · exact absurd c_4 (by decide)
set_option maxHeartbeats 4000000 in
set_option maxRecDepth 100000 in
theorem c_ix2_1 {l : Launch} {D : va_G} {k : Nat → ClassId} {g : Nat → Nat} (c : Int32) (hc : isN c 255) : Ct l D k g yJ0_indexOf_7cf53 cJ0_indexOf_7cf53 3 (some .int) 2 48 [.ref (g 3), .int c, .int 0] (S := Unit) ([]) (fun _ => []) (fun vv _ => vv = some (.int (namS 0 c))) := by
  refine Ct.ofI RJ0 rfl (by decide +kernel) (Nat.le_of_ble_eq_true rfl) (fun X hC hR => ?_)
  show V X ([]) [(0, .ref (g 3)), (1, .int c), (2, .int 0)] [] 0
  refine V.aload_n (pc := 0) 0 hC dJ0_indexOf_7cf53_0 rfl ?_
  refine V.callStr (pc := 1) (as := []) (i := 1) hC (c_latin_1  ) mu_J0_isLatin1_aae02 ml_J0_492 (by decide) (by decide) rfl (Nat.le_of_ble_eq_true rfl) dJ0_indexOf_7cf53_1 ?_
  rintro _ _ rfl
  show V X ([]) [(0, .ref (g 3)), (1, .int c), (2, .int 0)] [.int 1] 4
  refine V.if_eq (pc := 4) 23 hC dJ0_indexOf_7cf53_4 (by decide) (fun c_4 => ?_) (fun c_4 => ?_)
  · exact absurd c_4 (by decide)
  · refine V.aload_n (pc := 7) 0 hC dJ0_indexOf_7cf53_7 rfl ?_
    refine V.getVal (pc := 8) (i := 1) hC (by decide) fl_J0_9 dJ0_indexOf_7cf53_8 ?_
    refine V.iload_n (pc := 11) 1 hC dJ0_indexOf_7cf53_11 rfl ?_
    refine V.iload_n (pc := 12) 2 hC dJ0_indexOf_7cf53_12 rfl ?_
    refine V.aload_n (pc := 13) 0 hC dJ0_indexOf_7cf53_13 rfl ?_
    refine V.callStr (pc := 14) (as := []) (i := 1) hC (c_slen_1  ) mu_J0_length_8abf5 ml_J0_505 (by decide) (by decide) rfl (Nat.le_of_ble_eq_true rfl) dJ0_indexOf_7cf53_14 ?_
    rintro _ _ rfl
    show V X ([]) [(0, .ref (g 3)), (1, .int c), (2, .int 0)] [.int 3, .int 0, .int c, .ref (g 6)] 17
    refine V.callS0 (pc := 17) (as := [.ref (g 6), .int c, .int 0, .int 3]) hC (c_l1_1 c hc) ms_J1_indexOf_4cfef ml_J0_637 (by decide) rfl (Nat.le_of_ble_eq_true rfl) dJ0_indexOf_7cf53_17 ?_
    rintro _ _ rfl
    show V X ([]) [(0, .ref (g 3)), (1, .int c), (2, .int 0)] [.int (namS 0 c)] 20
    refine V.goto (pc := 20) 36 hC dJ0_indexOf_7cf53_20 (by decide) ?_
    exact hR (namS 0 c) () _ _ dJ0_indexOf_7cf53_36 rfl rfl
set_option maxHeartbeats 4000000 in
set_option maxRecDepth 100000 in
theorem c_ix1_1 {l : Launch} {D : va_G} {k : Nat → ClassId} {g : Nat → Nat} (c : Int32) (hc : isN c 255) : Ct l D k g yJ0_indexOf_0f7a4 cJ0_indexOf_0f7a4 2 (some .int) 3 70 [.ref (g 3), .int c] (S := Unit) ([]) (fun _ => []) (fun vv _ => vv = some (.int (namS 0 c))) := by
  refine Ct.ofI RJ0 rfl (by decide +kernel) (Nat.le_of_ble_eq_true rfl) (fun X hC hR => ?_)
  show V X ([]) [(0, .ref (g 3)), (1, .int c)] [] 0
  refine V.aload_n (pc := 0) 0 hC dJ0_indexOf_0f7a4_0 rfl ?_
  refine V.iload_n (pc := 1) 1 hC dJ0_indexOf_0f7a4_1 rfl ?_
  refine V.iconst (pc := 2) 0 hC dJ0_indexOf_0f7a4_2 (by decide) ?_
  refine V.callStr (pc := 3) (as := [.int c, .int 0]) (i := 1) hC (c_ix2_1 c hc) mu_J0_indexOf_7cf53 ml_J0_633 (by decide) (by decide) rfl (Nat.le_of_ble_eq_true rfl) dJ0_indexOf_0f7a4_3 ?_
  rintro _ _ rfl
  show V X ([]) [(0, .ref (g 3)), (1, .int c)] [.int (namS 0 c)] 6
  exact hR (namS 0 c) () _ _ dJ0_indexOf_0f7a4_6 rfl rfl
set_option maxHeartbeats 4000000 in
set_option maxRecDepth 100000 in
theorem c_coder_2 {l : Launch} {D : va_G} {k : Nat → ClassId} {g : Nat → Nat}   : Ct l D k g yJ0_coder_7d493 cJ0_coder_7d493 1 (some .byte) 0 0 [.ref (g 4)] (S := Unit) ([]) (fun _ => []) (fun vv _ => vv = some (.int 0)) := by
  refine Ct.ofI RJ0 rfl (by decide +kernel) (Nat.le_of_ble_eq_true rfl) (fun X hC hR => ?_)
  show V X ([]) [(0, .ref (g 4))] [] 0
  refine V.getCompact (pc := 0) hC fl_J0_38 dJ0_coder_7d493_0 ?_
  refine V.if_eq (pc := 3) 13 hC dJ0_coder_7d493_3 (by decide) (fun c_3 => ?_) (fun c_3 => ?_)
  · have nc_3 : 1 = 0 := (neq (nl 1) (nl 0) (by omega) (by omega)).mp c_3
    exact absurd c_3 (by decide)
  · have nc_3 : ¬ (1 = 0) := fun z => c_3 ((neq (nl 1) (nl 0) (by omega) (by omega)).mpr z)
    refine V.aload_n (pc := 6) 0 hC dJ0_coder_7d493_6 rfl ?_
    refine V.getCoder (pc := 7) (i := 2) hC (by decide) fl_J0_15 dJ0_coder_7d493_7 ?_
    refine V.goto (pc := 10) 14 hC dJ0_coder_7d493_10 (by decide) ?_
    exact hR 0 () _ _ dJ0_coder_7d493_14 rfl rfl
set_option maxHeartbeats 4000000 in
set_option maxRecDepth 100000 in
theorem c_latin_2 {l : Launch} {D : va_G} {k : Nat → ClassId} {g : Nat → Nat}   : Ct l D k g yJ0_isLatin1_aae02 cJ0_isLatin1_aae02 1 (some .boolean) 0 0 [.ref (g 4)] (S := Unit) ([]) (fun _ => []) (fun vv _ => vv = some (.int 1)) := by
  refine Ct.ofI RJ0 rfl (by decide +kernel) (Nat.le_of_ble_eq_true rfl) (fun X hC hR => ?_)
  show V X ([]) [(0, .ref (g 4))] [] 0
  refine V.getCompact (pc := 0) hC fl_J0_38 dJ0_isLatin1_aae02_0 ?_
  refine V.if_eq (pc := 3) 17 hC dJ0_isLatin1_aae02_3 (by decide) (fun c_3 => ?_) (fun c_3 => ?_)
  · have nc_3 : 1 = 0 := (neq (nl 1) (nl 0) (by omega) (by omega)).mp c_3
    exact absurd c_3 (by decide)
  · have nc_3 : ¬ (1 = 0) := fun z => c_3 ((neq (nl 1) (nl 0) (by omega) (by omega)).mpr z)
    refine V.aload_n (pc := 6) 0 hC dJ0_isLatin1_aae02_6 rfl ?_
    refine V.getCoder (pc := 7) (i := 2) hC (by decide) fl_J0_15 dJ0_isLatin1_aae02_7 ?_
    refine V.if_ne (pc := 10) 17 hC dJ0_isLatin1_aae02_10 (by decide) (fun c_10 => ?_) (fun c_10 => ?_)
    · have nc_10 : ¬ (0 = 0) := fun z => c_10 ((neq (nl 0) (nl 0) (by omega) (by omega)).mpr z)
      exact absurd c_10 (by decide)
    · have nc_10 : 0 = 0 := (neq (nl 0) (nl 0) (by omega) (by omega)).mp c_10
      refine V.iconst (pc := 13) 1 hC dJ0_isLatin1_aae02_13 (by decide) ?_
      refine V.goto (pc := 14) 18 hC dJ0_isLatin1_aae02_14 (by decide) ?_
      exact hR 1 () _ _ dJ0_isLatin1_aae02_18 (by first | rfl | exact bI_n _) rfl
set_option maxHeartbeats 4000000 in
set_option maxRecDepth 100000 in
theorem c_slen_2 {l : Launch} {D : va_G} {k : Nat → ClassId} {g : Nat → Nat}   : Ct l D k g yJ0_length_8abf5 cJ0_length_8abf5 1 (some .int) 1 20 [.ref (g 4)] (S := Unit) ([]) (fun _ => []) (fun vv _ => vv = some (.int 3)) := by
  refine Ct.ofI RJ0 rfl (by decide +kernel) (Nat.le_of_ble_eq_true rfl) (fun X hC hR => ?_)
  show V X ([]) [(0, .ref (g 4))] [] 0
  refine V.aload_n (pc := 0) 0 hC dJ0_length_8abf5_0 rfl ?_
  refine V.getVal (pc := 1) (i := 2) hC (by decide) fl_J0_9 dJ0_length_8abf5_1 ?_
  refine V.lenStr (pc := 4) (i := 2) hC (v := 3) (by decide) rfl dJ0_length_8abf5_4 ?_
  refine V.aload_n (pc := 5) 0 hC dJ0_length_8abf5_5 rfl ?_
  refine V.callStr (pc := 6) (as := []) (i := 2) hC (c_coder_2  ) mu_J0_coder_7d493 ml_J0_335 (by decide) (by decide) rfl (Nat.le_of_ble_eq_true rfl) dJ0_length_8abf5_6 ?_
  rintro _ _ rfl
  show V X ([]) [(0, .ref (g 4))] [.int 0, .int 3] 9
  refine V.ishr (pc := 9) hC dJ0_length_8abf5_9 ?_
  refine V.eqi (y := 3) (by decide) ?_
  exact hR 3 () _ _ dJ0_length_8abf5_10 rfl rfl
set_option maxHeartbeats 4000000 in
set_option maxRecDepth 100000 in
theorem c_ixc_2 {l : Launch} {D : va_G} {k : Nat → ClassId} {g : Nat → Nat} (c : Int32) (hc : isN c 255) : Ct l D k g yJ1_indexOfChar_4cfef cJ1_indexOfChar_4cfef 6 (some .int) 0 0 [.ref (g 7), .int c, .int 0, .int 3] (S := Unit) ([]) (fun _ => []) (fun vv _ => vv = some (.int (namS 1 c))) := by
  refine Ct.ofI RJ1 rfl (by decide +kernel) (Nat.le_of_ble_eq_true rfl) (fun X hC hR => ?_)
  show V X ([]) [(0, .ref (g 7)), (1, .int c), (2, .int 0), (3, .int 3)] [] 0
  refine V.iload_n (pc := 0) 1 hC dJ1_indexOfChar_4cfef_0 rfl ?_
  refine V.i2b (pc := 1) hC dJ1_indexOfChar_4cfef_1 ?_
  refine V.istore (pc := 2) [(4, .int c.toInt8.toInt32), (0, .ref (g 7)), (1, .int c), (2, .int 0), (3, .int 3)] hC dJ1_indexOfChar_4cfef_2 (by decide) rfl ?_
  refine V.iload_n (pc := 4) 3 hC dJ1_indexOfChar_4cfef_4 rfl ?_
  refine V.istore (pc := 5) [(5, .int 0), (4, .int c.toInt8.toInt32), (0, .ref (g 7)), (1, .int c), (2, .int 0), (3, .int 3)] hC dJ1_indexOfChar_4cfef_5 (by decide) rfl ?_
  refine V.iload (pc := 7) 0 hC dJ1_indexOfChar_4cfef_7 rfl ?_
  refine V.iload_n (pc := 9) 5 hC dJ1_indexOfChar_4cfef_9 rfl ?_
  refine V.icmp_ge (pc := 10) 31 hC dJ1_indexOfChar_4cfef_10 (by decide) (fun c_10 => ?_) (fun c_10 => ?_)
  · have nc_10 : 3 ≤ 0 := (nle (nl 3) (nl 0) (by omega) (by omega)).mp c_10
    exact absurd c_10 (by decide)
  · have nc_10 : ¬ (3 ≤ 0) := fun z => c_10 ((nle (nl 3) (nl 0) (by omega) (by omega)).mpr z)
    refine V.aload_n (pc := 13) 2 hC dJ1_indexOfChar_4cfef_13 rfl ?_
    refine V.iload (pc := 14) 0 hC dJ1_indexOfChar_4cfef_14 rfl ?_
    refine V.ldStr (pc := 16) (i := 2) hC 0 114 (by decide) (nl 0) (by decide) rfl dJ1_indexOfChar_4cfef_16 ?_
    refine V.iload (pc := 17) 1 hC dJ1_indexOfChar_4cfef_17 rfl ?_
    refine V.icmp_ne (pc := 19) 25 hC dJ1_indexOfChar_4cfef_19 (by decide) (fun c_19 => ?_) (fun c_19 => ?_)
    · refine V.iinc (pc := 25) 0 (nI 1) [(5, .int (nI 1)), (4, .int c.toInt8.toInt32), (0, .ref (g 7)), (1, .int c), (2, .int 0), (3, .int 3)] hC dJ1_indexOfChar_4cfef_25 rfl (ncast (nadd (nl 0) (nl 1)) (by omega)) (by decide) rfl ?_
      refine V.goto (pc := 28) 7 hC dJ1_indexOfChar_4cfef_28 (by decide) ?_
      refine V.iload (pc := 7) 0 hC dJ1_indexOfChar_4cfef_7 rfl ?_
      refine V.iload_n (pc := 9) 5 hC dJ1_indexOfChar_4cfef_9 rfl ?_
      refine V.icmp_ge (pc := 10) 31 hC dJ1_indexOfChar_4cfef_10 (by decide) (fun c_10_2 => ?_) (fun c_10_2 => ?_)
      · have nc_10_2 : 3 ≤ 1 := (nle (nl 3) rfl (by omega) (by omega)).mp c_10_2
        exact absurd c_10_2 (by decide)
      · have nc_10_2 : ¬ (3 ≤ 1) := fun z => c_10_2 ((nle (nl 3) rfl (by omega) (by omega)).mpr z)
        refine V.aload_n (pc := 13) 2 hC dJ1_indexOfChar_4cfef_13 rfl ?_
        refine V.iload (pc := 14) 0 hC dJ1_indexOfChar_4cfef_14 rfl ?_
        refine V.ldStr (pc := 16) (i := 2) hC 1 107 (by decide) rfl (by decide) rfl dJ1_indexOfChar_4cfef_16 ?_
        refine V.iload (pc := 17) 1 hC dJ1_indexOfChar_4cfef_17 rfl ?_
        refine V.icmp_ne (pc := 19) 25 hC dJ1_indexOfChar_4cfef_19 (by decide) (fun c_19_2 => ?_) (fun c_19_2 => ?_)
        · refine V.iinc (pc := 25) 0 (nI 2) [(5, .int (nI 2)), (4, .int c.toInt8.toInt32), (0, .ref (g 7)), (1, .int c), (2, .int 0), (3, .int 3)] hC dJ1_indexOfChar_4cfef_25 rfl (ncast (nadd rfl (nl 1)) (by omega)) (by decide) rfl ?_
          refine V.goto (pc := 28) 7 hC dJ1_indexOfChar_4cfef_28 (by decide) ?_
          refine V.iload (pc := 7) 0 hC dJ1_indexOfChar_4cfef_7 rfl ?_
          refine V.iload_n (pc := 9) 5 hC dJ1_indexOfChar_4cfef_9 rfl ?_
          refine V.icmp_ge (pc := 10) 31 hC dJ1_indexOfChar_4cfef_10 (by decide) (fun c_10_3 => ?_) (fun c_10_3 => ?_)
          · have nc_10_3 : 3 ≤ 2 := (nle (nl 3) rfl (by omega) (by omega)).mp c_10_3
            exact absurd c_10_3 (by decide)
          · have nc_10_3 : ¬ (3 ≤ 2) := fun z => c_10_3 ((nle (nl 3) rfl (by omega) (by omega)).mpr z)
            refine V.aload_n (pc := 13) 2 hC dJ1_indexOfChar_4cfef_13 rfl ?_
            refine V.iload (pc := 14) 0 hC dJ1_indexOfChar_4cfef_14 rfl ?_
            refine V.ldStr (pc := 16) (i := 2) hC 2 110 (by decide) rfl (by decide) rfl dJ1_indexOfChar_4cfef_16 ?_
            refine V.iload (pc := 17) 1 hC dJ1_indexOfChar_4cfef_17 rfl ?_
            refine V.icmp_ne (pc := 19) 25 hC dJ1_indexOfChar_4cfef_19 (by decide) (fun c_19_3 => ?_) (fun c_19_3 => ?_)
            · refine V.iinc (pc := 25) 0 (nI 3) [(5, .int (nI 3)), (4, .int c.toInt8.toInt32), (0, .ref (g 7)), (1, .int c), (2, .int 0), (3, .int 3)] hC dJ1_indexOfChar_4cfef_25 rfl (ncast (nadd rfl (nl 1)) (by omega)) (by decide) rfl ?_
              refine V.goto (pc := 28) 7 hC dJ1_indexOfChar_4cfef_28 (by decide) ?_
              refine V.iload (pc := 7) 0 hC dJ1_indexOfChar_4cfef_7 rfl ?_
              refine V.iload_n (pc := 9) 5 hC dJ1_indexOfChar_4cfef_9 rfl ?_
              refine V.icmp_ge (pc := 10) 31 hC dJ1_indexOfChar_4cfef_10 (by decide) (fun c_10_4 => ?_) (fun c_10_4 => ?_)
              · have nc_10_4 : 3 ≤ 3 := (nle (nl 3) rfl (by omega) (by omega)).mp c_10_4
                refine V.iconst (pc := 31) (-1) hC dJ1_indexOfChar_4cfef_31 (by decide) ?_
                exact hR (-1) () _ _ dJ1_indexOfChar_4cfef_32 rfl (ri (by unfold namS; rw [if_neg (c := c = 114 ∨ c = 107 ∨ c = 110) (fun q => q.elim (fun z => c_19 ((bq hc (nl 114) (by omega)).mpr z)) (fun q => q.elim (fun z => c_19_2 ((bq hc (nl 107) (by omega)).mpr z)) (fun z => c_19_3 ((bq hc (nl 110) (by omega)).mpr z))))]; split <;> rfl))
              · have nc_10_4 : ¬ (3 ≤ 3) := fun z => c_10_4 ((nle (nl 3) rfl (by omega) (by omega)).mpr z)
                exact absurd c_10_4 (by decide)
            · refine V.iload (pc := 22) 0 hC dJ1_indexOfChar_4cfef_22 rfl ?_
              exact hR (nI 2) () _ _ dJ1_indexOfChar_4cfef_24 rfl (ri (by rw [(bq hc (nl 110) (by omega)).mp (c_19_3)]; rfl))
        · refine V.iload (pc := 22) 0 hC dJ1_indexOfChar_4cfef_22 rfl ?_
          exact hR (nI 1) () _ _ dJ1_indexOfChar_4cfef_24 rfl (ri (by rw [(bq hc (nl 107) (by omega)).mp (c_19_2)]; rfl))
    · refine V.iload (pc := 22) 0 hC dJ1_indexOfChar_4cfef_22 rfl ?_
      exact hR 0 () _ _ dJ1_indexOfChar_4cfef_24 rfl (ri (by rw [(bq hc (nl 114) (by omega)).mp (c_19)]; rfl))
set_option maxHeartbeats 4000000 in
set_option maxRecDepth 100000 in
theorem c_l1_2 {l : Launch} {D : va_G} {k : Nat → ClassId} {g : Nat → Nat} (c : Int32) (hc : isN c 255) : Ct l D k g yJ1_indexOf_4cfef cJ1_indexOf_4cfef 4 (some .int) 1 25 [.ref (g 7), .int c, .int 0, .int 3] (S := Unit) ([]) (fun _ => []) (fun vv _ => vv = some (.int (namS 1 c))) := by
  refine Ct.ofI RJ1 rfl (by decide +kernel) (Nat.le_of_ble_eq_true rfl) (fun X hC hR => ?_)
  show V X ([]) [(0, .ref (g 7)), (1, .int c), (2, .int 0), (3, .int 3)] [] 0
  refine V.iload_n (pc := 0) 1 hC dJ1_indexOf_4cfef_0 rfl ?_
  refine V.callS0 (pc := 1) (as := [.int c]) hC (c_J1_canEncode_9a6ad c hc) ms_J1_canEncode_9a6ad ml_J1_88 (by decide) rfl (Nat.le_of_ble_eq_true rfl) dJ1_indexOf_4cfef_1 ?_
  rintro _ _ rfl
  show V X ([]) [(0, .ref (g 7)), (1, .int c), (2, .int 0), (3, .int 3)] [.int 1] 4
  refine V.if_ne (pc := 4) 9 hC dJ1_indexOf_4cfef_4 (by decide) (fun c_4 => ?_) (fun c_4 => ?_)
  · refine V.iload_n (pc := 9) 2 hC dJ1_indexOf_4cfef_9 rfl ?_
    refine V.iconst (pc := 10) 0 hC dJ1_indexOf_4cfef_10 (by decide) ?_
    refine V.mmax (pc := 11) hC ml_J1_92 ⟨Nat.le_of_ble_eq_true rfl, Nat.le_of_ble_eq_true rfl⟩ dJ1_indexOf_4cfef_11 ?_
    refine V.eqi (y := 0) (by decide) ?_
    refine V.istore_n (pc := 14) [(2, .int 0), (0, .ref (g 7)), (1, .int c), (3, .int 3)] hC dJ1_indexOf_4cfef_14 (by decide) rfl ?_
    refine V.iload_n (pc := 15) 3 hC dJ1_indexOf_4cfef_15 rfl ?_
    refine V.aload_n (pc := 16) 1 hC dJ1_indexOf_4cfef_16 rfl ?_
    refine V.lenStr (pc := 17) (i := 2) hC (v := 3) (by decide) rfl dJ1_indexOf_4cfef_17 ?_
    refine V.mmin (pc := 18) hC ml_J1_38 ⟨Nat.le_of_ble_eq_true rfl, Nat.le_of_ble_eq_true rfl⟩ dJ1_indexOf_4cfef_18 ?_
    refine V.eqi (y := 3) (by decide) ?_
    refine V.istore_n (pc := 21) [(3, .int 3), (2, .int 0), (0, .ref (g 7)), (1, .int c)] hC dJ1_indexOf_4cfef_21 (by decide) rfl ?_
    refine V.iload_n (pc := 22) 1 hC dJ1_indexOf_4cfef_22 rfl ?_
    refine V.iload_n (pc := 23) 0 hC dJ1_indexOf_4cfef_23 rfl ?_
    refine V.icmp_lt (pc := 24) 29 hC dJ1_indexOf_4cfef_24 (by decide) (fun c_24 => ?_) (fun c_24 => ?_)
    · have nc_24 : 0 < 3 := (nlt (nl 0) (nl 3) (by omega) (by omega)).mp c_24
      refine V.aload_n (pc := 29) 2 hC dJ1_indexOf_4cfef_29 rfl ?_
      refine V.iload_n (pc := 30) 3 hC dJ1_indexOf_4cfef_30 rfl ?_
      refine V.iload_n (pc := 31) 1 hC dJ1_indexOf_4cfef_31 rfl ?_
      refine V.iload_n (pc := 32) 0 hC dJ1_indexOf_4cfef_32 rfl ?_
      refine V.callS0 (pc := 33) (as := [.ref (g 7), .int c, .int 0, .int 3]) hC (c_ixc_2 c hc) ms_J1_indexOfChar_4cfef ml_J1_95 (by decide) rfl (Nat.le_of_ble_eq_true rfl) dJ1_indexOf_4cfef_33 ?_
      rintro _ _ rfl
      show V X ([]) [(3, .int 3), (2, .int 0), (0, .ref (g 7)), (1, .int c)] [.int (namS 1 c)] 36
      exact hR (namS 1 c) () _ _ dJ1_indexOf_4cfef_36 rfl rfl
    · have nc_24 : ¬ (0 < 3) := fun z => c_24 ((nlt (nl 0) (nl 3) (by omega) (by omega)).mpr z)
      exact absurd c_24 (by decide)
  · exact absurd c_4 (by decide)
set_option maxHeartbeats 4000000 in
set_option maxRecDepth 100000 in
theorem c_ix2_2 {l : Launch} {D : va_G} {k : Nat → ClassId} {g : Nat → Nat} (c : Int32) (hc : isN c 255) : Ct l D k g yJ0_indexOf_7cf53 cJ0_indexOf_7cf53 3 (some .int) 2 48 [.ref (g 4), .int c, .int 0] (S := Unit) ([]) (fun _ => []) (fun vv _ => vv = some (.int (namS 1 c))) := by
  refine Ct.ofI RJ0 rfl (by decide +kernel) (Nat.le_of_ble_eq_true rfl) (fun X hC hR => ?_)
  show V X ([]) [(0, .ref (g 4)), (1, .int c), (2, .int 0)] [] 0
  refine V.aload_n (pc := 0) 0 hC dJ0_indexOf_7cf53_0 rfl ?_
  refine V.callStr (pc := 1) (as := []) (i := 2) hC (c_latin_2  ) mu_J0_isLatin1_aae02 ml_J0_492 (by decide) (by decide) rfl (Nat.le_of_ble_eq_true rfl) dJ0_indexOf_7cf53_1 ?_
  rintro _ _ rfl
  show V X ([]) [(0, .ref (g 4)), (1, .int c), (2, .int 0)] [.int 1] 4
  refine V.if_eq (pc := 4) 23 hC dJ0_indexOf_7cf53_4 (by decide) (fun c_4 => ?_) (fun c_4 => ?_)
  · exact absurd c_4 (by decide)
  · refine V.aload_n (pc := 7) 0 hC dJ0_indexOf_7cf53_7 rfl ?_
    refine V.getVal (pc := 8) (i := 2) hC (by decide) fl_J0_9 dJ0_indexOf_7cf53_8 ?_
    refine V.iload_n (pc := 11) 1 hC dJ0_indexOf_7cf53_11 rfl ?_
    refine V.iload_n (pc := 12) 2 hC dJ0_indexOf_7cf53_12 rfl ?_
    refine V.aload_n (pc := 13) 0 hC dJ0_indexOf_7cf53_13 rfl ?_
    refine V.callStr (pc := 14) (as := []) (i := 2) hC (c_slen_2  ) mu_J0_length_8abf5 ml_J0_505 (by decide) (by decide) rfl (Nat.le_of_ble_eq_true rfl) dJ0_indexOf_7cf53_14 ?_
    rintro _ _ rfl
    show V X ([]) [(0, .ref (g 4)), (1, .int c), (2, .int 0)] [.int 3, .int 0, .int c, .ref (g 7)] 17
    refine V.callS0 (pc := 17) (as := [.ref (g 7), .int c, .int 0, .int 3]) hC (c_l1_2 c hc) ms_J1_indexOf_4cfef ml_J0_637 (by decide) rfl (Nat.le_of_ble_eq_true rfl) dJ0_indexOf_7cf53_17 ?_
    rintro _ _ rfl
    show V X ([]) [(0, .ref (g 4)), (1, .int c), (2, .int 0)] [.int (namS 1 c)] 20
    refine V.goto (pc := 20) 36 hC dJ0_indexOf_7cf53_20 (by decide) ?_
    exact hR (namS 1 c) () _ _ dJ0_indexOf_7cf53_36 rfl rfl
set_option maxHeartbeats 4000000 in
set_option maxRecDepth 100000 in
theorem c_ix1_2 {l : Launch} {D : va_G} {k : Nat → ClassId} {g : Nat → Nat} (c : Int32) (hc : isN c 255) : Ct l D k g yJ0_indexOf_0f7a4 cJ0_indexOf_0f7a4 2 (some .int) 3 70 [.ref (g 4), .int c] (S := Unit) ([]) (fun _ => []) (fun vv _ => vv = some (.int (namS 1 c))) := by
  refine Ct.ofI RJ0 rfl (by decide +kernel) (Nat.le_of_ble_eq_true rfl) (fun X hC hR => ?_)
  show V X ([]) [(0, .ref (g 4)), (1, .int c)] [] 0
  refine V.aload_n (pc := 0) 0 hC dJ0_indexOf_0f7a4_0 rfl ?_
  refine V.iload_n (pc := 1) 1 hC dJ0_indexOf_0f7a4_1 rfl ?_
  refine V.iconst (pc := 2) 0 hC dJ0_indexOf_0f7a4_2 (by decide) ?_
  refine V.callStr (pc := 3) (as := [.int c, .int 0]) (i := 2) hC (c_ix2_2 c hc) mu_J0_indexOf_7cf53 ml_J0_633 (by decide) (by decide) rfl (Nat.le_of_ble_eq_true rfl) dJ0_indexOf_0f7a4_3 ?_
  rintro _ _ rfl
  show V X ([]) [(0, .ref (g 4)), (1, .int c)] [.int (namS 1 c)] 6
  exact hR (namS 1 c) () _ _ dJ0_indexOf_0f7a4_6 rfl rfl
theorem c_ixu {l : Launch} {D : va_G} {k : Nat → ClassId} {g : Nat → Nat} (u : Nat) (c : Int32) (hu2 : u < 2) (hc : isN c 255) : Ct l D k g yJ0_indexOf_0f7a4 cJ0_indexOf_0f7a4 2 (some .int) 3 70 [.ref (g (2 + (u + 1))), .int c] (S := Unit) ([]) (fun _ => []) (fun vv _ => vv = some (.int (namS (nI u) c))) := by
  rcases (show u = 0 ∨ u = 1 by omega) with e | e
  · subst e; exact c_ix1_1 c hc
  · subst e; exact c_ix1_2 c hc

