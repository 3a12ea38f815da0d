/-! the worlds: x (the class) and m (the reference); a, b: addresses; σ, μ: what lasts; ν: what is laid anew before it is read -/
abbrev St : Type := Nat → Nat → Int32
abbrev Rw : Type := Nat → Int32
def nmA (x : Int32) : Nat := if x = 0 then 2 else if x = 1 then 3 else 4
def wX (k : Nat → ClassId) (g a : Nat → Nat) (σ ν : St) : va_W := [(a 0, .inr (6, [.ref (a 1), .ref (a 2), .ref (a 3), .ref (a 4), .ref (a 5), .ref (a 6), .ref (a 7), .int (σ 1 0)])),
  (a 1, .inr (3, [.int (σ 10 0), .ref (a 11), .ref (a 12), .int (σ 13 0), .ref (a 14), .ref (a 15), .int (σ 16 0), .ref (a 17), .ref (a 18), .ref (a 19), .int (σ 20 0), .int (σ 21 0), .int (σ 22 0), .ref (a 23), .int (σ 24 0), .ref (a 25), .ref (a 26)])),
  (a 2, .inr (3, [.int (σ 40 0), .ref (a 41), .ref (a 42), .int (σ 43 0), .ref (a 44), .ref (a 45), .int (σ 46 0), .ref (a 47), .ref (a 48), .ref (a 49), .int (σ 50 0), .int (σ 51 0), .int (σ 52 0), .ref (a 53), .int (σ 54 0), .ref (a 55), .ref (a 56)])),
  (a 3, .inr (1, [.ref (a 1), .ref (a 70), .int (ν 71 0), .int (ν 72 0), .ref (g (nmA (ν 73 0)))])),
  (a 4, .inr (5, [.ref (a 1), .ref (a 74), .ref (a 75), .ref (a 76), .ref (a 77), .ref (a 78)])),
  (a 5, .inr (4, [.ref (a 80), .int (σ 81 0), .int (ν 82 0), .int (ν 83 0), .int (ν 84 0), .int (ν 85 0)])),
  (a 6, .inl (k 3, 4, .inr (.inr (.inr (.inr (fun i => some (a (90 + i)))))))),
  (a 7, .inl (k 0, 7, .inl (σ 0))),
  (a 11, .inl (k 0, 4, .inl (σ 11))),
  (a 12, .inl (k 0, 4, .inl (σ 12))),
  (a 14, .inl (k 0, 8, .inl (σ 14))),
  (a 15, .inl (k 0, 8, .inl (σ 15))),
  (a 17, .inl (k 0, 6, .inl (σ 17))),
  (a 18, .inl (k 0, 6, .inl (σ 18))),
  (a 19, .inl (k 0, 6, .inl (σ 19))),
  (a 23, .inl (k 1, 60, .inl (σ 23))),
  (a 25, .inl (k 0, 24, .inl (σ 25))),
  (a 26, .inl (k 2, 2, .inr (.inr (.inr (.inr (fun i => some (a (27 + i)))))))),
  (a 27, .inr (0, [.ref (a 29), .ref (a 31), .int (σ 27 0)])),
  (a 28, .inr (0, [.ref (a 30), .ref (a 32), .int (σ 28 0)])),
  (a 29, .inl (k 0, 60, .inl (σ 29))),
  (a 30, .inl (k 0, 60, .inl (σ 30))),
  (a 31, .inl (k 0, 60, .inl (ν 31))),
  (a 32, .inl (k 0, 60, .inl (ν 32))),
  (a 41, .inl (k 0, 4, .inl (σ 41))),
  (a 42, .inl (k 0, 4, .inl (σ 42))),
  (a 44, .inl (k 0, 8, .inl (σ 44))),
  (a 45, .inl (k 0, 8, .inl (σ 45))),
  (a 47, .inl (k 0, 6, .inl (σ 47))),
  (a 48, .inl (k 0, 6, .inl (σ 48))),
  (a 49, .inl (k 0, 6, .inl (σ 49))),
  (a 53, .inl (k 1, 60, .inl (σ 53))),
  (a 55, .inl (k 0, 24, .inl (σ 55))),
  (a 56, .inl (k 2, 2, .inr (.inr (.inr (.inr (fun i => some (a (57 + i)))))))),
  (a 57, .inr (0, [.ref (a 59), .ref (a 61), .int (σ 57 0)])),
  (a 58, .inr (0, [.ref (a 60), .ref (a 62), .int (σ 58 0)])),
  (a 59, .inl (k 0, 60, .inl (σ 59))),
  (a 60, .inl (k 0, 60, .inl (σ 60))),
  (a 61, .inl (k 0, 60, .inl (ν 61))),
  (a 62, .inl (k 0, 60, .inl (ν 62))),
  (a 70, .inl (k 0, 60, .inl (ν 70))),
  (a 74, .inl (k 0, 4, .inl (ν 74))),
  (a 75, .inl (k 0, 4, .inl (ν 75))),
  (a 76, .inl (k 0, 4, .inl (ν 76))),
  (a 77, .inl (k 0, 8, .inl (ν 77))),
  (a 78, .inl (k 0, 480, .inl (ν 78))),
  (a 80, .inl (k 0, 30, .inl (σ 80))),
  (a 90, .inr (2, [.int (σ 90 0), .int (σ 94 0), .ref (a 94)])),
  (a 91, .inr (2, [.int (σ 91 0), .int (σ 95 0), .ref (a 95)])),
  (a 92, .inr (2, [.int (σ 92 0), .int (σ 96 0), .ref (a 96)])),
  (a 93, .inr (2, [.int (σ 93 0), .int (σ 97 0), .ref (a 97)])),
  (a 94, .inl (k 0, 24, .inl (σ 98))),
  (a 95, .inl (k 0, 24, .inl (σ 99))),
  (a 96, .inl (k 0, 24, .inl (σ 100))),
  (a 97, .inl (k 0, 24, .inl (σ 101)))]
theorem gx_0 {k : Nat → ClassId} {g a : Nat → Nat} {σ ν : St} : (wX k g a σ ν)[0]? = some (a 0, .inr (6, [.ref (a 1), .ref (a 2), .ref (a 3), .ref (a 4), .ref (a 5), .ref (a 6), .ref (a 7), .int (σ 1 0)])) := rfl
theorem gx_1 {k : Nat → ClassId} {g a : Nat → Nat} {σ ν : St} : (wX k g a σ ν)[1]? = some (a 1, .inr (3, [.int (σ 10 0), .ref (a 11), .ref (a 12), .int (σ 13 0), .ref (a 14), .ref (a 15), .int (σ 16 0), .ref (a 17), .ref (a 18), .ref (a 19), .int (σ 20 0), .int (σ 21 0), .int (σ 22 0), .ref (a 23), .int (σ 24 0), .ref (a 25), .ref (a 26)])) := rfl
theorem gx_2 {k : Nat → ClassId} {g a : Nat → Nat} {σ ν : St} : (wX k g a σ ν)[2]? = some (a 2, .inr (3, [.int (σ 40 0), .ref (a 41), .ref (a 42), .int (σ 43 0), .ref (a 44), .ref (a 45), .int (σ 46 0), .ref (a 47), .ref (a 48), .ref (a 49), .int (σ 50 0), .int (σ 51 0), .int (σ 52 0), .ref (a 53), .int (σ 54 0), .ref (a 55), .ref (a 56)])) := rfl
theorem gx_3 {k : Nat → ClassId} {g a : Nat → Nat} {σ ν : St} : (wX k g a σ ν)[3]? = some (a 3, .inr (1, [.ref (a 1), .ref (a 70), .int (ν 71 0), .int (ν 72 0), .ref (g (nmA (ν 73 0)))])) := rfl
theorem gx_4 {k : Nat → ClassId} {g a : Nat → Nat} {σ ν : St} : (wX k g a σ ν)[4]? = some (a 4, .inr (5, [.ref (a 1), .ref (a 74), .ref (a 75), .ref (a 76), .ref (a 77), .ref (a 78)])) := rfl
theorem gx_5 {k : Nat → ClassId} {g a : Nat → Nat} {σ ν : St} : (wX k g a σ ν)[5]? = some (a 5, .inr (4, [.ref (a 80), .int (σ 81 0), .int (ν 82 0), .int (ν 83 0), .int (ν 84 0), .int (ν 85 0)])) := rfl
theorem gx_6 {k : Nat → ClassId} {g a : Nat → Nat} {σ ν : St} : (wX k g a σ ν)[6]? = some (a 6, .inl (k 3, 4, .inr (.inr (.inr (.inr (fun i => some (a (90 + i)))))))) := rfl
theorem gx_7 {k : Nat → ClassId} {g a : Nat → Nat} {σ ν : St} : (wX k g a σ ν)[7]? = some (a 7, .inl (k 0, 7, .inl (σ 0))) := rfl
theorem gx_8 {k : Nat → ClassId} {g a : Nat → Nat} {σ ν : St} : (wX k g a σ ν)[8]? = some (a 11, .inl (k 0, 4, .inl (σ 11))) := rfl
theorem gx_9 {k : Nat → ClassId} {g a : Nat → Nat} {σ ν : St} : (wX k g a σ ν)[9]? = some (a 12, .inl (k 0, 4, .inl (σ 12))) := rfl
theorem gx_10 {k : Nat → ClassId} {g a : Nat → Nat} {σ ν : St} : (wX k g a σ ν)[10]? = some (a 14, .inl (k 0, 8, .inl (σ 14))) := rfl
theorem gx_11 {k : Nat → ClassId} {g a : Nat → Nat} {σ ν : St} : (wX k g a σ ν)[11]? = some (a 15, .inl (k 0, 8, .inl (σ 15))) := rfl
theorem gx_12 {k : Nat → ClassId} {g a : Nat → Nat} {σ ν : St} : (wX k g a σ ν)[12]? = some (a 17, .inl (k 0, 6, .inl (σ 17))) := rfl
theorem gx_13 {k : Nat → ClassId} {g a : Nat → Nat} {σ ν : St} : (wX k g a σ ν)[13]? = some (a 18, .inl (k 0, 6, .inl (σ 18))) := rfl
theorem gx_14 {k : Nat → ClassId} {g a : Nat → Nat} {σ ν : St} : (wX k g a σ ν)[14]? = some (a 19, .inl (k 0, 6, .inl (σ 19))) := rfl
theorem gx_15 {k : Nat → ClassId} {g a : Nat → Nat} {σ ν : St} : (wX k g a σ ν)[15]? = some (a 23, .inl (k 1, 60, .inl (σ 23))) := rfl
theorem gx_16 {k : Nat → ClassId} {g a : Nat → Nat} {σ ν : St} : (wX k g a σ ν)[16]? = some (a 25, .inl (k 0, 24, .inl (σ 25))) := rfl
theorem gx_17 {k : Nat → ClassId} {g a : Nat → Nat} {σ ν : St} : (wX k g a σ ν)[17]? = some (a 26, .inl (k 2, 2, .inr (.inr (.inr (.inr (fun i => some (a (27 + i)))))))) := rfl
theorem gx_18 {k : Nat → ClassId} {g a : Nat → Nat} {σ ν : St} : (wX k g a σ ν)[18]? = some (a 27, .inr (0, [.ref (a 29), .ref (a 31), .int (σ 27 0)])) := rfl
theorem gx_19 {k : Nat → ClassId} {g a : Nat → Nat} {σ ν : St} : (wX k g a σ ν)[19]? = some (a 28, .inr (0, [.ref (a 30), .ref (a 32), .int (σ 28 0)])) := rfl
theorem gx_20 {k : Nat → ClassId} {g a : Nat → Nat} {σ ν : St} : (wX k g a σ ν)[20]? = some (a 29, .inl (k 0, 60, .inl (σ 29))) := rfl
theorem gx_21 {k : Nat → ClassId} {g a : Nat → Nat} {σ ν : St} : (wX k g a σ ν)[21]? = some (a 30, .inl (k 0, 60, .inl (σ 30))) := rfl
theorem gx_22 {k : Nat → ClassId} {g a : Nat → Nat} {σ ν : St} : (wX k g a σ ν)[22]? = some (a 31, .inl (k 0, 60, .inl (ν 31))) := rfl
theorem gx_23 {k : Nat → ClassId} {g a : Nat → Nat} {σ ν : St} : (wX k g a σ ν)[23]? = some (a 32, .inl (k 0, 60, .inl (ν 32))) := rfl
theorem gx_24 {k : Nat → ClassId} {g a : Nat → Nat} {σ ν : St} : (wX k g a σ ν)[24]? = some (a 41, .inl (k 0, 4, .inl (σ 41))) := rfl
theorem gx_25 {k : Nat → ClassId} {g a : Nat → Nat} {σ ν : St} : (wX k g a σ ν)[25]? = some (a 42, .inl (k 0, 4, .inl (σ 42))) := rfl
theorem gx_26 {k : Nat → ClassId} {g a : Nat → Nat} {σ ν : St} : (wX k g a σ ν)[26]? = some (a 44, .inl (k 0, 8, .inl (σ 44))) := rfl
theorem gx_27 {k : Nat → ClassId} {g a : Nat → Nat} {σ ν : St} : (wX k g a σ ν)[27]? = some (a 45, .inl (k 0, 8, .inl (σ 45))) := rfl
theorem gx_28 {k : Nat → ClassId} {g a : Nat → Nat} {σ ν : St} : (wX k g a σ ν)[28]? = some (a 47, .inl (k 0, 6, .inl (σ 47))) := rfl
theorem gx_29 {k : Nat → ClassId} {g a : Nat → Nat} {σ ν : St} : (wX k g a σ ν)[29]? = some (a 48, .inl (k 0, 6, .inl (σ 48))) := rfl
theorem gx_30 {k : Nat → ClassId} {g a : Nat → Nat} {σ ν : St} : (wX k g a σ ν)[30]? = some (a 49, .inl (k 0, 6, .inl (σ 49))) := rfl
theorem gx_31 {k : Nat → ClassId} {g a : Nat → Nat} {σ ν : St} : (wX k g a σ ν)[31]? = some (a 53, .inl (k 1, 60, .inl (σ 53))) := rfl
theorem gx_32 {k : Nat → ClassId} {g a : Nat → Nat} {σ ν : St} : (wX k g a σ ν)[32]? = some (a 55, .inl (k 0, 24, .inl (σ 55))) := rfl
theorem gx_33 {k : Nat → ClassId} {g a : Nat → Nat} {σ ν : St} : (wX k g a σ ν)[33]? = some (a 56, .inl (k 2, 2, .inr (.inr (.inr (.inr (fun i => some (a (57 + i)))))))) := rfl
theorem gx_34 {k : Nat → ClassId} {g a : Nat → Nat} {σ ν : St} : (wX k g a σ ν)[34]? = some (a 57, .inr (0, [.ref (a 59), .ref (a 61), .int (σ 57 0)])) := rfl
theorem gx_35 {k : Nat → ClassId} {g a : Nat → Nat} {σ ν : St} : (wX k g a σ ν)[35]? = some (a 58, .inr (0, [.ref (a 60), .ref (a 62), .int (σ 58 0)])) := rfl
theorem gx_36 {k : Nat → ClassId} {g a : Nat → Nat} {σ ν : St} : (wX k g a σ ν)[36]? = some (a 59, .inl (k 0, 60, .inl (σ 59))) := rfl
theorem gx_37 {k : Nat → ClassId} {g a : Nat → Nat} {σ ν : St} : (wX k g a σ ν)[37]? = some (a 60, .inl (k 0, 60, .inl (σ 60))) := rfl
theorem gx_38 {k : Nat → ClassId} {g a : Nat → Nat} {σ ν : St} : (wX k g a σ ν)[38]? = some (a 61, .inl (k 0, 60, .inl (ν 61))) := rfl
theorem gx_39 {k : Nat → ClassId} {g a : Nat → Nat} {σ ν : St} : (wX k g a σ ν)[39]? = some (a 62, .inl (k 0, 60, .inl (ν 62))) := rfl
theorem gx_40 {k : Nat → ClassId} {g a : Nat → Nat} {σ ν : St} : (wX k g a σ ν)[40]? = some (a 70, .inl (k 0, 60, .inl (ν 70))) := rfl
theorem gx_41 {k : Nat → ClassId} {g a : Nat → Nat} {σ ν : St} : (wX k g a σ ν)[41]? = some (a 74, .inl (k 0, 4, .inl (ν 74))) := rfl
theorem gx_42 {k : Nat → ClassId} {g a : Nat → Nat} {σ ν : St} : (wX k g a σ ν)[42]? = some (a 75, .inl (k 0, 4, .inl (ν 75))) := rfl
theorem gx_43 {k : Nat → ClassId} {g a : Nat → Nat} {σ ν : St} : (wX k g a σ ν)[43]? = some (a 76, .inl (k 0, 4, .inl (ν 76))) := rfl
theorem gx_44 {k : Nat → ClassId} {g a : Nat → Nat} {σ ν : St} : (wX k g a σ ν)[44]? = some (a 77, .inl (k 0, 8, .inl (ν 77))) := rfl
theorem gx_45 {k : Nat → ClassId} {g a : Nat → Nat} {σ ν : St} : (wX k g a σ ν)[45]? = some (a 78, .inl (k 0, 480, .inl (ν 78))) := rfl
theorem gx_46 {k : Nat → ClassId} {g a : Nat → Nat} {σ ν : St} : (wX k g a σ ν)[46]? = some (a 80, .inl (k 0, 30, .inl (σ 80))) := rfl
theorem gx_47 {k : Nat → ClassId} {g a : Nat → Nat} {σ ν : St} : (wX k g a σ ν)[47]? = some (a 90, .inr (2, [.int (σ 90 0), .int (σ 94 0), .ref (a 94)])) := rfl
theorem gx_48 {k : Nat → ClassId} {g a : Nat → Nat} {σ ν : St} : (wX k g a σ ν)[48]? = some (a 91, .inr (2, [.int (σ 91 0), .int (σ 95 0), .ref (a 95)])) := rfl
theorem gx_49 {k : Nat → ClassId} {g a : Nat → Nat} {σ ν : St} : (wX k g a σ ν)[49]? = some (a 92, .inr (2, [.int (σ 92 0), .int (σ 96 0), .ref (a 96)])) := rfl
theorem gx_50 {k : Nat → ClassId} {g a : Nat → Nat} {σ ν : St} : (wX k g a σ ν)[50]? = some (a 93, .inr (2, [.int (σ 93 0), .int (σ 97 0), .ref (a 97)])) := rfl
theorem gx_51 {k : Nat → ClassId} {g a : Nat → Nat} {σ ν : St} : (wX k g a σ ν)[51]? = some (a 94, .inl (k 0, 24, .inl (σ 98))) := rfl
theorem gx_52 {k : Nat → ClassId} {g a : Nat → Nat} {σ ν : St} : (wX k g a σ ν)[52]? = some (a 95, .inl (k 0, 24, .inl (σ 99))) := rfl
theorem gx_53 {k : Nat → ClassId} {g a : Nat → Nat} {σ ν : St} : (wX k g a σ ν)[53]? = some (a 96, .inl (k 0, 24, .inl (σ 100))) := rfl
theorem gx_54 {k : Nat → ClassId} {g a : Nat → Nat} {σ ν : St} : (wX k g a σ ν)[54]? = some (a 97, .inl (k 0, 24, .inl (σ 101))) := rfl
theorem gx_lawTo {k : Nat → ClassId} {g a : Nat → Nat} {σ ν : St} (i : Nat) (hi : i < 2) : (wX k g a σ ν)[18 + i]? = some (a (27 + i), .inr (0, [.ref (a (29 + i)), .ref (a (31 + i)), .int (σ (27 + i) 0)])) := by
  match i, hi with
  | 0, _ => rfl
  | 1, _ => rfl
theorem gx_lawTc {k : Nat → ClassId} {g a : Nat → Nat} {σ ν : St} (i : Nat) (hi : i < 2) : (wX k g a σ ν)[20 + i]? = some (a (29 + i), .inl (k 0, 60, .inl (σ (29 + i)))) := by
  match i, hi with
  | 0, _ => rfl
  | 1, _ => rfl
theorem gx_lawTs {k : Nat → ClassId} {g a : Nat → Nat} {σ ν : St} (i : Nat) (hi : i < 2) : (wX k g a σ ν)[22 + i]? = some (a (31 + i), .inl (k 0, 60, .inl (ν (31 + i)))) := by
  match i, hi with
  | 0, _ => rfl
  | 1, _ => rfl
theorem gx_lawKo {k : Nat → ClassId} {g a : Nat → Nat} {σ ν : St} (i : Nat) (hi : i < 2) : (wX k g a σ ν)[34 + i]? = some (a (57 + i), .inr (0, [.ref (a (59 + i)), .ref (a (61 + i)), .int (σ (57 + i) 0)])) := by
  match i, hi with
  | 0, _ => rfl
  | 1, _ => rfl
theorem gx_lawKc {k : Nat → ClassId} {g a : Nat → Nat} {σ ν : St} (i : Nat) (hi : i < 2) : (wX k g a σ ν)[36 + i]? = some (a (59 + i), .inl (k 0, 60, .inl (σ (59 + i)))) := by
  match i, hi with
  | 0, _ => rfl
  | 1, _ => rfl
theorem gx_lawKs {k : Nat → ClassId} {g a : Nat → Nat} {σ ν : St} (i : Nat) (hi : i < 2) : (wX k g a σ ν)[38 + i]? = some (a (61 + i), .inl (k 0, 60, .inl (ν (61 + i)))) := by
  match i, hi with
  | 0, _ => rfl
  | 1, _ => rfl
theorem gx_sho {k : Nat → ClassId} {g a : Nat → Nat} {σ ν : St} (i : Nat) (hi : i < 4) : (wX k g a σ ν)[47 + i]? = some (a (90 + i), .inr (2, [.int (σ (90 + i) 0), .int (σ (94 + i) 0), .ref (a (94 + i))])) := by
  match i, hi with
  | 0, _ => rfl
  | 1, _ => rfl
  | 2, _ => rfl
  | 3, _ => rfl
theorem gx_shn {k : Nat → ClassId} {g a : Nat → Nat} {σ ν : St} (i : Nat) (hi : i < 4) : (wX k g a σ ν)[51 + i]? = some (a (94 + i), .inl (k 0, 24, .inl (σ (98 + i)))) := by
  match i, hi with
  | 0, _ => rfl
  | 1, _ => rfl
  | 2, _ => rfl
  | 3, _ => rfl
theorem sx_lawTw {k : Nat → ClassId} {g a : Nat → Nat} {σ ν : St} {v : Int32} (i : Nat) (hi : i < 2) : (wX k g a σ ν).set (18 + i) (a (27 + i), .inr (0, [.ref (a (29 + i)), .ref (a (31 + i)), .int (σ (27 + i) 0)].set 2 (.int v))) = wX k g a (va_up σ (27 + i) (fun _ => v)) ν := by
  match i, hi with
  | 0, _ => rfl
  | 1, _ => rfl
theorem sx_lawTc {k : Nat → ClassId} {g a : Nat → Nat} {σ ν : St} {f : Rw} (i : Nat) (hi : i < 2) : (wX k g a σ ν).set (20 + i) (a (29 + i), .inl (k 0, 60, .inl f)) = wX k g a (va_up σ (29 + i) f) ν := by
  match i, hi with
  | 0, _ => rfl
  | 1, _ => rfl
theorem sx_lawTs {k : Nat → ClassId} {g a : Nat → Nat} {σ ν : St} {f : Rw} (i : Nat) (hi : i < 2) : (wX k g a σ ν).set (22 + i) (a (31 + i), .inl (k 0, 60, .inl f)) = wX k g a σ (va_up ν (31 + i) f) := by
  match i, hi with
  | 0, _ => rfl
  | 1, _ => rfl
theorem sx_lawKw {k : Nat → ClassId} {g a : Nat → Nat} {σ ν : St} {v : Int32} (i : Nat) (hi : i < 2) : (wX k g a σ ν).set (34 + i) (a (57 + i), .inr (0, [.ref (a (59 + i)), .ref (a (61 + i)), .int (σ (57 + i) 0)].set 2 (.int v))) = wX k g a (va_up σ (57 + i) (fun _ => v)) ν := by
  match i, hi with
  | 0, _ => rfl
  | 1, _ => rfl
theorem sx_lawKc {k : Nat → ClassId} {g a : Nat → Nat} {σ ν : St} {f : Rw} (i : Nat) (hi : i < 2) : (wX k g a σ ν).set (36 + i) (a (59 + i), .inl (k 0, 60, .inl f)) = wX k g a (va_up σ (59 + i) f) ν := by
  match i, hi with
  | 0, _ => rfl
  | 1, _ => rfl
theorem sx_lawKs {k : Nat → ClassId} {g a : Nat → Nat} {σ ν : St} {f : Rw} (i : Nat) (hi : i < 2) : (wX k g a σ ν).set (38 + i) (a (61 + i), .inl (k 0, 60, .inl f)) = wX k g a σ (va_up ν (61 + i) f) := by
  match i, hi with
  | 0, _ => rfl
  | 1, _ => rfl
theorem sx_sho0 {k : Nat → ClassId} {g a : Nat → Nat} {σ ν : St} {v : Int32} (i : Nat) (hi : i < 4) : (wX k g a σ ν).set (47 + i) (a (90 + i), .inr (2, [.int (σ (90 + i) 0), .int (σ (94 + i) 0), .ref (a (94 + i))].set 0 (.int v))) = wX k g a (va_up σ (90 + i) (fun _ => v)) ν := by
  match i, hi with
  | 0, _ => rfl
  | 1, _ => rfl
  | 2, _ => rfl
  | 3, _ => rfl
theorem sx_sho1 {k : Nat → ClassId} {g a : Nat → Nat} {σ ν : St} {v : Int32} (i : Nat) (hi : i < 4) : (wX k g a σ ν).set (47 + i) (a (90 + i), .inr (2, [.int (σ (90 + i) 0), .int (σ (94 + i) 0), .ref (a (94 + i))].set 1 (.int v))) = wX k g a (va_up σ (94 + i) (fun _ => v)) ν := by
  match i, hi with
  | 0, _ => rfl
  | 1, _ => rfl
  | 2, _ => rfl
  | 3, _ => rfl
theorem sx_shn {k : Nat → ClassId} {g a : Nat → Nat} {σ ν : St} {f : Rw} (i : Nat) (hi : i < 4) : (wX k g a σ ν).set (51 + i) (a (94 + i), .inl (k 0, 24, .inl f)) = wX k g a (va_up σ (98 + i) f) ν := by
  match i, hi with
  | 0, _ => rfl
  | 1, _ => rfl
  | 2, _ => rfl
  | 3, _ => rfl
def wM (k : Nat → ClassId) (b : Nat → Nat) (μ ν : St) : va_W := [(b 20, .inr (7, [.ref (b 0), .ref (b 1), .int (μ 2 0), .ref (b 3), .ref (b 4), .ref (b 5), .ref (b 6), .ref (b 7), .ref (b 8), .ref (b 9), .ref (b 10), .ref (b 11), .int (ν 12 0), .int (ν 13 0), .int (ν 14 0), .int (ν 15 0), .int (ν 16 0), .ref (b 17), .int (μ 18 0), .int (ν 19 0)])),
  (b 0, .inl (k 0, 375, .inl (μ 0))),
  (b 1, .inl (k 0, 375, .inl (μ 1))),
  (b 3, .inl (k 0, 7, .inl (μ 3))),
  (b 4, .inl (k 0, 4, .inl (μ 4))),
  (b 5, .inl (k 0, 4, .inl (μ 5))),
  (b 6, .inl (k 0, 96, .inl (μ 6))),
  (b 7, .inl (k 0, 480, .inl (ν 7))),
  (b 8, .inl (k 0, 60, .inl (ν 8))),
  (b 9, .inl (k 0, 60, .inl (ν 9))),
  (b 10, .inl (k 0, 3, .inl (ν 10))),
  (b 11, .inl (k 0, 60, .inl (ν 11))),
  (b 17, .inl (k 0, 30, .inl (μ 17)))]
theorem gm_0 {k : Nat → ClassId} {b : Nat → Nat} {μ ν : St} : (wM k b μ ν)[0]? = some (b 20, .inr (7, [.ref (b 0), .ref (b 1), .int (μ 2 0), .ref (b 3), .ref (b 4), .ref (b 5), .ref (b 6), .ref (b 7), .ref (b 8), .ref (b 9), .ref (b 10), .ref (b 11), .int (ν 12 0), .int (ν 13 0), .int (ν 14 0), .int (ν 15 0), .int (ν 16 0), .ref (b 17), .int (μ 18 0), .int (ν 19 0)])) := rfl
theorem gm_1 {k : Nat → ClassId} {b : Nat → Nat} {μ ν : St} : (wM k b μ ν)[1]? = some (b 0, .inl (k 0, 375, .inl (μ 0))) := rfl
theorem gm_2 {k : Nat → ClassId} {b : Nat → Nat} {μ ν : St} : (wM k b μ ν)[2]? = some (b 1, .inl (k 0, 375, .inl (μ 1))) := rfl
theorem gm_3 {k : Nat → ClassId} {b : Nat → Nat} {μ ν : St} : (wM k b μ ν)[3]? = some (b 3, .inl (k 0, 7, .inl (μ 3))) := rfl
theorem gm_4 {k : Nat → ClassId} {b : Nat → Nat} {μ ν : St} : (wM k b μ ν)[4]? = some (b 4, .inl (k 0, 4, .inl (μ 4))) := rfl
theorem gm_5 {k : Nat → ClassId} {b : Nat → Nat} {μ ν : St} : (wM k b μ ν)[5]? = some (b 5, .inl (k 0, 4, .inl (μ 5))) := rfl
theorem gm_6 {k : Nat → ClassId} {b : Nat → Nat} {μ ν : St} : (wM k b μ ν)[6]? = some (b 6, .inl (k 0, 96, .inl (μ 6))) := rfl
theorem gm_7 {k : Nat → ClassId} {b : Nat → Nat} {μ ν : St} : (wM k b μ ν)[7]? = some (b 7, .inl (k 0, 480, .inl (ν 7))) := rfl
theorem gm_8 {k : Nat → ClassId} {b : Nat → Nat} {μ ν : St} : (wM k b μ ν)[8]? = some (b 8, .inl (k 0, 60, .inl (ν 8))) := rfl
theorem gm_9 {k : Nat → ClassId} {b : Nat → Nat} {μ ν : St} : (wM k b μ ν)[9]? = some (b 9, .inl (k 0, 60, .inl (ν 9))) := rfl
theorem gm_10 {k : Nat → ClassId} {b : Nat → Nat} {μ ν : St} : (wM k b μ ν)[10]? = some (b 10, .inl (k 0, 3, .inl (ν 10))) := rfl
theorem gm_11 {k : Nat → ClassId} {b : Nat → Nat} {μ ν : St} : (wM k b μ ν)[11]? = some (b 11, .inl (k 0, 60, .inl (ν 11))) := rfl
theorem gm_12 {k : Nat → ClassId} {b : Nat → Nat} {μ ν : St} : (wM k b μ ν)[12]? = some (b 17, .inl (k 0, 30, .inl (μ 17))) := rfl
