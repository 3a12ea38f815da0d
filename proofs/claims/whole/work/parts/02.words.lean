/-! the words of the tables that the walks need, as members of lwG (by program) -/
def lwG : List Cond := lw_tbl.filter goodWord
theorem lwG_in {w : Cond} (h : w ∈ lw_tbl) (g : goodWord w = true) : w ∈ lwG := List.mem_filter.mpr ⟨h, g⟩
theorem lwG_at (i : Nat) {w : Cond} (h : tables_1[i]? = some w) (g : goodWord w = true) : w ∈ lwG := lwG_in (List.mem_append_right _ (List.mem_of_getElem? h)) g
theorem lwG_sel (i : Nat) {w : Cond} (h : (k2_sels lw_privs)[i]? = some w) (g : goodWord w = true) : w ∈ lwG := lwG_in (List.mem_append_left _ (List.mem_of_getElem? h)) g
def MU (C : String) (y : MethodName) (b : ByteArray) (n : Nat) (r : Option FieldType) (np : Nat) : Prop :=
  Cond.code y b n r ∈ lwG ∧ Cond.instanceMethod y ∈ lwG ∧ Cond.selects C y y ∈ lwG ∧ Cond.initialized C ∈ lwG ∧ y.cls = C ∧ y.cls ≠ "java/lang/invoke/MethodHandle" ∧ y.cls ≠ "java/lang/invoke/VarHandle" ∧ (parseMethodDescriptor y.desc).map (fun d => d.parameters.length) = some np
def MS (y : MethodName) (b : ByteArray) (n : Nat) (r : Option FieldType) (np : Nat) : Prop :=
  Cond.code y b n r ∈ lwG ∧ Cond.static y ∈ lwG ∧ Cond.initialized y.cls ∈ lwG ∧ y.cls ≠ "java/lang/invoke/MethodHandle" ∧ y.cls ≠ "java/lang/invoke/VarHandle" ∧ (parseMethodDescriptor y.desc).map (fun d => d.parameters.length) = some np
def MI (y : MethodName) (b : ByteArray) (n : Nat) (np : Nat) : Prop :=
  Cond.code y b n none ∈ lwG ∧ Cond.instanceMethod y ∈ lwG ∧ Cond.initialized y.cls ∈ lwG ∧ y.cls ≠ "java/lang/invoke/MethodHandle" ∧ y.cls ≠ "java/lang/invoke/VarHandle" ∧ (parseMethodDescriptor y.desc).map (fun d => d.parameters.length) = some np
def CF (ci : Nat) (C : String) (T : u_T) (N : Nat) (ty : Nat → FieldType) : Prop := vwCl[ci]? = some (C, T, N) ∧ (∀ w ∈ u_ws C T N, w ∈ lwG) ∧ (∀ k, k < N → parseFieldDescriptor (T k).2.2.1 = some (ty k)) ∧ (∀ a, a < N → ∀ b, b < N → a ≠ b → (T a).2.1 ≠ (T b).2.1)
theorem kl_L_7 : Cond.classLink RL 7 "HandTown" ∈ lwG := lwG_at 17 (by decide +kernel) (by decide +kernel)
theorem ib_X6 : Cond.instantiable RX6 8 ∈ lwG := lwG_at 18 (by decide +kernel) (by decide +kernel)
theorem ml_L_9 : Cond.methodLink RL 9 yX6_init ∈ lwG := lwG_at 19 (by decide +kernel) (by decide +kernel)
theorem ml_X6_1 : Cond.methodLink RX6 1 objectInit ∈ lwG := lwG_at 22 (by decide +kernel) (by decide +kernel)
theorem kl_X6_7 : Cond.classLink RX6 7 "HandTown$Town" ∈ lwG := lwG_at 25 (by decide +kernel) (by decide +kernel)
theorem ib_X3 : Cond.instantiable RX3 17 ∈ lwG := lwG_at 26 (by decide +kernel) (by decide +kernel)
theorem ml_X3_3 : Cond.methodLink RX3 3 objectInit ∈ lwG := lwG_at 30 (by decide +kernel) (by decide +kernel)
theorem kl_X3_44 : Cond.classLink RX3 44 "HandTown$Law" ∈ lwG := lwG_at 31 (by decide +kernel) (by decide +kernel)
theorem ib_X0 : Cond.instantiable RX0 3 ∈ lwG := lwG_at 33 (by decide +kernel) (by decide +kernel)
theorem ml_X0_3 : Cond.methodLink RX0 3 objectInit ∈ lwG := lwG_at 37 (by decide +kernel) (by decide +kernel)
theorem fl_X0_9 : Cond.fieldLink RX0 9 "HandTown$Law" "code" "[I" ∈ lwG := lwG_at 38 (by decide +kernel) (by decide +kernel)
theorem fl_X3_75 : Cond.fieldLink RX3 75 "HandTown$Law" "code" "[I" ∈ lwG := lwG_at 39 (by decide +kernel) (by decide +kernel)
theorem fl_X0_15 : Cond.fieldLink RX0 15 "HandTown$Law" "stack" "[I" ∈ lwG := lwG_at 40 (by decide +kernel) (by decide +kernel)
theorem fl_X0_24 : Cond.fieldLink RX0 24 "HandTown$Law" "words" "I" ∈ lwG := lwG_at 41 (by decide +kernel) (by decide +kernel)
theorem fl_X3_78 : Cond.fieldLink RX3 78 "HandTown$Law" "words" "I" ∈ lwG := lwG_at 42 (by decide +kernel) (by decide +kernel)
theorem fl_X6_182 : Cond.fieldLink RX6 182 "HandTown$Law" "words" "I" ∈ lwG := lwG_at 43 (by decide +kernel) (by decide +kernel)
theorem fl_X3_51 : Cond.fieldLink RX3 51 "HandTown$Town" "hands" "I" ∈ lwG := lwG_at 53 (by decide +kernel) (by decide +kernel)
theorem fl_X6_61 : Cond.fieldLink RX6 61 "HandTown$Town" "hands" "I" ∈ lwG := lwG_at 54 (by decide +kernel) (by decide +kernel)
theorem fl_X5_77 : Cond.fieldLink RX5 77 "HandTown$Town" "hands" "I" ∈ lwG := lwG_at 55 (by decide +kernel) (by decide +kernel)
theorem fl_X3_9 : Cond.fieldLink RX3 9 "HandTown$Town" "turns" "[I" ∈ lwG := lwG_at 56 (by decide +kernel) (by decide +kernel)
theorem fl_X6_73 : Cond.fieldLink RX6 73 "HandTown$Town" "turns" "[I" ∈ lwG := lwG_at 57 (by decide +kernel) (by decide +kernel)
theorem fl_X3_15 : Cond.fieldLink RX3 15 "HandTown$Town" "offset" "[I" ∈ lwG := lwG_at 58 (by decide +kernel) (by decide +kernel)
theorem fl_X6_76 : Cond.fieldLink RX6 76 "HandTown$Town" "offset" "[I" ∈ lwG := lwG_at 59 (by decide +kernel) (by decide +kernel)
theorem fl_X3_60 : Cond.fieldLink RX3 60 "HandTown$Town" "homes" "I" ∈ lwG := lwG_at 60 (by decide +kernel) (by decide +kernel)
theorem fl_X5_59 : Cond.fieldLink RX5 59 "HandTown$Town" "homes" "I" ∈ lwG := lwG_at 61 (by decide +kernel) (by decide +kernel)
theorem fl_X6_91 : Cond.fieldLink RX6 91 "HandTown$Town" "homes" "I" ∈ lwG := lwG_at 62 (by decide +kernel) (by decide +kernel)
theorem fl_X3_18 : Cond.fieldLink RX3 18 "HandTown$Town" "handOf" "[I" ∈ lwG := lwG_at 63 (by decide +kernel) (by decide +kernel)
theorem fl_X6_100 : Cond.fieldLink RX6 100 "HandTown$Town" "handOf" "[I" ∈ lwG := lwG_at 64 (by decide +kernel) (by decide +kernel)
theorem fl_X5_101 : Cond.fieldLink RX5 101 "HandTown$Town" "handOf" "[I" ∈ lwG := lwG_at 65 (by decide +kernel) (by decide +kernel)
theorem fl_X3_21 : Cond.fieldLink RX3 21 "HandTown$Town" "far" "[I" ∈ lwG := lwG_at 66 (by decide +kernel) (by decide +kernel)
theorem fl_X6_103 : Cond.fieldLink RX6 103 "HandTown$Town" "far" "[I" ∈ lwG := lwG_at 67 (by decide +kernel) (by decide +kernel)
theorem fl_X5_83 : Cond.fieldLink RX5 83 "HandTown$Town" "far" "[I" ∈ lwG := lwG_at 68 (by decide +kernel) (by decide +kernel)
theorem fl_X3_63 : Cond.fieldLink RX3 63 "HandTown$Town" "people" "I" ∈ lwG := lwG_at 69 (by decide +kernel) (by decide +kernel)
theorem fl_X6_115 : Cond.fieldLink RX6 115 "HandTown$Town" "people" "I" ∈ lwG := lwG_at 70 (by decide +kernel) (by decide +kernel)
theorem fl_X3_24 : Cond.fieldLink RX3 24 "HandTown$Town" "kind" "[I" ∈ lwG := lwG_at 71 (by decide +kernel) (by decide +kernel)
theorem fl_X4_23 : Cond.fieldLink RX4 23 "HandTown$Town" "kind" "[I" ∈ lwG := lwG_at 72 (by decide +kernel) (by decide +kernel)
theorem fl_X6_124 : Cond.fieldLink RX6 124 "HandTown$Town" "kind" "[I" ∈ lwG := lwG_at 73 (by decide +kernel) (by decide +kernel)
theorem fl_X3_27 : Cond.fieldLink RX3 27 "HandTown$Town" "number" "[I" ∈ lwG := lwG_at 74 (by decide +kernel) (by decide +kernel)
theorem fl_X4_30 : Cond.fieldLink RX4 30 "HandTown$Town" "number" "[I" ∈ lwG := lwG_at 75 (by decide +kernel) (by decide +kernel)
theorem fl_X6_127 : Cond.fieldLink RX6 127 "HandTown$Town" "number" "[I" ∈ lwG := lwG_at 76 (by decide +kernel) (by decide +kernel)
theorem fl_X3_30 : Cond.fieldLink RX3 30 "HandTown$Town" "room" "[I" ∈ lwG := lwG_at 77 (by decide +kernel) (by decide +kernel)
theorem fl_X5_35 : Cond.fieldLink RX5 35 "HandTown$Town" "room" "[I" ∈ lwG := lwG_at 78 (by decide +kernel) (by decide +kernel)
theorem fl_X6_130 : Cond.fieldLink RX6 130 "HandTown$Town" "room" "[I" ∈ lwG := lwG_at 79 (by decide +kernel) (by decide +kernel)
theorem fl_X5_44 : Cond.fieldLink RX5 44 "HandTown$Town" "minute" "I" ∈ lwG := lwG_at 80 (by decide +kernel) (by decide +kernel)
theorem fl_X3_66 : Cond.fieldLink RX3 66 "HandTown$Town" "minute" "I" ∈ lwG := lwG_at 81 (by decide +kernel) (by decide +kernel)
theorem fl_X6_79 : Cond.fieldLink RX6 79 "HandTown$Town" "minute" "I" ∈ lwG := lwG_at 82 (by decide +kernel) (by decide +kernel)
theorem fl_X3_33 : Cond.fieldLink RX3 33 "HandTown$Town" "z" "I" ∈ lwG := lwG_at 83 (by decide +kernel) (by decide +kernel)
theorem fl_X6_194 : Cond.fieldLink RX6 194 "HandTown$Town" "z" "I" ∈ lwG := lwG_at 84 (by decide +kernel) (by decide +kernel)
theorem fl_X1_40 : Cond.fieldLink RX1 40 "HandTown$Town" "bytes" "I" ∈ lwG := lwG_at 85 (by decide +kernel) (by decide +kernel)
theorem fl_X3_69 : Cond.fieldLink RX3 69 "HandTown$Town" "bytes" "I" ∈ lwG := lwG_at 86 (by decide +kernel) (by decide +kernel)
theorem fl_X6_153 : Cond.fieldLink RX6 153 "HandTown$Town" "bytes" "I" ∈ lwG := lwG_at 87 (by decide +kernel) (by decide +kernel)
theorem fl_X3_37 : Cond.fieldLink RX3 37 "HandTown$Town" "tape" "[B" ∈ lwG := lwG_at 88 (by decide +kernel) (by decide +kernel)
theorem fl_X1_45 : Cond.fieldLink RX1 45 "HandTown$Town" "tape" "[B" ∈ lwG := lwG_at 89 (by decide +kernel) (by decide +kernel)
theorem fl_X3_72 : Cond.fieldLink RX3 72 "HandTown$Town" "waiting" "I" ∈ lwG := lwG_at 90 (by decide +kernel) (by decide +kernel)
theorem fl_X6_280 : Cond.fieldLink RX6 280 "HandTown$Town" "waiting" "I" ∈ lwG := lwG_at 91 (by decide +kernel) (by decide +kernel)
theorem fl_X3_41 : Cond.fieldLink RX3 41 "HandTown$Town" "waits" "[I" ∈ lwG := lwG_at 92 (by decide +kernel) (by decide +kernel)
theorem fl_X6_283 : Cond.fieldLink RX6 283 "HandTown$Town" "waits" "[I" ∈ lwG := lwG_at 93 (by decide +kernel) (by decide +kernel)
theorem fl_X3_47 : Cond.fieldLink RX3 47 "HandTown$Town" "laws" "[LHandTown$Law;" ∈ lwG := lwG_at 94 (by decide +kernel) (by decide +kernel)
theorem fl_X6_166 : Cond.fieldLink RX6 166 "HandTown$Town" "laws" "[LHandTown$Law;" ∈ lwG := lwG_at 95 (by decide +kernel) (by decide +kernel)
theorem kl_X6_19 : Cond.classLink RX6 19 "HandTown$Reader" ∈ lwG := lwG_at 131 (by decide +kernel) (by decide +kernel)
theorem ib_X1 : Cond.instantiable RX1 5 ∈ lwG := lwG_at 132 (by decide +kernel) (by decide +kernel)
theorem ml_X6_21 : Cond.methodLink RX6 21 yX1_init ∈ lwG := lwG_at 133 (by decide +kernel) (by decide +kernel)
theorem ml_X1_3 : Cond.methodLink RX1 3 objectInit ∈ lwG := lwG_at 136 (by decide +kernel) (by decide +kernel)
theorem fl_X1_21 : Cond.fieldLink RX1 21 "HandTown$Reader" "town" "LHandTown$Town;" ∈ lwG := lwG_at 138 (by decide +kernel) (by decide +kernel)
theorem fl_X1_9 : Cond.fieldLink RX1 9 "HandTown$Reader" "code" "[I" ∈ lwG := lwG_at 139 (by decide +kernel) (by decide +kernel)
theorem fl_X6_170 : Cond.fieldLink RX6 170 "HandTown$Reader" "code" "[I" ∈ lwG := lwG_at 140 (by decide +kernel) (by decide +kernel)
theorem fl_X1_25 : Cond.fieldLink RX1 25 "HandTown$Reader" "words" "I" ∈ lwG := lwG_at 141 (by decide +kernel) (by decide +kernel)
theorem fl_X6_173 : Cond.fieldLink RX6 173 "HandTown$Reader" "words" "I" ∈ lwG := lwG_at 142 (by decide +kernel) (by decide +kernel)
theorem fl_X1_29 : Cond.fieldLink RX1 29 "HandTown$Reader" "place" "I" ∈ lwG := lwG_at 143 (by decide +kernel) (by decide +kernel)
theorem fl_X1_17 : Cond.fieldLink RX1 17 "HandTown$Reader" "names" "Ljava/lang/String;" ∈ lwG := lwG_at 144 (by decide +kernel) (by decide +kernel)
theorem kl_X6_28 : Cond.classLink RX6 28 "HandTown$Walk" ∈ lwG := lwG_at 156 (by decide +kernel) (by decide +kernel)
theorem ib_X5 : Cond.instantiable RX5 6 ∈ lwG := lwG_at 157 (by decide +kernel) (by decide +kernel)
theorem ml_X6_30 : Cond.methodLink RX6 30 yX5_init ∈ lwG := lwG_at 158 (by decide +kernel) (by decide +kernel)
theorem ml_X5_3 : Cond.methodLink RX5 3 objectInit ∈ lwG := lwG_at 161 (by decide +kernel) (by decide +kernel)
theorem fl_X5_27 : Cond.fieldLink RX5 27 "HandTown$Walk" "town" "LHandTown$Town;" ∈ lwG := lwG_at 162 (by decide +kernel) (by decide +kernel)
theorem fl_X5_9 : Cond.fieldLink RX5 9 "HandTown$Walk" "marks" "[I" ∈ lwG := lwG_at 163 (by decide +kernel) (by decide +kernel)
theorem fl_X5_15 : Cond.fieldLink RX5 15 "HandTown$Walk" "riding" "[I" ∈ lwG := lwG_at 164 (by decide +kernel) (by decide +kernel)
theorem fl_X5_18 : Cond.fieldLink RX5 18 "HandTown$Walk" "near" "[I" ∈ lwG := lwG_at 165 (by decide +kernel) (by decide +kernel)
theorem fl_X5_21 : Cond.fieldLink RX5 21 "HandTown$Walk" "alike" "[I" ∈ lwG := lwG_at 166 (by decide +kernel) (by decide +kernel)
theorem fl_X5_24 : Cond.fieldLink RX5 24 "HandTown$Walk" "ways" "[I" ∈ lwG := lwG_at 167 (by decide +kernel) (by decide +kernel)
theorem kl_X6_35 : Cond.classLink RX6 35 "HandTown$Voices" ∈ lwG := lwG_at 181 (by decide +kernel) (by decide +kernel)
theorem ib_X4 : Cond.instantiable RX4 6 ∈ lwG := lwG_at 182 (by decide +kernel) (by decide +kernel)
theorem ml_X4_3 : Cond.methodLink RX4 3 objectInit ∈ lwG := lwG_at 186 (by decide +kernel) (by decide +kernel)
theorem fl_X4_9 : Cond.fieldLink RX4 9 "HandTown$Voices" "trace" "[I" ∈ lwG := lwG_at 187 (by decide +kernel) (by decide +kernel)
theorem fl_X6_238 : Cond.fieldLink RX6 238 "HandTown$Voices" "trace" "[I" ∈ lwG := lwG_at 188 (by decide +kernel) (by decide +kernel)
theorem fl_X4_15 : Cond.fieldLink RX4 15 "HandTown$Voices" "bodies" "I" ∈ lwG := lwG_at 189 (by decide +kernel) (by decide +kernel)
theorem fl_X6_235 : Cond.fieldLink RX6 235 "HandTown$Voices" "bodies" "I" ∈ lwG := lwG_at 190 (by decide +kernel) (by decide +kernel)
theorem fl_X4_19 : Cond.fieldLink RX4 19 "HandTown$Voices" "parted" "Z" ∈ lwG := lwG_at 191 (by decide +kernel) (by decide +kernel)
theorem fl_X6_231 : Cond.fieldLink RX6 231 "HandTown$Voices" "parted" "Z" ∈ lwG := lwG_at 192 (by decide +kernel) (by decide +kernel)
theorem fl_X4_28 : Cond.fieldLink RX4 28 "HandTown$Voices" "kind" "I" ∈ lwG := lwG_at 193 (by decide +kernel) (by decide +kernel)
theorem fl_X4_33 : Cond.fieldLink RX4 33 "HandTown$Voices" "m" "I" ∈ lwG := lwG_at 194 (by decide +kernel) (by decide +kernel)
theorem fl_X4_36 : Cond.fieldLink RX4 36 "HandTown$Voices" "k" "I" ∈ lwG := lwG_at 195 (by decide +kernel) (by decide +kernel)
theorem kl_X6_42 : Cond.classLink RX6 42 "HandTown$Sheet" ∈ lwG := lwG_at 209 (by decide +kernel) (by decide +kernel)
theorem ib_X2 : Cond.instantiable RX2 3 ∈ lwG := lwG_at 211 (by decide +kernel) (by decide +kernel)
theorem ml_X2_3 : Cond.methodLink RX2 3 objectInit ∈ lwG := lwG_at 215 (by decide +kernel) (by decide +kernel)
theorem fl_X2_15 : Cond.fieldLink RX2 15 "HandTown$Sheet" "bits" "I" ∈ lwG := lwG_at 216 (by decide +kernel) (by decide +kernel)
theorem fl_X6_256 : Cond.fieldLink RX6 256 "HandTown$Sheet" "bits" "I" ∈ lwG := lwG_at 217 (by decide +kernel) (by decide +kernel)
theorem fl_X2_19 : Cond.fieldLink RX2 19 "HandTown$Sheet" "length" "I" ∈ lwG := lwG_at 218 (by decide +kernel) (by decide +kernel)
theorem fl_X3_149 : Cond.fieldLink RX3 149 "HandTown$Sheet" "length" "I" ∈ lwG := lwG_at 219 (by decide +kernel) (by decide +kernel)
theorem fl_X2_9 : Cond.fieldLink RX2 9 "HandTown$Sheet" "numbers" "[I" ∈ lwG := lwG_at 220 (by decide +kernel) (by decide +kernel)
theorem fl_X3_154 : Cond.fieldLink RX3 154 "HandTown$Sheet" "numbers" "[I" ∈ lwG := lwG_at 221 (by decide +kernel) (by decide +kernel)
theorem fl_X6_259 : Cond.fieldLink RX6 259 "HandTown$Sheet" "numbers" "[I" ∈ lwG := lwG_at 222 (by decide +kernel) (by decide +kernel)
theorem fl_X6_10 : Cond.fieldLink RX6 10 "HandTown" "town" "LHandTown$Town;" ∈ lwG := lwG_at 230 (by decide +kernel) (by decide +kernel)
theorem fl_X6_16 : Cond.fieldLink RX6 16 "HandTown" "kept" "LHandTown$Town;" ∈ lwG := lwG_at 231 (by decide +kernel) (by decide +kernel)
theorem fl_X6_24 : Cond.fieldLink RX6 24 "HandTown" "reader" "LHandTown$Reader;" ∈ lwG := lwG_at 232 (by decide +kernel) (by decide +kernel)
theorem fl_X6_31 : Cond.fieldLink RX6 31 "HandTown" "walk" "LHandTown$Walk;" ∈ lwG := lwG_at 233 (by decide +kernel) (by decide +kernel)
theorem fl_X6_38 : Cond.fieldLink RX6 38 "HandTown" "voices" "LHandTown$Voices;" ∈ lwG := lwG_at 234 (by decide +kernel) (by decide +kernel)
theorem fl_X6_45 : Cond.fieldLink RX6 45 "HandTown" "sheets" "[LHandTown$Sheet;" ∈ lwG := lwG_at 235 (by decide +kernel) (by decide +kernel)
theorem fl_X6_49 : Cond.fieldLink RX6 49 "HandTown" "errors" "[I" ∈ lwG := lwG_at 236 (by decide +kernel) (by decide +kernel)
theorem fl_X6_277 : Cond.fieldLink RX6 277 "HandTown" "images" "I" ∈ lwG := lwG_at 237 (by decide +kernel) (by decide +kernel)
theorem ml_L_13 : Cond.methodLink RL 13 yX6_hand ∈ lwG := lwG_at 255 (by decide +kernel) (by decide +kernel)
theorem ml_X6_53 : Cond.methodLink RX6 53 yX6_within ∈ lwG := lwG_at 259 (by decide +kernel) (by decide +kernel)
theorem ml_X6_57 : Cond.methodLink RX6 57 yX6_error ∈ lwG := lwG_at 262 (by decide +kernel) (by decide +kernel)
theorem cn_X6_290 : Cond.constant RX6 290 (-1000000000) ∈ lwG := lwG_at 266 (by decide +kernel) (by decide +kernel)
theorem ml_X6_65 : Cond.methodLink RX6 65 yX3_addHand ∈ lwG := lwG_at 267 (by decide +kernel) (by decide +kernel)
theorem ml_L_18 : Cond.methodLink RL 18 yX6_handIs ∈ lwG := lwG_at 271 (by decide +kernel) (by decide +kernel)
theorem ml_X6_69 : Cond.methodLink RX6 69 yX3_hasHand ∈ lwG := lwG_at 275 (by decide +kernel) (by decide +kernel)
theorem ml_X6_82 : Cond.methodLink RX6 82 yX3_markOf ∈ lwG := lwG_at 280 (by decide +kernel) (by decide +kernel)
theorem ml_X6_294 : Cond.methodLink RX6 294 yJ9_floorMod_7cf53 ∈ lwG := lwG_at 287 (by decide +kernel) (by decide +kernel)
theorem ml_X6_85 : Cond.methodLink RX6 85 yX3_homesOn ∈ lwG := lwG_at 290 (by decide +kernel) (by decide +kernel)
theorem ml_L_22 : Cond.methodLink RL 22 yX6_frost ∈ lwG := lwG_at 294 (by decide +kernel) (by decide +kernel)
theorem ml_X6_88 : Cond.methodLink RX6 88 yX6_rest ∈ lwG := lwG_at 298 (by decide +kernel) (by decide +kernel)
theorem ml_L_26 : Cond.methodLink RL 26 yX6_home ∈ lwG := lwG_at 299 (by decide +kernel) (by decide +kernel)
theorem ml_X6_94 : Cond.methodLink RX6 94 yX3_addHome ∈ lwG := lwG_at 303 (by decide +kernel) (by decide +kernel)
theorem ml_L_30 : Cond.methodLink RL 30 yX6_homeIs ∈ lwG := lwG_at 307 (by decide +kernel) (by decide +kernel)
theorem ml_X6_97 : Cond.methodLink RX6 97 yX3_hasHome ∈ lwG := lwG_at 311 (by decide +kernel) (by decide +kernel)
theorem ml_X6_106 : Cond.methodLink RX6 106 yX3_worth ∈ lwG := lwG_at 315 (by decide +kernel) (by decide +kernel)
theorem ml_X3_97 : Cond.methodLink RX3 97 yX3_markOf ∈ lwG := lwG_at 319 (by decide +kernel) (by decide +kernel)
theorem ml_X3_116 : Cond.methodLink RX3 116 yX3_worthLaw ∈ lwG := lwG_at 320 (by decide +kernel) (by decide +kernel)
theorem ml_X3_109 : Cond.methodLink RX3 109 yX0_gives ∈ lwG := lwG_at 324 (by decide +kernel) (by decide +kernel)
theorem ml_X0_28 : Cond.methodLink RX0 28 yX0_join ∈ lwG := lwG_at 328 (by decide +kernel) (by decide +kernel)
theorem ml_X6_299 : Cond.methodLink RX6 299 yJ9_min_7cf53 ∈ lwG := lwG_at 334 (by decide +kernel) (by decide +kernel)
theorem ml_X6_302 : Cond.methodLink RX6 302 yJ9_max_7cf53 ∈ lwG := lwG_at 337 (by decide +kernel) (by decide +kernel)
theorem ml_X6_109 : Cond.methodLink RX6 109 yX3_peopleIn ∈ lwG := lwG_at 340 (by decide +kernel) (by decide +kernel)
theorem ml_L_34 : Cond.methodLink RL 34 yX6_person ∈ lwG := lwG_at 344 (by decide +kernel) (by decide +kernel)
theorem ml_X6_112 : Cond.methodLink RX6 112 yX6_isKindWithNumber ∈ lwG := lwG_at 348 (by decide +kernel) (by decide +kernel)
theorem ml_X6_118 : Cond.methodLink RX6 118 yX3_addPerson ∈ lwG := lwG_at 351 (by decide +kernel) (by decide +kernel)
theorem ml_X3_89 : Cond.methodLink RX3 89 yX3_setKind ∈ lwG := lwG_at 355 (by decide +kernel) (by decide +kernel)
theorem ml_L_38 : Cond.methodLink RL 38 yX6_personIs ∈ lwG := lwG_at 359 (by decide +kernel) (by decide +kernel)
theorem ml_X6_121 : Cond.methodLink RX6 121 yX3_hasPerson ∈ lwG := lwG_at 363 (by decide +kernel) (by decide +kernel)
theorem ml_X6_133 : Cond.methodLink RX6 133 yX3_leaps ∈ lwG := lwG_at 367 (by decide +kernel) (by decide +kernel)
theorem ml_X3_119 : Cond.methodLink RX3 119 yX3_leapLaw ∈ lwG := lwG_at 371 (by decide +kernel) (by decide +kernel)
theorem ml_X6_136 : Cond.methodLink RX6 136 yX3_spans ∈ lwG := lwG_at 375 (by decide +kernel) (by decide +kernel)
theorem ml_X6_139 : Cond.methodLink RX6 139 yX5_roomsBehind ∈ lwG := lwG_at 379 (by decide +kernel) (by decide +kernel)
theorem ml_X5_31 : Cond.methodLink RX5 31 yX5_begin ∈ lwG := lwG_at 383 (by decide +kernel) (by decide +kernel)
theorem ml_X5_74 : Cond.methodLink RX5 74 yX3_spans ∈ lwG := lwG_at 387 (by decide +kernel) (by decide +kernel)
theorem ml_X5_80 : Cond.methodLink RX5 80 yX3_homesOn ∈ lwG := lwG_at 388 (by decide +kernel) (by decide +kernel)
theorem ml_X5_86 : Cond.methodLink RX5 86 yJ9_abs_0f7a4 ∈ lwG := lwG_at 389 (by decide +kernel) (by decide +kernel)
theorem ml_X5_40 : Cond.methodLink RX5 40 yX5_spread ∈ lwG := lwG_at 392 (by decide +kernel) (by decide +kernel)
theorem ml_X5_48 : Cond.methodLink RX5 48 yX5_lookAt ∈ lwG := lwG_at 399 (by decide +kernel) (by decide +kernel)
theorem ml_X5_91 : Cond.methodLink RX5 91 yX3_leaps ∈ lwG := lwG_at 403 (by decide +kernel) (by decide +kernel)
theorem ml_X5_95 : Cond.methodLink RX5 95 yX3_markOf ∈ lwG := lwG_at 404 (by decide +kernel) (by decide +kernel)
theorem ml_X5_98 : Cond.methodLink RX5 98 yJ9_min_7cf53 ∈ lwG := lwG_at 405 (by decide +kernel) (by decide +kernel)
theorem ml_X5_52 : Cond.methodLink RX5 52 yX5_step ∈ lwG := lwG_at 406 (by decide +kernel) (by decide +kernel)
theorem ml_X5_62 : Cond.methodLink RX5 62 yX5_waysFrom ∈ lwG := lwG_at 410 (by decide +kernel) (by decide +kernel)
theorem ml_L_42 : Cond.methodLink RL 42 yX6_become ∈ lwG := lwG_at 414 (by decide +kernel) (by decide +kernel)
theorem ml_X6_142 : Cond.methodLink RX6 142 yX3_setKind ∈ lwG := lwG_at 418 (by decide +kernel) (by decide +kernel)
theorem ml_L_46 : Cond.methodLink RL 46 yX6_as ∈ lwG := lwG_at 419 (by decide +kernel) (by decide +kernel)
theorem ml_X6_146 : Cond.methodLink RX6 146 yX6_isUnder ∈ lwG := lwG_at 423 (by decide +kernel) (by decide +kernel)
theorem fl_X6_291 : Cond.fieldLink RX6 291 "HandTown" "ABOVE" "[I" ∈ lwG := lwG_at 426 (by decide +kernel) (by decide +kernel)
theorem ml_L_50 : Cond.methodLink RL 50 yX6_jump ∈ lwG := lwG_at 428 (by decide +kernel) (by decide +kernel)
theorem ml_X6_150 : Cond.methodLink RX6 150 yX3_gets ∈ lwG := lwG_at 432 (by decide +kernel) (by decide +kernel)
theorem ml_X3_100 : Cond.methodLink RX3 100 yJ9_abs_0f7a4 ∈ lwG := lwG_at 436 (by decide +kernel) (by decide +kernel)
theorem ml_X3_122 : Cond.methodLink RX3 122 yX3_spans ∈ lwG := lwG_at 437 (by decide +kernel) (by decide +kernel)
theorem ml_X3_125 : Cond.methodLink RX3 125 yX3_apart ∈ lwG := lwG_at 438 (by decide +kernel) (by decide +kernel)
theorem ml_X3_106 : Cond.methodLink RX3 106 yJ9_min_7cf53 ∈ lwG := lwG_at 442 (by decide +kernel) (by decide +kernel)
theorem ml_X3_128 : Cond.methodLink RX3 128 yX3_leaps ∈ lwG := lwG_at 443 (by decide +kernel) (by decide +kernel)
theorem ml_L_56 : Cond.methodLink RL 56 yX6_feed ∈ lwG := lwG_at 444 (by decide +kernel) (by decide +kernel)
theorem ml_X6_156 : Cond.methodLink RX6 156 yX3_addBytes ∈ lwG := lwG_at 448 (by decide +kernel) (by decide +kernel)
theorem ml_L_61 : Cond.methodLink RL 61 yX6_text ∈ lwG := lwG_at 452 (by decide +kernel) (by decide +kernel)
theorem ml_X6_160 : Cond.methodLink RX6 160 yX6_isUse ∈ lwG := lwG_at 456 (by decide +kernel) (by decide +kernel)
theorem ml_X6_163 : Cond.methodLink RX6 163 yX1_readTape ∈ lwG := lwG_at 459 (by decide +kernel) (by decide +kernel)
theorem ml_X1_36 : Cond.methodLink RX1 36 yX1_readPart ∈ lwG := lwG_at 465 (by decide +kernel) (by decide +kernel)
theorem ml_X1_49 : Cond.methodLink RX1 49 yX1_readSide ∈ lwG := lwG_at 469 (by decide +kernel) (by decide +kernel)
theorem ml_X1_64 : Cond.methodLink RX1 64 yX1_readSingle ∈ lwG := lwG_at 473 (by decide +kernel) (by decide +kernel)
theorem ml_X1_52 : Cond.methodLink RX1 52 yX1_next ∈ lwG := lwG_at 477 (by decide +kernel) (by decide +kernel)
theorem ml_X1_68 : Cond.methodLink RX1 68 yX1_isDigit ∈ lwG := lwG_at 481 (by decide +kernel) (by decide +kernel)
theorem ml_X1_71 : Cond.methodLink RX1 71 yX1_readNumber ∈ lwG := lwG_at 484 (by decide +kernel) (by decide +kernel)
theorem ml_X1_60 : Cond.methodLink RX1 60 yX1_write ∈ lwG := lwG_at 488 (by decide +kernel) (by decide +kernel)
theorem ml_X1_74 : Cond.methodLink RX1 74 yJ0_indexOf_0f7a4 ∈ lwG := lwG_at 492 (by decide +kernel) (by decide +kernel)
theorem ml_J0_633 : Cond.methodLink RJ0 633 yJ0_indexOf_7cf53 ∈ lwG := lwG_at 496 (by decide +kernel) (by decide +kernel)
theorem ml_J0_492 : Cond.methodLink RJ0 492 yJ0_isLatin1_aae02 ∈ lwG := lwG_at 500 (by decide +kernel) (by decide +kernel)
theorem fl_J0_38 : Cond.fieldLink RJ0 38 "java/lang/String" "COMPACT_STRINGS" "Z" ∈ lwG := lwG_at 504 (by decide +kernel) (by decide +kernel)
theorem ml_J0_505 : Cond.methodLink RJ0 505 yJ0_length_8abf5 ∈ lwG := lwG_at 506 (by decide +kernel) (by decide +kernel)
theorem ml_J0_335 : Cond.methodLink RJ0 335 yJ0_coder_7d493 ∈ lwG := lwG_at 510 (by decide +kernel) (by decide +kernel)
theorem ml_J0_637 : Cond.methodLink RJ0 637 yJ1_indexOf_4cfef ∈ lwG := lwG_at 514 (by decide +kernel) (by decide +kernel)
theorem ml_J1_88 : Cond.methodLink RJ1 88 yJ1_canEncode_9a6ad ∈ lwG := lwG_at 517 (by decide +kernel) (by decide +kernel)
theorem ml_J1_92 : Cond.methodLink RJ1 92 yJ9_max_7cf53 ∈ lwG := lwG_at 520 (by decide +kernel) (by decide +kernel)
theorem ml_J1_38 : Cond.methodLink RJ1 38 yJ9_min_7cf53 ∈ lwG := lwG_at 521 (by decide +kernel) (by decide +kernel)
theorem ml_J1_95 : Cond.methodLink RJ1 95 yJ1_indexOfChar_4cfef ∈ lwG := lwG_at 522 (by decide +kernel) (by decide +kernel)
theorem ml_J0_640 : Cond.methodLink RJ0 640 yJ2_indexOf_4cfef ∈ lwG := lwG_at 525 (by decide +kernel) (by decide +kernel)
theorem ml_J2_224 : Cond.methodLink RJ2 224 yJ9_max_7cf53 ∈ lwG := lwG_at 528 (by decide +kernel) (by decide +kernel)
theorem ml_J2_183 : Cond.methodLink RJ2 183 yJ9_min_7cf53 ∈ lwG := lwG_at 529 (by decide +kernel) (by decide +kernel)
theorem cn_J2_227 : Cond.constant RJ2 227 (65536) ∈ lwG := lwG_at 530 (by decide +kernel) (by decide +kernel)
theorem ml_J2_228 : Cond.methodLink RJ2 228 yJ2_indexOfChar_4cfef ∈ lwG := lwG_at 531 (by decide +kernel) (by decide +kernel)
theorem ml_J2_96 : Cond.methodLink RJ2 96 yJ2_checkBoundsBeginEnd_d044e ∈ lwG := lwG_at 534 (by decide +kernel) (by decide +kernel)
theorem ml_J2_48 : Cond.methodLink RJ2 48 yJ2_length_9d52b ∈ lwG := lwG_at 537 (by decide +kernel) (by decide +kernel)
theorem ml_J2_241 : Cond.methodLink RJ2 241 yJ0_checkBoundsBeginEnd_23922 ∈ lwG := lwG_at 540 (by decide +kernel) (by decide +kernel)
theorem fl_J0_1053 : Cond.fieldLink RJ0 1053 "jdk/internal/util/Preconditions" "SIOOBE_FORMATTER" "Ljava/util/function/BiFunction;" ∈ lwG := lwG_at 543 (by decide +kernel) (by decide +kernel)
theorem ml_J0_1062 : Cond.methodLink RJ0 1062 yJ3_checkFromToIndex_8c36e ∈ lwG := lwG_at 545 (by decide +kernel) (by decide +kernel)
theorem ml_J2_244 : Cond.methodLink RJ2 244 yJ2_indexOfCharUnsafe_4cfef ∈ lwG := lwG_at 548 (by decide +kernel) (by decide +kernel)
theorem ml_J2_71 : Cond.methodLink RJ2 71 yJ2_getChar_3b067 ∈ lwG := lwG_at 551 (by decide +kernel) (by decide +kernel)
theorem fl_J2_44 : Cond.fieldLink RJ2 44 "java/lang/StringUTF16" "$assertionsDisabled" "Z" ∈ lwG := lwG_at 554 (by decide +kernel) (by decide +kernel)
theorem fl_J2_59 : Cond.fieldLink RJ2 59 "java/lang/StringUTF16" "HI_BYTE_SHIFT" "I" ∈ lwG := lwG_at 556 (by decide +kernel) (by decide +kernel)
theorem fl_J2_63 : Cond.fieldLink RJ2 63 "java/lang/StringUTF16" "LO_BYTE_SHIFT" "I" ∈ lwG := lwG_at 558 (by decide +kernel) (by decide +kernel)
theorem ml_J2_232 : Cond.methodLink RJ2 232 yJ2_indexOfSupplementary_4cfef ∈ lwG := lwG_at 560 (by decide +kernel) (by decide +kernel)
theorem ml_J2_164 : Cond.methodLink RJ2 164 yJ11_isValidCodePoint_9a6ad ∈ lwG := lwG_at 563 (by decide +kernel) (by decide +kernel)
theorem ml_J2_157 : Cond.methodLink RJ2 157 yJ11_highSurrogate_5068e ∈ lwG := lwG_at 566 (by decide +kernel) (by decide +kernel)
theorem cn_J11_110 : Cond.constant RJ11 110 (55232) ∈ lwG := lwG_at 569 (by decide +kernel) (by decide +kernel)
theorem ml_J2_161 : Cond.methodLink RJ2 161 yJ11_lowSurrogate_5068e ∈ lwG := lwG_at 570 (by decide +kernel) (by decide +kernel)
theorem cn_J11_76 : Cond.constant RJ11 76 (56320) ∈ lwG := lwG_at 573 (by decide +kernel) (by decide +kernel)
theorem ml_X1_81 : Cond.methodLink RX1 81 yX1_readNot ∈ lwG := lwG_at 574 (by decide +kernel) (by decide +kernel)
theorem ml_X1_84 : Cond.methodLink RX1 84 yX1_readBracket ∈ lwG := lwG_at 578 (by decide +kernel) (by decide +kernel)
theorem ml_X1_56 : Cond.methodLink RX1 56 yX1_rankOf ∈ lwG := lwG_at 582 (by decide +kernel) (by decide +kernel)
theorem ml_X6_176 : Cond.methodLink RX6 176 yX0_take ∈ lwG := lwG_at 585 (by decide +kernel) (by decide +kernel)
theorem ml_X0_18 : Cond.methodLink RX0 18 arraycopyName ∈ lwG := lwG_at 589 (by decide +kernel) (by decide +kernel)
theorem ml_L_66 : Cond.methodLink RL 66 yX6_untell ∈ lwG := lwG_at 592 (by decide +kernel) (by decide +kernel)
theorem ml_L_70 : Cond.methodLink RL 70 yX6_law ∈ lwG := lwG_at 596 (by decide +kernel) (by decide +kernel)
theorem ml_X6_183 : Cond.methodLink RX6 183 yX3_leapLaw ∈ lwG := lwG_at 600 (by decide +kernel) (by decide +kernel)
theorem ml_X6_187 : Cond.methodLink RX6 187 yX3_worthLaw ∈ lwG := lwG_at 601 (by decide +kernel) (by decide +kernel)
theorem ml_L_75 : Cond.methodLink RL 75 yX6_minutes ∈ lwG := lwG_at 602 (by decide +kernel) (by decide +kernel)
theorem ml_L_79 : Cond.methodLink RL 79 yX6_loose ∈ lwG := lwG_at 606 (by decide +kernel) (by decide +kernel)
theorem ml_X6_190 : Cond.methodLink RX6 190 yX3_jumpsByDraws ∈ lwG := lwG_at 610 (by decide +kernel) (by decide +kernel)
theorem ml_X3_142 : Cond.methodLink RX3 142 yX3_draw ∈ lwG := lwG_at 614 (by decide +kernel) (by decide +kernel)
theorem cn_X3_141 : Cond.constant RX3 141 (1103515245) ∈ lwG := lwG_at 618 (by decide +kernel) (by decide +kernel)
theorem ml_X3_146 : Cond.methodLink RX3 146 yX3_gets ∈ lwG := lwG_at 619 (by decide +kernel) (by decide +kernel)
theorem ml_L_83 : Cond.methodLink RL 83 yX6_seed ∈ lwG := lwG_at 620 (by decide +kernel) (by decide +kernel)
theorem ml_L_87 : Cond.methodLink RL 87 yX6_markAt ∈ lwG := lwG_at 624 (by decide +kernel) (by decide +kernel)
theorem ml_L_91 : Cond.methodLink RL 91 yX6_meet ∈ lwG := lwG_at 628 (by decide +kernel) (by decide +kernel)
theorem ml_X6_197 : Cond.methodLink RX6 197 yX3_apart ∈ lwG := lwG_at 632 (by decide +kernel) (by decide +kernel)
theorem ml_L_95 : Cond.methodLink RL 95 yX6_council ∈ lwG := lwG_at 633 (by decide +kernel) (by decide +kernel)
theorem ml_X6_200 : Cond.methodLink RX6 200 yX3_allMeet ∈ lwG := lwG_at 637 (by decide +kernel) (by decide +kernel)
theorem ml_L_100 : Cond.methodLink RL 100 yX6_soonest ∈ lwG := lwG_at 641 (by decide +kernel) (by decide +kernel)
theorem ml_X6_203 : Cond.methodLink RX6 203 yX5_firstIn ∈ lwG := lwG_at 645 (by decide +kernel) (by decide +kernel)
theorem ml_L_104 : Cond.methodLink RL 104 yX6_rooms ∈ lwG := lwG_at 649 (by decide +kernel) (by decide +kernel)
theorem ml_L_108 : Cond.methodLink RL 108 yX6_watch ∈ lwG := lwG_at 653 (by decide +kernel) (by decide +kernel)
theorem ml_X6_206 : Cond.methodLink RX6 206 yX5_fewestShut ∈ lwG := lwG_at 657 (by decide +kernel) (by decide +kernel)
theorem ml_X5_65 : Cond.methodLink RX5 65 yJ6_bitCount_0f7a4 ∈ lwG := lwG_at 661 (by decide +kernel) (by decide +kernel)
theorem cn_J6_265 : Cond.constant RJ6 265 (1431655765) ∈ lwG := lwG_at 664 (by decide +kernel) (by decide +kernel)
theorem cn_J6_266 : Cond.constant RJ6 266 (858993459) ∈ lwG := lwG_at 665 (by decide +kernel) (by decide +kernel)
theorem cn_J6_267 : Cond.constant RJ6 267 (252645135) ∈ lwG := lwG_at 666 (by decide +kernel) (by decide +kernel)
theorem ml_X5_70 : Cond.methodLink RX5 70 yX5_keepsOut ∈ lwG := lwG_at 667 (by decide +kernel) (by decide +kernel)
theorem ml_X6_209 : Cond.methodLink RX6 209 yJ6_bitCount_0f7a4 ∈ lwG := lwG_at 671 (by decide +kernel) (by decide +kernel)
theorem ml_L_112 : Cond.methodLink RL 112 yX6_best ∈ lwG := lwG_at 672 (by decide +kernel) (by decide +kernel)
theorem ml_X6_214 : Cond.methodLink RX6 214 yX3_worthiest ∈ lwG := lwG_at 676 (by decide +kernel) (by decide +kernel)
theorem ml_X3_135 : Cond.methodLink RX3 135 yX3_worth ∈ lwG := lwG_at 681 (by decide +kernel) (by decide +kernel)
theorem ml_X3_138 : Cond.methodLink RX3 138 yJ9_max_7cf53 ∈ lwG := lwG_at 682 (by decide +kernel) (by decide +kernel)
theorem ml_L_117 : Cond.methodLink RL 117 yX6_odds ∈ lwG := lwG_at 683 (by decide +kernel) (by decide +kernel)
theorem ml_X6_217 : Cond.methodLink RX6 217 yX6_commonDivisor ∈ lwG := lwG_at 687 (by decide +kernel) (by decide +kernel)
theorem ml_L_121 : Cond.methodLink RL 121 yX6_fits ∈ lwG := lwG_at 690 (by decide +kernel) (by decide +kernel)
theorem ml_X6_220 : Cond.methodLink RX6 220 yX6_lackOf ∈ lwG := lwG_at 694 (by decide +kernel) (by decide +kernel)
theorem ml_X6_241 : Cond.methodLink RX6 241 yX6_isSheet ∈ lwG := lwG_at 698 (by decide +kernel) (by decide +kernel)
theorem ml_X6_253 : Cond.methodLink RX6 253 yX2_isMissing ∈ lwG := lwG_at 701 (by decide +kernel) (by decide +kernel)
theorem ml_X6_223 : Cond.methodLink RX6 223 yX3_marksAre ∈ lwG := lwG_at 705 (by decide +kernel) (by decide +kernel)
theorem ml_L_125 : Cond.methodLink RL 125 yX6_voice ∈ lwG := lwG_at 709 (by decide +kernel) (by decide +kernel)
theorem ml_X6_227 : Cond.methodLink RX6 227 yX4_hear ∈ lwG := lwG_at 713 (by decide +kernel) (by decide +kernel)
theorem ml_X4_39 : Cond.methodLink RX4 39 yX4_call ∈ lwG := lwG_at 717 (by decide +kernel) (by decide +kernel)
theorem ml_X4_49 : Cond.methodLink RX4 49 yX4_find ∈ lwG := lwG_at 721 (by decide +kernel) (by decide +kernel)
theorem fl_X4_46 : Cond.fieldLink RX4 46 "HandTown$Voices" "BODIES" "[I" ∈ lwG := lwG_at 725 (by decide +kernel) (by decide +kernel)
theorem ml_X4_53 : Cond.methodLink RX4 53 yX4_work ∈ lwG := lwG_at 727 (by decide +kernel) (by decide +kernel)
theorem ml_X4_57 : Cond.methodLink RX4 57 yX4_part ∈ lwG := lwG_at 731 (by decide +kernel) (by decide +kernel)
theorem ml_L_129 : Cond.methodLink RL 129 yX6_body ∈ lwG := lwG_at 735 (by decide +kernel) (by decide +kernel)
theorem ml_L_133 : Cond.methodLink RL 133 yX6_sheet ∈ lwG := lwG_at 739 (by decide +kernel) (by decide +kernel)
theorem ml_X6_244 : Cond.methodLink RX6 244 yX2_lay ∈ lwG := lwG_at 743 (by decide +kernel) (by decide +kernel)
theorem ml_L_137 : Cond.methodLink RL 137 yX6_put ∈ lwG := lwG_at 747 (by decide +kernel) (by decide +kernel)
theorem ml_X6_247 : Cond.methodLink RX6 247 yX2_holds ∈ lwG := lwG_at 751 (by decide +kernel) (by decide +kernel)
theorem ml_X6_250 : Cond.methodLink RX6 250 yX2_write ∈ lwG := lwG_at 755 (by decide +kernel) (by decide +kernel)
theorem ml_L_141 : Cond.methodLink RL 141 yX6_move ∈ lwG := lwG_at 759 (by decide +kernel) (by decide +kernel)
theorem ml_X6_262 : Cond.methodLink RX6 262 arraycopyName ∈ lwG := lwG_at 763 (by decide +kernel) (by decide +kernel)
theorem ml_L_146 : Cond.methodLink RL 146 yX6_offsets ∈ lwG := lwG_at 764 (by decide +kernel) (by decide +kernel)
theorem ml_X6_268 : Cond.methodLink RX6 268 yX3_takeOffsets ∈ lwG := lwG_at 768 (by decide +kernel) (by decide +kernel)
theorem ml_L_150 : Cond.methodLink RL 150 yX6_judge ∈ lwG := lwG_at 772 (by decide +kernel) (by decide +kernel)
theorem ml_X6_272 : Cond.methodLink RX6 272 yX3_rightRooms ∈ lwG := lwG_at 776 (by decide +kernel) (by decide +kernel)
theorem ml_L_154 : Cond.methodLink RL 154 yX6_image ∈ lwG := lwG_at 780 (by decide +kernel) (by decide +kernel)
theorem ml_X6_275 : Cond.methodLink RX6 275 yX3_take ∈ lwG := lwG_at 784 (by decide +kernel) (by decide +kernel)
theorem ml_X3_54 : Cond.methodLink RX3 54 arraycopyName ∈ lwG := lwG_at 788 (by decide +kernel) (by decide +kernel)
theorem ml_X3_81 : Cond.methodLink RX3 81 yX0_take ∈ lwG := lwG_at 789 (by decide +kernel) (by decide +kernel)
theorem ml_L_158 : Cond.methodLink RL 158 yX6_restore ∈ lwG := lwG_at 790 (by decide +kernel) (by decide +kernel)
theorem ml_L_162 : Cond.methodLink RL 162 yX6_tell ∈ lwG := lwG_at 794 (by decide +kernel) (by decide +kernel)
theorem ml_L_166 : Cond.methodLink RL 166 yX6_check ∈ lwG := lwG_at 798 (by decide +kernel) (by decide +kernel)
theorem ml_X6_286 : Cond.methodLink RX6 286 yX3_firstWrongMark ∈ lwG := lwG_at 802 (by decide +kernel) (by decide +kernel)
theorem ml_X3_157 : Cond.methodLink RX3 157 yX3_hasHand ∈ lwG := lwG_at 806 (by decide +kernel) (by decide +kernel)
theorem ml_L_170 : Cond.methodLink RL 170 yX6_count ∈ lwG := lwG_at 807 (by decide +kernel) (by decide +kernel)
theorem ml_L_174 : Cond.methodLink RL 174 yX6_told ∈ lwG := lwG_at 811 (by decide +kernel) (by decide +kernel)
theorem kl_L_10 : Cond.classLink RL 10 "HandTownModel" ∈ lwG := lwG_at 815 (by decide +kernel) (by decide +kernel)
theorem ib_X7 : Cond.instantiable RX7 20 ∈ lwG := lwG_at 816 (by decide +kernel) (by decide +kernel)
theorem ml_L_12 : Cond.methodLink RL 12 yX7_init ∈ lwG := lwG_at 817 (by decide +kernel) (by decide +kernel)
theorem ml_X7_3 : Cond.methodLink RX7 3 objectInit ∈ lwG := lwG_at 820 (by decide +kernel) (by decide +kernel)
theorem fl_X7_9 : Cond.fieldLink RX7 9 "HandTownModel" "row" "[I" ∈ lwG := lwG_at 821 (by decide +kernel) (by decide +kernel)
theorem fl_X7_13 : Cond.fieldLink RX7 13 "HandTownModel" "kept" "[I" ∈ lwG := lwG_at 822 (by decide +kernel) (by decide +kernel)
theorem fl_X7_257 : Cond.fieldLink RX7 257 "HandTownModel" "images" "I" ∈ lwG := lwG_at 823 (by decide +kernel) (by decide +kernel)
theorem fl_X7_16 : Cond.fieldLink RX7 16 "HandTownModel" "errors" "[I" ∈ lwG := lwG_at 824 (by decide +kernel) (by decide +kernel)
theorem fl_X7_19 : Cond.fieldLink RX7 19 "HandTownModel" "bitsOf" "[I" ∈ lwG := lwG_at 825 (by decide +kernel) (by decide +kernel)
theorem fl_X7_22 : Cond.fieldLink RX7 22 "HandTownModel" "sizeOf" "[I" ∈ lwG := lwG_at 826 (by decide +kernel) (by decide +kernel)
theorem fl_X7_25 : Cond.fieldLink RX7 25 "HandTownModel" "cells" "[I" ∈ lwG := lwG_at 827 (by decide +kernel) (by decide +kernel)
theorem fl_X7_28 : Cond.fieldLink RX7 28 "HandTownModel" "reach" "[I" ∈ lwG := lwG_at 828 (by decide +kernel) (by decide +kernel)
theorem fl_X7_31 : Cond.fieldLink RX7 31 "HandTownModel" "act" "[I" ∈ lwG := lwG_at 829 (by decide +kernel) (by decide +kernel)
theorem fl_X7_34 : Cond.fieldLink RX7 34 "HandTownModel" "with" "[I" ∈ lwG := lwG_at 830 (by decide +kernel) (by decide +kernel)
theorem fl_X7_37 : Cond.fieldLink RX7 37 "HandTownModel" "facts" "[I" ∈ lwG := lwG_at 831 (by decide +kernel) (by decide +kernel)
theorem fl_X7_40 : Cond.fieldLink RX7 40 "HandTownModel" "pile" "[I" ∈ lwG := lwG_at 832 (by decide +kernel) (by decide +kernel)
theorem fl_X7_125 : Cond.fieldLink RX7 125 "HandTownModel" "laid" "I" ∈ lwG := lwG_at 833 (by decide +kernel) (by decide +kernel)
theorem fl_X7_121 : Cond.fieldLink RX7 121 "HandTownModel" "here" "I" ∈ lwG := lwG_at 834 (by decide +kernel) (by decide +kernel)
theorem fl_X7_143 : Cond.fieldLink RX7 143 "HandTownModel" "opened" "I" ∈ lwG := lwG_at 835 (by decide +kernel) (by decide +kernel)
theorem fl_X7_135 : Cond.fieldLink RX7 135 "HandTownModel" "bad" "Z" ∈ lwG := lwG_at 836 (by decide +kernel) (by decide +kernel)
theorem fl_X7_128 : Cond.fieldLink RX7 128 "HandTownModel" "using" "I" ∈ lwG := lwG_at 837 (by decide +kernel) (by decide +kernel)
theorem fl_X7_43 : Cond.fieldLink RX7 43 "HandTownModel" "trace" "[I" ∈ lwG := lwG_at 838 (by decide +kernel) (by decide +kernel)
theorem fl_X7_206 : Cond.fieldLink RX7 206 "HandTownModel" "traced" "I" ∈ lwG := lwG_at 839 (by decide +kernel) (by decide +kernel)
theorem fl_X7_233 : Cond.fieldLink RX7 233 "HandTownModel" "isParted" "Z" ∈ lwG := lwG_at 840 (by decide +kernel) (by decide +kernel)
theorem ml_L_17 : Cond.methodLink RL 17 yX7_hand ∈ lwG := lwG_at 882 (by decide +kernel) (by decide +kernel)
theorem ml_X7_47 : Cond.methodLink RX7 47 yX7_in ∈ lwG := lwG_at 886 (by decide +kernel) (by decide +kernel)
theorem cn_X7_55 : Cond.constant RX7 55 (-1000000001) ∈ lwG := lwG_at 889 (by decide +kernel) (by decide +kernel)
theorem ml_X7_56 : Cond.methodLink RX7 56 yX7_error ∈ lwG := lwG_at 890 (by decide +kernel) (by decide +kernel)
theorem cn_X7_46 : Cond.constant RX7 46 (-1000000000) ∈ lwG := lwG_at 894 (by decide +kernel) (by decide +kernel)
theorem cn_X7_60 : Cond.constant RX7 60 (-1000000004) ∈ lwG := lwG_at 895 (by decide +kernel) (by decide +kernel)
theorem ml_L_21 : Cond.methodLink RL 21 yX7_handIs ∈ lwG := lwG_at 896 (by decide +kernel) (by decide +kernel)
theorem ml_X7_61 : Cond.methodLink RX7 61 yX7_isHand ∈ lwG := lwG_at 900 (by decide +kernel) (by decide +kernel)
theorem ml_X7_51 : Cond.methodLink RX7 51 yX7_markOf ∈ lwG := lwG_at 904 (by decide +kernel) (by decide +kernel)
theorem ml_X7_65 : Cond.methodLink RX7 65 yX7_homesOn ∈ lwG := lwG_at 908 (by decide +kernel) (by decide +kernel)
theorem ml_L_25 : Cond.methodLink RL 25 yX7_frost ∈ lwG := lwG_at 912 (by decide +kernel) (by decide +kernel)
theorem ml_L_29 : Cond.methodLink RL 29 yX7_home ∈ lwG := lwG_at 916 (by decide +kernel) (by decide +kernel)
theorem ml_L_33 : Cond.methodLink RL 33 yX7_homeIs ∈ lwG := lwG_at 920 (by decide +kernel) (by decide +kernel)
theorem ml_X7_75 : Cond.methodLink RX7 75 yX7_isHome ∈ lwG := lwG_at 924 (by decide +kernel) (by decide +kernel)
theorem ml_X7_78 : Cond.methodLink RX7 78 yX7_worthOf ∈ lwG := lwG_at 928 (by decide +kernel) (by decide +kernel)
theorem ml_X7_68 : Cond.methodLink RX7 68 yX7_gives ∈ lwG := lwG_at 932 (by decide +kernel) (by decide +kernel)
theorem ml_X7_177 : Cond.methodLink RX7 177 yX7_works ∈ lwG := lwG_at 936 (by decide +kernel) (by decide +kernel)
theorem ml_X7_174 : Cond.methodLink RX7 174 yX7_twoOf ∈ lwG := lwG_at 940 (by decide +kernel) (by decide +kernel)
theorem ml_X7_180 : Cond.methodLink RX7 180 yX7_held ∈ lwG := lwG_at 943 (by decide +kernel) (by decide +kernel)
theorem ml_X7_81 : Cond.methodLink RX7 81 yX7_whoIn ∈ lwG := lwG_at 946 (by decide +kernel) (by decide +kernel)
theorem ml_X7_72 : Cond.methodLink RX7 72 yX7_of ∈ lwG := lwG_at 950 (by decide +kernel) (by decide +kernel)
theorem ml_L_37 : Cond.methodLink RL 37 yX7_person ∈ lwG := lwG_at 954 (by decide +kernel) (by decide +kernel)
theorem ml_X7_84 : Cond.methodLink RX7 84 yX7_isKm ∈ lwG := lwG_at 958 (by decide +kernel) (by decide +kernel)
theorem ml_L_41 : Cond.methodLink RL 41 yX7_personIs ∈ lwG := lwG_at 961 (by decide +kernel) (by decide +kernel)
theorem ml_X7_104 : Cond.methodLink RX7 104 yX7_isPerson ∈ lwG := lwG_at 965 (by decide +kernel) (by decide +kernel)
theorem ml_X7_94 : Cond.methodLink RX7 94 yX7_leapsOf ∈ lwG := lwG_at 969 (by decide +kernel) (by decide +kernel)
theorem ml_X7_87 : Cond.methodLink RX7 87 yX7_spansOf ∈ lwG := lwG_at 973 (by decide +kernel) (by decide +kernel)
theorem ml_X7_107 : Cond.methodLink RX7 107 yX7_roomsBy ∈ lwG := lwG_at 977 (by decide +kernel) (by decide +kernel)
theorem ml_X7_101 : Cond.methodLink RX7 101 yX7_onward ∈ lwG := lwG_at 981 (by decide +kernel) (by decide +kernel)
theorem ml_X7_97 : Cond.methodLink RX7 97 yX7_isInReach ∈ lwG := lwG_at 985 (by decide +kernel) (by decide +kernel)
theorem ml_X7_90 : Cond.methodLink RX7 90 yX7_apart ∈ lwG := lwG_at 989 (by decide +kernel) (by decide +kernel)
theorem ml_L_45 : Cond.methodLink RL 45 yX7_become ∈ lwG := lwG_at 993 (by decide +kernel) (by decide +kernel)
theorem ml_X7_110 : Cond.methodLink RX7 110 yX7_becomes ∈ lwG := lwG_at 997 (by decide +kernel) (by decide +kernel)
theorem ml_L_49 : Cond.methodLink RL 49 yX7_as ∈ lwG := lwG_at 1001 (by decide +kernel) (by decide +kernel)
theorem cn_X7_113 : Cond.constant RX7 113 (-1000000005) ∈ lwG := lwG_at 1005 (by decide +kernel) (by decide +kernel)
theorem ml_L_53 : Cond.methodLink RL 53 yX7_jump ∈ lwG := lwG_at 1006 (by decide +kernel) (by decide +kernel)
theorem ml_X7_114 : Cond.methodLink RX7 114 yX7_doesGet ∈ lwG := lwG_at 1010 (by decide +kernel) (by decide +kernel)
theorem cn_X7_118 : Cond.constant RX7 118 (-1000000003) ∈ lwG := lwG_at 1014 (by decide +kernel) (by decide +kernel)
theorem ml_L_60 : Cond.methodLink RL 60 yX7_feed ∈ lwG := lwG_at 1015 (by decide +kernel) (by decide +kernel)
theorem cl_X7_119 : Cond.constantLong RX7 119 (255) ∈ lwG := lwG_at 1019 (by decide +kernel) (by decide +kernel)
theorem ml_L_65 : Cond.methodLink RL 65 yX7_text ∈ lwG := lwG_at 1020 (by decide +kernel) (by decide +kernel)
theorem ml_X7_149 : Cond.methodLink RX7 149 yX7_any ∈ lwG := lwG_at 1024 (by decide +kernel) (by decide +kernel)
theorem ml_X7_171 : Cond.methodLink RX7 171 yX7_all ∈ lwG := lwG_at 1028 (by decide +kernel) (by decide +kernel)
theorem ml_X7_168 : Cond.methodLink RX7 168 yX7_compares ∈ lwG := lwG_at 1032 (by decide +kernel) (by decide +kernel)
theorem ml_X7_165 : Cond.methodLink RX7 165 yX7_sum ∈ lwG := lwG_at 1036 (by decide +kernel) (by decide +kernel)
theorem ml_X7_162 : Cond.methodLink RX7 162 yX7_times ∈ lwG := lwG_at 1040 (by decide +kernel) (by decide +kernel)
theorem ml_X7_146 : Cond.methodLink RX7 146 yX7_one ∈ lwG := lwG_at 1044 (by decide +kernel) (by decide +kernel)
theorem ml_X7_131 : Cond.methodLink RX7 131 yX7_look ∈ lwG := lwG_at 1048 (by decide +kernel) (by decide +kernel)
theorem ml_X7_152 : Cond.methodLink RX7 152 yX7_nameOf ∈ lwG := lwG_at 1052 (by decide +kernel) (by decide +kernel)
theorem ml_X7_139 : Cond.methodLink RX7 139 yX7_step ∈ lwG := lwG_at 1056 (by decide +kernel) (by decide +kernel)
theorem ml_X7_155 : Cond.methodLink RX7 155 yX7_opens ∈ lwG := lwG_at 1060 (by decide +kernel) (by decide +kernel)
theorem ml_X7_159 : Cond.methodLink RX7 159 yX7_number ∈ lwG := lwG_at 1064 (by decide +kernel) (by decide +kernel)
theorem ml_L_69 : Cond.methodLink RL 69 yX7_untell ∈ lwG := lwG_at 1068 (by decide +kernel) (by decide +kernel)
theorem ml_L_74 : Cond.methodLink RL 74 yX7_law ∈ lwG := lwG_at 1072 (by decide +kernel) (by decide +kernel)
theorem ml_L_78 : Cond.methodLink RL 78 yX7_minutes ∈ lwG := lwG_at 1076 (by decide +kernel) (by decide +kernel)
theorem ml_L_82 : Cond.methodLink RL 82 yX7_loose ∈ lwG := lwG_at 1080 (by decide +kernel) (by decide +kernel)
theorem ml_X7_187 : Cond.methodLink RX7 187 yX7_drawn ∈ lwG := lwG_at 1084 (by decide +kernel) (by decide +kernel)
theorem ml_X7_184 : Cond.methodLink RX7 184 yX7_draw ∈ lwG := lwG_at 1088 (by decide +kernel) (by decide +kernel)
theorem cn_X7_183 : Cond.constant RX7 183 (1103515245) ∈ lwG := lwG_at 1092 (by decide +kernel) (by decide +kernel)
theorem ml_L_86 : Cond.methodLink RL 86 yX7_seed ∈ lwG := lwG_at 1093 (by decide +kernel) (by decide +kernel)
theorem ml_L_90 : Cond.methodLink RL 90 yX7_markAt ∈ lwG := lwG_at 1097 (by decide +kernel) (by decide +kernel)
theorem ml_L_94 : Cond.methodLink RL 94 yX7_meet ∈ lwG := lwG_at 1101 (by decide +kernel) (by decide +kernel)
theorem cn_X7_190 : Cond.constant RX7 190 (-1000000002) ∈ lwG := lwG_at 1105 (by decide +kernel) (by decide +kernel)
theorem ml_L_99 : Cond.methodLink RL 99 yX7_council ∈ lwG := lwG_at 1106 (by decide +kernel) (by decide +kernel)
theorem ml_X7_191 : Cond.methodLink RX7 191 yX7_doAllMeet ∈ lwG := lwG_at 1110 (by decide +kernel) (by decide +kernel)
theorem ml_L_103 : Cond.methodLink RL 103 yX7_soonest ∈ lwG := lwG_at 1114 (by decide +kernel) (by decide +kernel)
theorem ml_L_107 : Cond.methodLink RL 107 yX7_rooms ∈ lwG := lwG_at 1118 (by decide +kernel) (by decide +kernel)
theorem ml_L_111 : Cond.methodLink RL 111 yX7_watch ∈ lwG := lwG_at 1122 (by decide +kernel) (by decide +kernel)
theorem ml_X7_194 : Cond.methodLink RX7 194 yX7_findReach ∈ lwG := lwG_at 1126 (by decide +kernel) (by decide +kernel)
theorem ml_X7_197 : Cond.methodLink RX7 197 yX7_bits ∈ lwG := lwG_at 1130 (by decide +kernel) (by decide +kernel)
theorem ml_X7_200 : Cond.methodLink RX7 200 yX7_roomsBut ∈ lwG := lwG_at 1133 (by decide +kernel) (by decide +kernel)
theorem ml_L_116 : Cond.methodLink RL 116 yX7_best ∈ lwG := lwG_at 1137 (by decide +kernel) (by decide +kernel)
theorem ml_L_120 : Cond.methodLink RL 120 yX7_odds ∈ lwG := lwG_at 1141 (by decide +kernel) (by decide +kernel)
theorem ml_L_124 : Cond.methodLink RL 124 yX7_fits ∈ lwG := lwG_at 1145 (by decide +kernel) (by decide +kernel)
theorem ml_X7_203 : Cond.methodLink RX7 203 yX7_notThere ∈ lwG := lwG_at 1149 (by decide +kernel) (by decide +kernel)
theorem ml_X7_246 : Cond.methodLink RX7 246 yX7_isSheet ∈ lwG := lwG_at 1153 (by decide +kernel) (by decide +kernel)
theorem ml_L_128 : Cond.methodLink RL 128 yX7_voice ∈ lwG := lwG_at 1156 (by decide +kernel) (by decide +kernel)
theorem ml_X7_218 : Cond.methodLink RX7 218 yX7_hails ∈ lwG := lwG_at 1160 (by decide +kernel) (by decide +kernel)
theorem ml_X7_215 : Cond.methodLink RX7 215 yX7_jumperHails ∈ lwG := lwG_at 1164 (by decide +kernel) (by decide +kernel)
theorem ml_X7_209 : Cond.methodLink RX7 209 yX7_begins ∈ lwG := lwG_at 1168 (by decide +kernel) (by decide +kernel)
theorem ml_X7_212 : Cond.methodLink RX7 212 yX7_plainHails ∈ lwG := lwG_at 1172 (by decide +kernel) (by decide +kernel)
theorem ml_X7_227 : Cond.methodLink RX7 227 yX7_bows ∈ lwG := lwG_at 1176 (by decide +kernel) (by decide +kernel)
theorem ml_X7_224 : Cond.methodLink RX7 224 yX7_widowBows ∈ lwG := lwG_at 1180 (by decide +kernel) (by decide +kernel)
theorem ml_X7_221 : Cond.methodLink RX7 221 yX7_plainBows ∈ lwG := lwG_at 1184 (by decide +kernel) (by decide +kernel)
theorem ml_X7_239 : Cond.methodLink RX7 239 yX7_rings ∈ lwG := lwG_at 1188 (by decide +kernel) (by decide +kernel)
theorem ml_X7_230 : Cond.methodLink RX7 230 yX7_plainRings ∈ lwG := lwG_at 1192 (by decide +kernel) (by decide +kernel)
theorem ml_X7_242 : Cond.methodLink RX7 242 yX7_parts ∈ lwG := lwG_at 1196 (by decide +kernel) (by decide +kernel)
theorem ml_X7_236 : Cond.methodLink RX7 236 yX7_plainParts ∈ lwG := lwG_at 1200 (by decide +kernel) (by decide +kernel)
theorem cn_X7_245 : Cond.constant RX7 245 (-1000000006) ∈ lwG := lwG_at 1204 (by decide +kernel) (by decide +kernel)
theorem ml_L_132 : Cond.methodLink RL 132 yX7_body ∈ lwG := lwG_at 1205 (by decide +kernel) (by decide +kernel)
theorem ml_L_136 : Cond.methodLink RL 136 yX7_sheet ∈ lwG := lwG_at 1209 (by decide +kernel) (by decide +kernel)
theorem ml_L_140 : Cond.methodLink RL 140 yX7_put ∈ lwG := lwG_at 1213 (by decide +kernel) (by decide +kernel)
theorem ml_L_145 : Cond.methodLink RL 145 yX7_move ∈ lwG := lwG_at 1217 (by decide +kernel) (by decide +kernel)
theorem ml_X7_249 : Cond.methodLink RX7 249 yX7_notMoved ∈ lwG := lwG_at 1221 (by decide +kernel) (by decide +kernel)
theorem ml_L_149 : Cond.methodLink RL 149 yX7_offsets ∈ lwG := lwG_at 1225 (by decide +kernel) (by decide +kernel)
theorem ml_L_153 : Cond.methodLink RL 153 yX7_judge ∈ lwG := lwG_at 1229 (by decide +kernel) (by decide +kernel)
theorem ml_L_157 : Cond.methodLink RL 157 yX7_image ∈ lwG := lwG_at 1233 (by decide +kernel) (by decide +kernel)
theorem ml_X7_253 : Cond.methodLink RX7 253 yX7_copyAll ∈ lwG := lwG_at 1237 (by decide +kernel) (by decide +kernel)
theorem ml_L_161 : Cond.methodLink RL 161 yX7_restore ∈ lwG := lwG_at 1240 (by decide +kernel) (by decide +kernel)
theorem ml_L_165 : Cond.methodLink RL 165 yX7_tell ∈ lwG := lwG_at 1244 (by decide +kernel) (by decide +kernel)
theorem ml_L_169 : Cond.methodLink RL 169 yX7_check ∈ lwG := lwG_at 1248 (by decide +kernel) (by decide +kernel)
theorem ml_L_173 : Cond.methodLink RL 173 yX7_count ∈ lwG := lwG_at 1252 (by decide +kernel) (by decide +kernel)
theorem ml_L_177 : Cond.methodLink RL 177 yX7_told ∈ lwG := lwG_at 1256 (by decide +kernel) (by decide +kernel)
theorem cl_L_54 : Cond.constantLong RL 54 (4294967295) ∈ lwG := lwG_at 1260 (by decide +kernel) (by decide +kernel)
theorem fl_J0_15 : Cond.fieldLink RJ0 15 "java/lang/String" "coder" "B" ∈ lwG := lwG_at 1261 (by decide +kernel) (by decide +kernel)
theorem fl_J0_9 : Cond.fieldLink RJ0 9 "java/lang/String" "value" "[B" ∈ lwG := lwG_at 1262 (by decide +kernel) (by decide +kernel)
theorem iw_L : Cond.initialized RL ∈ lwG := lwG_at 0 (by decide +kernel) (by decide +kernel)
theorem iw_X6 : Cond.initialized RX6 ∈ lwG := lwG_at 1 (by decide +kernel) (by decide +kernel)
theorem iw_X3 : Cond.initialized RX3 ∈ lwG := lwG_at 2 (by decide +kernel) (by decide +kernel)
theorem iw_X0 : Cond.initialized RX0 ∈ lwG := lwG_at 3 (by decide +kernel) (by decide +kernel)
theorem iw_X1 : Cond.initialized RX1 ∈ lwG := lwG_at 4 (by decide +kernel) (by decide +kernel)
theorem iw_X5 : Cond.initialized RX5 ∈ lwG := lwG_at 5 (by decide +kernel) (by decide +kernel)
theorem iw_X4 : Cond.initialized RX4 ∈ lwG := lwG_at 6 (by decide +kernel) (by decide +kernel)
theorem iw_X2 : Cond.initialized RX2 ∈ lwG := lwG_at 7 (by decide +kernel) (by decide +kernel)
theorem iw_X7 : Cond.initialized RX7 ∈ lwG := lwG_at 8 (by decide +kernel) (by decide +kernel)
theorem iw_J9 : Cond.initialized RJ9 ∈ lwG := lwG_at 9 (by decide +kernel) (by decide +kernel)
theorem iw_J0 : Cond.initialized RJ0 ∈ lwG := lwG_at 10 (by decide +kernel) (by decide +kernel)
theorem iw_J1 : Cond.initialized RJ1 ∈ lwG := lwG_at 11 (by decide +kernel) (by decide +kernel)
theorem iw_J2 : Cond.initialized RJ2 ∈ lwG := lwG_at 12 (by decide +kernel) (by decide +kernel)
theorem iw_J3 : Cond.initialized RJ3 ∈ lwG := lwG_at 13 (by decide +kernel) (by decide +kernel)
theorem iw_J11 : Cond.initialized RJ11 ∈ lwG := lwG_at 14 (by decide +kernel) (by decide +kernel)
theorem iw_J10 : Cond.initialized RJ10 ∈ lwG := lwG_at 15 (by decide +kernel) (by decide +kernel)
theorem iw_J6 : Cond.initialized RJ6 ∈ lwG := lwG_at 16 (by decide +kernel) (by decide +kernel)
theorem mi_X6_init : MI yX6_init cX6_init 1 0 := ⟨(lwG_at 21 (by decide +kernel) (by decide +kernel)), lwG_at 20 (by decide +kernel) (by decide +kernel), iw_X6, by decide +kernel, by decide +kernel, by decide +kernel⟩
theorem mi_X3_init : MI yX3_init cX3_init 1 0 := ⟨(lwG_at 29 (by decide +kernel) (by decide +kernel)), lwG_at 28 (by decide +kernel) (by decide +kernel), iw_X3, by decide +kernel, by decide +kernel, by decide +kernel⟩
theorem mi_X0_init : MI yX0_init cX0_init 1 0 := ⟨(lwG_at 36 (by decide +kernel) (by decide +kernel)), lwG_at 35 (by decide +kernel) (by decide +kernel), iw_X0, by decide +kernel, by decide +kernel, by decide +kernel⟩
theorem mi_X1_init : MI yX1_init cX1_init 2 1 := ⟨(lwG_at 135 (by decide +kernel) (by decide +kernel)), lwG_at 134 (by decide +kernel) (by decide +kernel), iw_X1, by decide +kernel, by decide +kernel, by decide +kernel⟩
theorem mi_X5_init : MI yX5_init cX5_init 2 1 := ⟨(lwG_at 160 (by decide +kernel) (by decide +kernel)), lwG_at 159 (by decide +kernel) (by decide +kernel), iw_X5, by decide +kernel, by decide +kernel, by decide +kernel⟩
theorem mi_X4_init : MI yX4_init cX4_init 1 0 := ⟨(lwG_at 185 (by decide +kernel) (by decide +kernel)), lwG_at 184 (by decide +kernel) (by decide +kernel), iw_X4, by decide +kernel, by decide +kernel, by decide +kernel⟩
theorem mi_X2_init : MI yX2_init cX2_init 1 0 := ⟨(lwG_at 214 (by decide +kernel) (by decide +kernel)), lwG_at 213 (by decide +kernel) (by decide +kernel), iw_X2, by decide +kernel, by decide +kernel, by decide +kernel⟩
theorem mu_X6_hand : MU RX6 yX6_hand cX6_hand 3 (some .int) 2 := ⟨(lwG_at 258 (by decide +kernel) (by decide +kernel)), lwG_at 256 (by decide +kernel) (by decide +kernel), lwG_at 257 (by decide +kernel) (by decide +kernel), iw_X6, rfl, by decide +kernel, by decide +kernel, by decide +kernel⟩
theorem ms_X6_within : MS yX6_within cX6_within 3 (some .boolean) 3 := ⟨(lwG_at 261 (by decide +kernel) (by decide +kernel)), lwG_at 260 (by decide +kernel) (by decide +kernel), iw_X6, by decide +kernel, by decide +kernel, by decide +kernel⟩
theorem mu_X6_error : MU RX6 yX6_error cX6_error 2 (some .int) 1 := ⟨(lwG_at 265 (by decide +kernel) (by decide +kernel)), lwG_at 264 (by decide +kernel) (by decide +kernel), lwG_sel 0 (by decide +kernel) (by decide +kernel), iw_X6, rfl, by decide +kernel, by decide +kernel, by decide +kernel⟩
theorem mu_X3_addHand : MU RX3 yX3_addHand cX3_addHand 3 (some .int) 2 := ⟨(lwG_at 270 (by decide +kernel) (by decide +kernel)), lwG_at 268 (by decide +kernel) (by decide +kernel), lwG_at 269 (by decide +kernel) (by decide +kernel), iw_X3, rfl, by decide +kernel, by decide +kernel, by decide +kernel⟩
theorem mu_X6_handIs : MU RX6 yX6_handIs cX6_handIs 3 (some .int) 2 := ⟨(lwG_at 274 (by decide +kernel) (by decide +kernel)), lwG_at 272 (by decide +kernel) (by decide +kernel), lwG_at 273 (by decide +kernel) (by decide +kernel), iw_X6, rfl, by decide +kernel, by decide +kernel, by decide +kernel⟩
theorem mu_X3_hasHand : MU RX3 yX3_hasHand cX3_hasHand 2 (some .boolean) 1 := ⟨(lwG_at 278 (by decide +kernel) (by decide +kernel)), lwG_at 276 (by decide +kernel) (by decide +kernel), lwG_at 277 (by decide +kernel) (by decide +kernel), iw_X3, rfl, by decide +kernel, by decide +kernel, by decide +kernel⟩
theorem mu_X3_markOf : MU RX3 yX3_markOf cX3_markOf 4 (some .int) 2 := ⟨(lwG_at 283 (by decide +kernel) (by decide +kernel)), lwG_at 281 (by decide +kernel) (by decide +kernel), lwG_at 282 (by decide +kernel) (by decide +kernel), iw_X3, rfl, by decide +kernel, by decide +kernel, by decide +kernel⟩
theorem ms_X6_rest : MS yX6_rest cX6_rest 2 (some .int) 2 := ⟨(lwG_at 286 (by decide +kernel) (by decide +kernel)), lwG_at 285 (by decide +kernel) (by decide +kernel), iw_X6, by decide +kernel, by decide +kernel, by decide +kernel⟩
theorem ms_J9_floorMod_7cf53 : MS yJ9_floorMod_7cf53 cJ9_floorMod_7cf53 3 (some .int) 2 := ⟨(lwG_at 289 (by decide +kernel) (by decide +kernel)), lwG_at 288 (by decide +kernel) (by decide +kernel), iw_J9, by decide +kernel, by decide +kernel, by decide +kernel⟩
theorem mu_X3_homesOn : MU RX3 yX3_homesOn cX3_homesOn 4 (some .int) 1 := ⟨(lwG_at 293 (by decide +kernel) (by decide +kernel)), lwG_at 291 (by decide +kernel) (by decide +kernel), lwG_at 292 (by decide +kernel) (by decide +kernel), iw_X3, rfl, by decide +kernel, by decide +kernel, by decide +kernel⟩
theorem mu_X6_frost : MU RX6 yX6_frost cX6_frost 3 (some .int) 2 := ⟨(lwG_at 297 (by decide +kernel) (by decide +kernel)), lwG_at 295 (by decide +kernel) (by decide +kernel), lwG_at 296 (by decide +kernel) (by decide +kernel), iw_X6, rfl, by decide +kernel, by decide +kernel, by decide +kernel⟩
theorem mu_X6_home : MU RX6 yX6_home cX6_home 3 (some .int) 2 := ⟨(lwG_at 302 (by decide +kernel) (by decide +kernel)), lwG_at 300 (by decide +kernel) (by decide +kernel), lwG_at 301 (by decide +kernel) (by decide +kernel), iw_X6, rfl, by decide +kernel, by decide +kernel, by decide +kernel⟩
theorem mu_X3_addHome : MU RX3 yX3_addHome cX3_addHome 3 (some .int) 2 := ⟨(lwG_at 306 (by decide +kernel) (by decide +kernel)), lwG_at 304 (by decide +kernel) (by decide +kernel), lwG_at 305 (by decide +kernel) (by decide +kernel), iw_X3, rfl, by decide +kernel, by decide +kernel, by decide +kernel⟩
theorem mu_X6_homeIs : MU RX6 yX6_homeIs cX6_homeIs 3 (some .int) 2 := ⟨(lwG_at 310 (by decide +kernel) (by decide +kernel)), lwG_at 308 (by decide +kernel) (by decide +kernel), lwG_at 309 (by decide +kernel) (by decide +kernel), iw_X6, rfl, by decide +kernel, by decide +kernel, by decide +kernel⟩
theorem mu_X3_hasHome : MU RX3 yX3_hasHome cX3_hasHome 2 (some .boolean) 1 := ⟨(lwG_at 314 (by decide +kernel) (by decide +kernel)), lwG_at 312 (by decide +kernel) (by decide +kernel), lwG_at 313 (by decide +kernel) (by decide +kernel), iw_X3, rfl, by decide +kernel, by decide +kernel, by decide +kernel⟩
theorem mu_X3_worth : MU RX3 yX3_worth cX3_worth 3 (some .int) 2 := ⟨(lwG_at 318 (by decide +kernel) (by decide +kernel)), lwG_at 316 (by decide +kernel) (by decide +kernel), lwG_at 317 (by decide +kernel) (by decide +kernel), iw_X3, rfl, by decide +kernel, by decide +kernel, by decide +kernel⟩
theorem mu_X3_worthLaw : MU RX3 yX3_worthLaw cX3_worthLaw 5 (some .int) 3 := ⟨(lwG_at 323 (by decide +kernel) (by decide +kernel)), lwG_at 321 (by decide +kernel) (by decide +kernel), lwG_at 322 (by decide +kernel) (by decide +kernel), iw_X3, rfl, by decide +kernel, by decide +kernel, by decide +kernel⟩
theorem mu_X0_gives : MU RX0 yX0_gives cX0_gives 7 (some .int) 3 := ⟨(lwG_at 327 (by decide +kernel) (by decide +kernel)), lwG_at 325 (by decide +kernel) (by decide +kernel), lwG_at 326 (by decide +kernel) (by decide +kernel), iw_X0, rfl, by decide +kernel, by decide +kernel, by decide +kernel⟩
theorem ms_X0_join : MS yX0_join cX0_join 3 (some .int) 3 := ⟨(lwG_at 330 (by decide +kernel) (by decide +kernel)), lwG_at 329 (by decide +kernel) (by decide +kernel), iw_X0, by decide +kernel, by decide +kernel, by decide +kernel⟩
theorem ms_X6_hold : MS yX6_hold cX6_hold 3 (some .int) 3 := ⟨(lwG_at 333 (by decide +kernel) (by decide +kernel)), lwG_at 332 (by decide +kernel) (by decide +kernel), iw_X6, by decide +kernel, by decide +kernel, by decide +kernel⟩
theorem ms_J9_min_7cf53 : MS yJ9_min_7cf53 cJ9_min_7cf53 2 (some .int) 2 := ⟨(lwG_at 336 (by decide +kernel) (by decide +kernel)), lwG_at 335 (by decide +kernel) (by decide +kernel), iw_J9, by decide +kernel, by decide +kernel, by decide +kernel⟩
theorem ms_J9_max_7cf53 : MS yJ9_max_7cf53 cJ9_max_7cf53 2 (some .int) 2 := ⟨(lwG_at 339 (by decide +kernel) (by decide +kernel)), lwG_at 338 (by decide +kernel) (by decide +kernel), iw_J9, by decide +kernel, by decide +kernel, by decide +kernel⟩
theorem mu_X3_peopleIn : MU RX3 yX3_peopleIn cX3_peopleIn 4 (some .int) 1 := ⟨(lwG_at 343 (by decide +kernel) (by decide +kernel)), lwG_at 341 (by decide +kernel) (by decide +kernel), lwG_at 342 (by decide +kernel) (by decide +kernel), iw_X3, rfl, by decide +kernel, by decide +kernel, by decide +kernel⟩
theorem mu_X6_person : MU RX6 yX6_person cX6_person 3 (some .int) 2 := ⟨(lwG_at 347 (by decide +kernel) (by decide +kernel)), lwG_at 345 (by decide +kernel) (by decide +kernel), lwG_at 346 (by decide +kernel) (by decide +kernel), iw_X6, rfl, by decide +kernel, by decide +kernel, by decide +kernel⟩
theorem ms_X6_isKindWithNumber : MS yX6_isKindWithNumber cX6_isKindWithNumber 1 (some .boolean) 1 := ⟨(lwG_at 350 (by decide +kernel) (by decide +kernel)), lwG_at 349 (by decide +kernel) (by decide +kernel), iw_X6, by decide +kernel, by decide +kernel, by decide +kernel⟩
theorem mu_X3_addPerson : MU RX3 yX3_addPerson cX3_addPerson 3 (some .int) 2 := ⟨(lwG_at 354 (by decide +kernel) (by decide +kernel)), lwG_at 352 (by decide +kernel) (by decide +kernel), lwG_at 353 (by decide +kernel) (by decide +kernel), iw_X3, rfl, by decide +kernel, by decide +kernel, by decide +kernel⟩
theorem mu_X3_setKind : MU RX3 yX3_setKind cX3_setKind 3 none 2 := ⟨(lwG_at 358 (by decide +kernel) (by decide +kernel)), lwG_at 356 (by decide +kernel) (by decide +kernel), lwG_at 357 (by decide +kernel) (by decide +kernel), iw_X3, rfl, by decide +kernel, by decide +kernel, by decide +kernel⟩
theorem mu_X6_personIs : MU RX6 yX6_personIs cX6_personIs 3 (some .int) 2 := ⟨(lwG_at 362 (by decide +kernel) (by decide +kernel)), lwG_at 360 (by decide +kernel) (by decide +kernel), lwG_at 361 (by decide +kernel) (by decide +kernel), iw_X6, rfl, by decide +kernel, by decide +kernel, by decide +kernel⟩
theorem mu_X3_hasPerson : MU RX3 yX3_hasPerson cX3_hasPerson 2 (some .boolean) 1 := ⟨(lwG_at 366 (by decide +kernel) (by decide +kernel)), lwG_at 364 (by decide +kernel) (by decide +kernel), lwG_at 365 (by decide +kernel) (by decide +kernel), iw_X3, rfl, by decide +kernel, by decide +kernel, by decide +kernel⟩
theorem mu_X3_leaps : MU RX3 yX3_leaps cX3_leaps 5 (some .int) 2 := ⟨(lwG_at 370 (by decide +kernel) (by decide +kernel)), lwG_at 368 (by decide +kernel) (by decide +kernel), lwG_at 369 (by decide +kernel) (by decide +kernel), iw_X3, rfl, by decide +kernel, by decide +kernel, by decide +kernel⟩
theorem mu_X3_leapLaw : MU RX3 yX3_leapLaw cX3_leapLaw 5 (some .int) 3 := ⟨(lwG_at 374 (by decide +kernel) (by decide +kernel)), lwG_at 372 (by decide +kernel) (by decide +kernel), lwG_at 373 (by decide +kernel) (by decide +kernel), iw_X3, rfl, by decide +kernel, by decide +kernel, by decide +kernel⟩
theorem mu_X3_spans : MU RX3 yX3_spans cX3_spans 3 (some .int) 1 := ⟨(lwG_at 378 (by decide +kernel) (by decide +kernel)), lwG_at 376 (by decide +kernel) (by decide +kernel), lwG_at 377 (by decide +kernel) (by decide +kernel), iw_X3, rfl, by decide +kernel, by decide +kernel, by decide +kernel⟩
theorem mu_X5_roomsBehind : MU RX5 yX5_roomsBehind cX5_roomsBehind 6 (some .int) 2 := ⟨(lwG_at 382 (by decide +kernel) (by decide +kernel)), lwG_at 380 (by decide +kernel) (by decide +kernel), lwG_at 381 (by decide +kernel) (by decide +kernel), iw_X5, rfl, by decide +kernel, by decide +kernel, by decide +kernel⟩
theorem mu_X5_begin : MU RX5 yX5_begin cX5_begin 5 none 1 := ⟨(lwG_at 386 (by decide +kernel) (by decide +kernel)), lwG_at 385 (by decide +kernel) (by decide +kernel), lwG_sel 1 (by decide +kernel) (by decide +kernel), iw_X5, rfl, by decide +kernel, by decide +kernel, by decide +kernel⟩
theorem ms_J9_abs_0f7a4 : MS yJ9_abs_0f7a4 cJ9_abs_0f7a4 1 (some .int) 1 := ⟨(lwG_at 391 (by decide +kernel) (by decide +kernel)), lwG_at 390 (by decide +kernel) (by decide +kernel), iw_J9, by decide +kernel, by decide +kernel, by decide +kernel⟩
theorem mu_X5_spread : MU RX5 yX5_spread cX5_spread 5 (some .int) 1 := ⟨(lwG_at 395 (by decide +kernel) (by decide +kernel)), lwG_at 394 (by decide +kernel) (by decide +kernel), lwG_sel 2 (by decide +kernel) (by decide +kernel), iw_X5, rfl, by decide +kernel, by decide +kernel, by decide +kernel⟩
theorem ms_X6_isIn : MS yX6_isIn cX6_isIn 2 (some .boolean) 2 := ⟨(lwG_at 398 (by decide +kernel) (by decide +kernel)), lwG_at 397 (by decide +kernel) (by decide +kernel), iw_X6, by decide +kernel, by decide +kernel, by decide +kernel⟩
theorem mu_X5_lookAt : MU RX5 yX5_lookAt cX5_lookAt 7 none 2 := ⟨(lwG_at 402 (by decide +kernel) (by decide +kernel)), lwG_at 401 (by decide +kernel) (by decide +kernel), lwG_sel 3 (by decide +kernel) (by decide +kernel), iw_X5, rfl, by decide +kernel, by decide +kernel, by decide +kernel⟩
theorem mu_X5_step : MU RX5 yX5_step cX5_step 4 (some .int) 1 := ⟨(lwG_at 409 (by decide +kernel) (by decide +kernel)), lwG_at 408 (by decide +kernel) (by decide +kernel), lwG_sel 4 (by decide +kernel) (by decide +kernel), iw_X5, rfl, by decide +kernel, by decide +kernel, by decide +kernel⟩
theorem mu_X5_waysFrom : MU RX5 yX5_waysFrom cX5_waysFrom 2 (some .int) 1 := ⟨(lwG_at 413 (by decide +kernel) (by decide +kernel)), lwG_at 412 (by decide +kernel) (by decide +kernel), lwG_sel 5 (by decide +kernel) (by decide +kernel), iw_X5, rfl, by decide +kernel, by decide +kernel, by decide +kernel⟩
theorem mu_X6_become : MU RX6 yX6_become cX6_become 4 (some .int) 2 := ⟨(lwG_at 417 (by decide +kernel) (by decide +kernel)), lwG_at 415 (by decide +kernel) (by decide +kernel), lwG_at 416 (by decide +kernel) (by decide +kernel), iw_X6, rfl, by decide +kernel, by decide +kernel, by decide +kernel⟩
theorem mu_X6_as : MU RX6 yX6_as cX6_as 3 (some .int) 2 := ⟨(lwG_at 422 (by decide +kernel) (by decide +kernel)), lwG_at 420 (by decide +kernel) (by decide +kernel), lwG_at 421 (by decide +kernel) (by decide +kernel), iw_X6, rfl, by decide +kernel, by decide +kernel, by decide +kernel⟩
theorem ms_X6_isUnder : MS yX6_isUnder cX6_isUnder 4 (some .boolean) 2 := ⟨(lwG_at 425 (by decide +kernel) (by decide +kernel)), lwG_at 424 (by decide +kernel) (by decide +kernel), iw_X6, by decide +kernel, by decide +kernel, by decide +kernel⟩
theorem mu_X6_jump : MU RX6 yX6_jump cX6_jump 4 (some .int) 2 := ⟨(lwG_at 431 (by decide +kernel) (by decide +kernel)), lwG_at 429 (by decide +kernel) (by decide +kernel), lwG_at 430 (by decide +kernel) (by decide +kernel), iw_X6, rfl, by decide +kernel, by decide +kernel, by decide +kernel⟩
theorem mu_X3_gets : MU RX3 yX3_gets cX3_gets 5 (some .boolean) 3 := ⟨(lwG_at 435 (by decide +kernel) (by decide +kernel)), lwG_at 433 (by decide +kernel) (by decide +kernel), lwG_at 434 (by decide +kernel) (by decide +kernel), iw_X3, rfl, by decide +kernel, by decide +kernel, by decide +kernel⟩
theorem mu_X3_apart : MU RX3 yX3_apart cX3_apart 5 (some .int) 3 := ⟨(lwG_at 441 (by decide +kernel) (by decide +kernel)), lwG_at 439 (by decide +kernel) (by decide +kernel), lwG_at 440 (by decide +kernel) (by decide +kernel), iw_X3, rfl, by decide +kernel, by decide +kernel, by decide +kernel⟩
theorem mu_X6_feed : MU RX6 yX6_feed cX6_feed 4 (some .int) 2 := ⟨(lwG_at 447 (by decide +kernel) (by decide +kernel)), lwG_at 445 (by decide +kernel) (by decide +kernel), lwG_at 446 (by decide +kernel) (by decide +kernel), iw_X6, rfl, by decide +kernel, by decide +kernel, by decide +kernel⟩
theorem mu_X3_addBytes : MU RX3 yX3_addBytes cX3_addBytes 5 none 2 := ⟨(lwG_at 451 (by decide +kernel) (by decide +kernel)), lwG_at 449 (by decide +kernel) (by decide +kernel), lwG_at 450 (by decide +kernel) (by decide +kernel), iw_X3, rfl, by decide +kernel, by decide +kernel, by decide +kernel⟩
theorem mu_X6_text : MU RX6 yX6_text cX6_text 3 (some .int) 1 := ⟨(lwG_at 455 (by decide +kernel) (by decide +kernel)), lwG_at 453 (by decide +kernel) (by decide +kernel), lwG_at 454 (by decide +kernel) (by decide +kernel), iw_X6, rfl, by decide +kernel, by decide +kernel, by decide +kernel⟩
theorem ms_X6_isUse : MS yX6_isUse cX6_isUse 1 (some .boolean) 1 := ⟨(lwG_at 458 (by decide +kernel) (by decide +kernel)), lwG_at 457 (by decide +kernel) (by decide +kernel), iw_X6, by decide +kernel, by decide +kernel, by decide +kernel⟩
theorem mu_X1_readTape : MU RX1 yX1_readTape cX1_readTape 2 (some .int) 1 := ⟨(lwG_at 462 (by decide +kernel) (by decide +kernel)), lwG_at 460 (by decide +kernel) (by decide +kernel), lwG_at 461 (by decide +kernel) (by decide +kernel), iw_X1, rfl, by decide +kernel, by decide +kernel, by decide +kernel⟩
theorem mu_X1_readPart : MU RX1 yX1_readPart cX1_readPart 7 (some .boolean) 2 := ⟨(lwG_at 468 (by decide +kernel) (by decide +kernel)), lwG_at 467 (by decide +kernel) (by decide +kernel), lwG_sel 6 (by decide +kernel) (by decide +kernel), iw_X1, rfl, by decide +kernel, by decide +kernel, by decide +kernel⟩
theorem mu_X1_readSide : MU RX1 yX1_readSide cX1_readSide 3 (some .boolean) 2 := ⟨(lwG_at 472 (by decide +kernel) (by decide +kernel)), lwG_at 471 (by decide +kernel) (by decide +kernel), lwG_sel 7 (by decide +kernel) (by decide +kernel), iw_X1, rfl, by decide +kernel, by decide +kernel, by decide +kernel⟩
theorem mu_X1_readSingle : MU RX1 yX1_readSingle cX1_readSingle 4 (some .boolean) 1 := ⟨(lwG_at 476 (by decide +kernel) (by decide +kernel)), lwG_at 475 (by decide +kernel) (by decide +kernel), lwG_sel 8 (by decide +kernel) (by decide +kernel), iw_X1, rfl, by decide +kernel, by decide +kernel, by decide +kernel⟩
theorem mu_X1_next : MU RX1 yX1_next cX1_next 1 (some .int) 0 := ⟨(lwG_at 480 (by decide +kernel) (by decide +kernel)), lwG_at 479 (by decide +kernel) (by decide +kernel), lwG_sel 9 (by decide +kernel) (by decide +kernel), iw_X1, rfl, by decide +kernel, by decide +kernel, by decide +kernel⟩
theorem ms_X1_isDigit : MS yX1_isDigit cX1_isDigit 1 (some .boolean) 1 := ⟨(lwG_at 483 (by decide +kernel) (by decide +kernel)), lwG_at 482 (by decide +kernel) (by decide +kernel), iw_X1, by decide +kernel, by decide +kernel, by decide +kernel⟩
theorem mu_X1_readNumber : MU RX1 yX1_readNumber cX1_readNumber 3 none 0 := ⟨(lwG_at 487 (by decide +kernel) (by decide +kernel)), lwG_at 486 (by decide +kernel) (by decide +kernel), lwG_sel 10 (by decide +kernel) (by decide +kernel), iw_X1, rfl, by decide +kernel, by decide +kernel, by decide +kernel⟩
theorem mu_X1_write : MU RX1 yX1_write cX1_write 2 none 1 := ⟨(lwG_at 491 (by decide +kernel) (by decide +kernel)), lwG_at 490 (by decide +kernel) (by decide +kernel), lwG_sel 11 (by decide +kernel) (by decide +kernel), iw_X1, rfl, by decide +kernel, by decide +kernel, by decide +kernel⟩
theorem mu_J0_indexOf_0f7a4 : MU RJ0 yJ0_indexOf_0f7a4 cJ0_indexOf_0f7a4 2 (some .int) 1 := ⟨(lwG_at 495 (by decide +kernel) (by decide +kernel)), lwG_at 493 (by decide +kernel) (by decide +kernel), lwG_at 494 (by decide +kernel) (by decide +kernel), iw_J0, rfl, by decide +kernel, by decide +kernel, by decide +kernel⟩
theorem mu_J0_indexOf_7cf53 : MU RJ0 yJ0_indexOf_7cf53 cJ0_indexOf_7cf53 3 (some .int) 2 := ⟨(lwG_at 499 (by decide +kernel) (by decide +kernel)), lwG_at 497 (by decide +kernel) (by decide +kernel), lwG_at 498 (by decide +kernel) (by decide +kernel), iw_J0, rfl, by decide +kernel, by decide +kernel, by decide +kernel⟩
theorem mu_J0_isLatin1_aae02 : MU RJ0 yJ0_isLatin1_aae02 cJ0_isLatin1_aae02 1 (some .boolean) 0 := ⟨(lwG_at 503 (by decide +kernel) (by decide +kernel)), lwG_at 501 (by decide +kernel) (by decide +kernel), lwG_at 502 (by decide +kernel) (by decide +kernel), iw_J0, rfl, by decide +kernel, by decide +kernel, by decide +kernel⟩
theorem mu_J0_length_8abf5 : MU RJ0 yJ0_length_8abf5 cJ0_length_8abf5 1 (some .int) 0 := ⟨(lwG_at 509 (by decide +kernel) (by decide +kernel)), lwG_at 507 (by decide +kernel) (by decide +kernel), lwG_at 508 (by decide +kernel) (by decide +kernel), iw_J0, rfl, by decide +kernel, by decide +kernel, by decide +kernel⟩
theorem mu_J0_coder_7d493 : MU RJ0 yJ0_coder_7d493 cJ0_coder_7d493 1 (some .byte) 0 := ⟨(lwG_at 513 (by decide +kernel) (by decide +kernel)), lwG_at 511 (by decide +kernel) (by decide +kernel), lwG_at 512 (by decide +kernel) (by decide +kernel), iw_J0, rfl, by decide +kernel, by decide +kernel, by decide +kernel⟩
theorem ms_J1_indexOf_4cfef : MS yJ1_indexOf_4cfef cJ1_indexOf_4cfef 4 (some .int) 4 := ⟨(lwG_at 516 (by decide +kernel) (by decide +kernel)), lwG_at 515 (by decide +kernel) (by decide +kernel), iw_J1, by decide +kernel, by decide +kernel, by decide +kernel⟩
theorem ms_J1_canEncode_9a6ad : MS yJ1_canEncode_9a6ad cJ1_canEncode_9a6ad 1 (some .boolean) 1 := ⟨(lwG_at 519 (by decide +kernel) (by decide +kernel)), lwG_at 518 (by decide +kernel) (by decide +kernel), iw_J1, by decide +kernel, by decide +kernel, by decide +kernel⟩
theorem ms_J1_indexOfChar_4cfef : MS yJ1_indexOfChar_4cfef cJ1_indexOfChar_4cfef 6 (some .int) 4 := ⟨(lwG_at 524 (by decide +kernel) (by decide +kernel)), lwG_at 523 (by decide +kernel) (by decide +kernel), iw_J1, by decide +kernel, by decide +kernel, by decide +kernel⟩
theorem ms_J2_indexOf_4cfef : MS yJ2_indexOf_4cfef cJ2_indexOf_4cfef 4 (some .int) 4 := ⟨(lwG_at 527 (by decide +kernel) (by decide +kernel)), lwG_at 526 (by decide +kernel) (by decide +kernel), iw_J2, by decide +kernel, by decide +kernel, by decide +kernel⟩
theorem ms_J2_indexOfChar_4cfef : MS yJ2_indexOfChar_4cfef cJ2_indexOfChar_4cfef 4 (some .int) 4 := ⟨(lwG_at 533 (by decide +kernel) (by decide +kernel)), lwG_at 532 (by decide +kernel) (by decide +kernel), iw_J2, by decide +kernel, by decide +kernel, by decide +kernel⟩
theorem ms_J2_checkBoundsBeginEnd_d044e : MS yJ2_checkBoundsBeginEnd_d044e cJ2_checkBoundsBeginEnd_d044e 3 none 3 := ⟨(lwG_at 536 (by decide +kernel) (by decide +kernel)), lwG_at 535 (by decide +kernel) (by decide +kernel), iw_J2, by decide +kernel, by decide +kernel, by decide +kernel⟩
theorem ms_J2_length_9d52b : MS yJ2_length_9d52b cJ2_length_9d52b 1 (some .int) 1 := ⟨(lwG_at 539 (by decide +kernel) (by decide +kernel)), lwG_at 538 (by decide +kernel) (by decide +kernel), iw_J2, by decide +kernel, by decide +kernel, by decide +kernel⟩
theorem ms_J0_checkBoundsBeginEnd_23922 : MS yJ0_checkBoundsBeginEnd_23922 cJ0_checkBoundsBeginEnd_23922 3 none 3 := ⟨(lwG_at 542 (by decide +kernel) (by decide +kernel)), lwG_at 541 (by decide +kernel) (by decide +kernel), iw_J0, by decide +kernel, by decide +kernel, by decide +kernel⟩
theorem ms_J3_checkFromToIndex_8c36e : MS yJ3_checkFromToIndex_8c36e cJ3_checkFromToIndex_8c36e 4 (some .int) 4 := ⟨(lwG_at 547 (by decide +kernel) (by decide +kernel)), lwG_at 546 (by decide +kernel) (by decide +kernel), iw_J3, by decide +kernel, by decide +kernel, by decide +kernel⟩
theorem ms_J2_indexOfCharUnsafe_4cfef : MS yJ2_indexOfCharUnsafe_4cfef cJ2_indexOfCharUnsafe_4cfef 5 (some .int) 4 := ⟨(lwG_at 550 (by decide +kernel) (by decide +kernel)), lwG_at 549 (by decide +kernel) (by decide +kernel), iw_J2, by decide +kernel, by decide +kernel, by decide +kernel⟩
theorem ms_J2_getChar_3b067 : MS yJ2_getChar_3b067 cJ2_getChar_3b067 2 (some .char) 2 := ⟨(lwG_at 553 (by decide +kernel) (by decide +kernel)), lwG_at 552 (by decide +kernel) (by decide +kernel), iw_J2, by decide +kernel, by decide +kernel, by decide +kernel⟩
theorem ms_J2_indexOfSupplementary_4cfef : MS yJ2_indexOfSupplementary_4cfef cJ2_indexOfSupplementary_4cfef 7 (some .int) 4 := ⟨(lwG_at 562 (by decide +kernel) (by decide +kernel)), lwG_at 561 (by decide +kernel) (by decide +kernel), iw_J2, by decide +kernel, by decide +kernel, by decide +kernel⟩
theorem ms_J11_isValidCodePoint_9a6ad : MS yJ11_isValidCodePoint_9a6ad cJ11_isValidCodePoint_9a6ad 2 (some .boolean) 1 := ⟨(lwG_at 565 (by decide +kernel) (by decide +kernel)), lwG_at 564 (by decide +kernel) (by decide +kernel), iw_J11, by decide +kernel, by decide +kernel, by decide +kernel⟩
theorem ms_J11_highSurrogate_5068e : MS yJ11_highSurrogate_5068e cJ11_highSurrogate_5068e 1 (some .char) 1 := ⟨(lwG_at 568 (by decide +kernel) (by decide +kernel)), lwG_at 567 (by decide +kernel) (by decide +kernel), iw_J11, by decide +kernel, by decide +kernel, by decide +kernel⟩
theorem ms_J11_lowSurrogate_5068e : MS yJ11_lowSurrogate_5068e cJ11_lowSurrogate_5068e 1 (some .char) 1 := ⟨(lwG_at 572 (by decide +kernel) (by decide +kernel)), lwG_at 571 (by decide +kernel) (by decide +kernel), iw_J11, by decide +kernel, by decide +kernel, by decide +kernel⟩
theorem mu_X1_readNot : MU RX1 yX1_readNot cX1_readNot 3 (some .boolean) 1 := ⟨(lwG_at 577 (by decide +kernel) (by decide +kernel)), lwG_at 576 (by decide +kernel) (by decide +kernel), lwG_sel 12 (by decide +kernel) (by decide +kernel), iw_X1, rfl, by decide +kernel, by decide +kernel, by decide +kernel⟩
theorem mu_X1_readBracket : MU RX1 yX1_readBracket cX1_readBracket 2 (some .boolean) 1 := ⟨(lwG_at 581 (by decide +kernel) (by decide +kernel)), lwG_at 580 (by decide +kernel) (by decide +kernel), lwG_sel 13 (by decide +kernel) (by decide +kernel), iw_X1, rfl, by decide +kernel, by decide +kernel, by decide +kernel⟩
theorem ms_X1_rankOf : MS yX1_rankOf cX1_rankOf 1 (some .int) 1 := ⟨(lwG_at 584 (by decide +kernel) (by decide +kernel)), lwG_at 583 (by decide +kernel) (by decide +kernel), iw_X1, by decide +kernel, by decide +kernel, by decide +kernel⟩
theorem mu_X0_take : MU RX0 yX0_take cX0_take 3 none 2 := ⟨(lwG_at 588 (by decide +kernel) (by decide +kernel)), lwG_at 586 (by decide +kernel) (by decide +kernel), lwG_at 587 (by decide +kernel) (by decide +kernel), iw_X0, rfl, by decide +kernel, by decide +kernel, by decide +kernel⟩
theorem mu_X6_untell : MU RX6 yX6_untell cX6_untell 3 (some .int) 1 := ⟨(lwG_at 595 (by decide +kernel) (by decide +kernel)), lwG_at 593 (by decide +kernel) (by decide +kernel), lwG_at 594 (by decide +kernel) (by decide +kernel), iw_X6, rfl, by decide +kernel, by decide +kernel, by decide +kernel⟩
theorem mu_X6_law : MU RX6 yX6_law cX6_law 5 (some .int) 4 := ⟨(lwG_at 599 (by decide +kernel) (by decide +kernel)), lwG_at 597 (by decide +kernel) (by decide +kernel), lwG_at 598 (by decide +kernel) (by decide +kernel), iw_X6, rfl, by decide +kernel, by decide +kernel, by decide +kernel⟩
theorem mu_X6_minutes : MU RX6 yX6_minutes cX6_minutes 2 (some .int) 1 := ⟨(lwG_at 605 (by decide +kernel) (by decide +kernel)), lwG_at 603 (by decide +kernel) (by decide +kernel), lwG_at 604 (by decide +kernel) (by decide +kernel), iw_X6, rfl, by decide +kernel, by decide +kernel, by decide +kernel⟩
theorem mu_X6_loose : MU RX6 yX6_loose cX6_loose 4 (some .int) 1 := ⟨(lwG_at 609 (by decide +kernel) (by decide +kernel)), lwG_at 607 (by decide +kernel) (by decide +kernel), lwG_at 608 (by decide +kernel) (by decide +kernel), iw_X6, rfl, by decide +kernel, by decide +kernel, by decide +kernel⟩
theorem mu_X3_jumpsByDraws : MU RX3 yX3_jumpsByDraws cX3_jumpsByDraws 3 (some .boolean) 0 := ⟨(lwG_at 613 (by decide +kernel) (by decide +kernel)), lwG_at 611 (by decide +kernel) (by decide +kernel), lwG_at 612 (by decide +kernel) (by decide +kernel), iw_X3, rfl, by decide +kernel, by decide +kernel, by decide +kernel⟩
theorem mu_X3_draw : MU RX3 yX3_draw cX3_draw 1 (some .int) 0 := ⟨(lwG_at 617 (by decide +kernel) (by decide +kernel)), lwG_at 615 (by decide +kernel) (by decide +kernel), lwG_at 616 (by decide +kernel) (by decide +kernel), iw_X3, rfl, by decide +kernel, by decide +kernel, by decide +kernel⟩
theorem mu_X6_seed : MU RX6 yX6_seed cX6_seed 3 (some .int) 1 := ⟨(lwG_at 623 (by decide +kernel) (by decide +kernel)), lwG_at 621 (by decide +kernel) (by decide +kernel), lwG_at 622 (by decide +kernel) (by decide +kernel), iw_X6, rfl, by decide +kernel, by decide +kernel, by decide +kernel⟩
theorem mu_X6_markAt : MU RX6 yX6_markAt cX6_markAt 3 (some .int) 2 := ⟨(lwG_at 627 (by decide +kernel) (by decide +kernel)), lwG_at 625 (by decide +kernel) (by decide +kernel), lwG_at 626 (by decide +kernel) (by decide +kernel), iw_X6, rfl, by decide +kernel, by decide +kernel, by decide +kernel⟩
theorem mu_X6_meet : MU RX6 yX6_meet cX6_meet 4 (some .int) 2 := ⟨(lwG_at 631 (by decide +kernel) (by decide +kernel)), lwG_at 629 (by decide +kernel) (by decide +kernel), lwG_at 630 (by decide +kernel) (by decide +kernel), iw_X6, rfl, by decide +kernel, by decide +kernel, by decide +kernel⟩
theorem mu_X6_council : MU RX6 yX6_council cX6_council 2 (some .int) 0 := ⟨(lwG_at 636 (by decide +kernel) (by decide +kernel)), lwG_at 634 (by decide +kernel) (by decide +kernel), lwG_at 635 (by decide +kernel) (by decide +kernel), iw_X6, rfl, by decide +kernel, by decide +kernel, by decide +kernel⟩
theorem mu_X3_allMeet : MU RX3 yX3_allMeet cX3_allMeet 4 (some .boolean) 1 := ⟨(lwG_at 640 (by decide +kernel) (by decide +kernel)), lwG_at 638 (by decide +kernel) (by decide +kernel), lwG_at 639 (by decide +kernel) (by decide +kernel), iw_X3, rfl, by decide +kernel, by decide +kernel, by decide +kernel⟩
theorem mu_X6_soonest : MU RX6 yX6_soonest cX6_soonest 4 (some .int) 2 := ⟨(lwG_at 644 (by decide +kernel) (by decide +kernel)), lwG_at 642 (by decide +kernel) (by decide +kernel), lwG_at 643 (by decide +kernel) (by decide +kernel), iw_X6, rfl, by decide +kernel, by decide +kernel, by decide +kernel⟩
theorem mu_X5_firstIn : MU RX5 yX5_firstIn cX5_firstIn 5 (some .int) 2 := ⟨(lwG_at 648 (by decide +kernel) (by decide +kernel)), lwG_at 646 (by decide +kernel) (by decide +kernel), lwG_at 647 (by decide +kernel) (by decide +kernel), iw_X5, rfl, by decide +kernel, by decide +kernel, by decide +kernel⟩
theorem mu_X6_rooms : MU RX6 yX6_rooms cX6_rooms 3 (some .int) 2 := ⟨(lwG_at 652 (by decide +kernel) (by decide +kernel)), lwG_at 650 (by decide +kernel) (by decide +kernel), lwG_at 651 (by decide +kernel) (by decide +kernel), iw_X6, rfl, by decide +kernel, by decide +kernel, by decide +kernel⟩
theorem mu_X6_watch : MU RX6 yX6_watch cX6_watch 6 (some .int) 4 := ⟨(lwG_at 656 (by decide +kernel) (by decide +kernel)), lwG_at 654 (by decide +kernel) (by decide +kernel), lwG_at 655 (by decide +kernel) (by decide +kernel), iw_X6, rfl, by decide +kernel, by decide +kernel, by decide +kernel⟩
theorem mu_X5_fewestShut : MU RX5 yX5_fewestShut cX5_fewestShut 10 (some .int) 3 := ⟨(lwG_at 660 (by decide +kernel) (by decide +kernel)), lwG_at 658 (by decide +kernel) (by decide +kernel), lwG_at 659 (by decide +kernel) (by decide +kernel), iw_X5, rfl, by decide +kernel, by decide +kernel, by decide +kernel⟩
theorem ms_J6_bitCount_0f7a4 : MS yJ6_bitCount_0f7a4 cJ6_bitCount_0f7a4 1 (some .int) 1 := ⟨(lwG_at 663 (by decide +kernel) (by decide +kernel)), lwG_at 662 (by decide +kernel) (by decide +kernel), iw_J6, by decide +kernel, by decide +kernel, by decide +kernel⟩
theorem mu_X5_keepsOut : MU RX5 yX5_keepsOut cX5_keepsOut 9 (some .boolean) 4 := ⟨(lwG_at 670 (by decide +kernel) (by decide +kernel)), lwG_at 669 (by decide +kernel) (by decide +kernel), lwG_sel 14 (by decide +kernel) (by decide +kernel), iw_X5, rfl, by decide +kernel, by decide +kernel, by decide +kernel⟩
theorem mu_X6_best : MU RX6 yX6_best cX6_best 5 (some .int) 3 := ⟨(lwG_at 675 (by decide +kernel) (by decide +kernel)), lwG_at 673 (by decide +kernel) (by decide +kernel), lwG_at 674 (by decide +kernel) (by decide +kernel), iw_X6, rfl, by decide +kernel, by decide +kernel, by decide +kernel⟩
theorem mu_X3_worthiest : MU RX3 yX3_worthiest cX3_worthiest 7 (some .int) 2 := ⟨(lwG_at 679 (by decide +kernel) (by decide +kernel)), lwG_at 677 (by decide +kernel) (by decide +kernel), lwG_at 678 (by decide +kernel) (by decide +kernel), iw_X3, rfl, by decide +kernel, by decide +kernel, by decide +kernel⟩
theorem mu_X6_odds : MU RX6 yX6_odds cX6_odds 6 (some .int) 3 := ⟨(lwG_at 686 (by decide +kernel) (by decide +kernel)), lwG_at 684 (by decide +kernel) (by decide +kernel), lwG_at 685 (by decide +kernel) (by decide +kernel), iw_X6, rfl, by decide +kernel, by decide +kernel, by decide +kernel⟩
theorem ms_X6_commonDivisor : MS yX6_commonDivisor cX6_commonDivisor 3 (some .int) 2 := ⟨(lwG_at 689 (by decide +kernel) (by decide +kernel)), lwG_at 688 (by decide +kernel) (by decide +kernel), iw_X6, by decide +kernel, by decide +kernel, by decide +kernel⟩
theorem mu_X6_fits : MU RX6 yX6_fits cX6_fits 5 (some .int) 1 := ⟨(lwG_at 693 (by decide +kernel) (by decide +kernel)), lwG_at 691 (by decide +kernel) (by decide +kernel), lwG_at 692 (by decide +kernel) (by decide +kernel), iw_X6, rfl, by decide +kernel, by decide +kernel, by decide +kernel⟩
theorem mu_X6_lackOf : MU RX6 yX6_lackOf cX6_lackOf 2 (some .int) 1 := ⟨(lwG_at 697 (by decide +kernel) (by decide +kernel)), lwG_at 696 (by decide +kernel) (by decide +kernel), lwG_sel 15 (by decide +kernel) (by decide +kernel), iw_X6, rfl, by decide +kernel, by decide +kernel, by decide +kernel⟩
theorem ms_X6_isSheet : MS yX6_isSheet cX6_isSheet 1 (some .boolean) 1 := ⟨(lwG_at 700 (by decide +kernel) (by decide +kernel)), lwG_at 699 (by decide +kernel) (by decide +kernel), iw_X6, by decide +kernel, by decide +kernel, by decide +kernel⟩
theorem mu_X2_isMissing : MU RX2 yX2_isMissing cX2_isMissing 1 (some .boolean) 0 := ⟨(lwG_at 704 (by decide +kernel) (by decide +kernel)), lwG_at 702 (by decide +kernel) (by decide +kernel), lwG_at 703 (by decide +kernel) (by decide +kernel), iw_X2, rfl, by decide +kernel, by decide +kernel, by decide +kernel⟩
theorem mu_X3_marksAre : MU RX3 yX3_marksAre cX3_marksAre 4 (some .boolean) 2 := ⟨(lwG_at 708 (by decide +kernel) (by decide +kernel)), lwG_at 706 (by decide +kernel) (by decide +kernel), lwG_at 707 (by decide +kernel) (by decide +kernel), iw_X3, rfl, by decide +kernel, by decide +kernel, by decide +kernel⟩
theorem mu_X6_voice : MU RX6 yX6_voice cX6_voice 5 (some .int) 3 := ⟨(lwG_at 712 (by decide +kernel) (by decide +kernel)), lwG_at 710 (by decide +kernel) (by decide +kernel), lwG_at 711 (by decide +kernel) (by decide +kernel), iw_X6, rfl, by decide +kernel, by decide +kernel, by decide +kernel⟩
theorem mu_X4_hear : MU RX4 yX4_hear cX4_hear 5 (some .int) 4 := ⟨(lwG_at 716 (by decide +kernel) (by decide +kernel)), lwG_at 714 (by decide +kernel) (by decide +kernel), lwG_at 715 (by decide +kernel) (by decide +kernel), iw_X4, rfl, by decide +kernel, by decide +kernel, by decide +kernel⟩
theorem mu_X4_call : MU RX4 yX4_call cX4_call 6 (some .int) 4 := ⟨(lwG_at 720 (by decide +kernel) (by decide +kernel)), lwG_at 719 (by decide +kernel) (by decide +kernel), lwG_sel 16 (by decide +kernel) (by decide +kernel), iw_X4, rfl, by decide +kernel, by decide +kernel, by decide +kernel⟩
theorem ms_X4_find : MS yX4_find cX4_find 5 (some .int) 2 := ⟨(lwG_at 723 (by decide +kernel) (by decide +kernel)), lwG_at 722 (by decide +kernel) (by decide +kernel), iw_X4, by decide +kernel, by decide +kernel, by decide +kernel⟩
theorem mu_X4_work : MU RX4 yX4_work cX4_work 5 (some .int) 3 := ⟨(lwG_at 730 (by decide +kernel) (by decide +kernel)), lwG_at 729 (by decide +kernel) (by decide +kernel), lwG_sel 17 (by decide +kernel) (by decide +kernel), iw_X4, rfl, by decide +kernel, by decide +kernel, by decide +kernel⟩
theorem mu_X4_part : MU RX4 yX4_part cX4_part 2 (some .int) 1 := ⟨(lwG_at 734 (by decide +kernel) (by decide +kernel)), lwG_at 733 (by decide +kernel) (by decide +kernel), lwG_sel 18 (by decide +kernel) (by decide +kernel), iw_X4, rfl, by decide +kernel, by decide +kernel, by decide +kernel⟩
theorem mu_X6_body : MU RX6 yX6_body cX6_body 2 (some .int) 1 := ⟨(lwG_at 738 (by decide +kernel) (by decide +kernel)), lwG_at 736 (by decide +kernel) (by decide +kernel), lwG_at 737 (by decide +kernel) (by decide +kernel), iw_X6, rfl, by decide +kernel, by decide +kernel, by decide +kernel⟩
theorem mu_X6_sheet : MU RX6 yX6_sheet cX6_sheet 4 (some .int) 3 := ⟨(lwG_at 742 (by decide +kernel) (by decide +kernel)), lwG_at 740 (by decide +kernel) (by decide +kernel), lwG_at 741 (by decide +kernel) (by decide +kernel), iw_X6, rfl, by decide +kernel, by decide +kernel, by decide +kernel⟩
theorem mu_X2_lay : MU RX2 yX2_lay cX2_lay 4 none 2 := ⟨(lwG_at 746 (by decide +kernel) (by decide +kernel)), lwG_at 744 (by decide +kernel) (by decide +kernel), lwG_at 745 (by decide +kernel) (by decide +kernel), iw_X2, rfl, by decide +kernel, by decide +kernel, by decide +kernel⟩
theorem mu_X6_put : MU RX6 yX6_put cX6_put 5 (some .int) 3 := ⟨(lwG_at 750 (by decide +kernel) (by decide +kernel)), lwG_at 748 (by decide +kernel) (by decide +kernel), lwG_at 749 (by decide +kernel) (by decide +kernel), iw_X6, rfl, by decide +kernel, by decide +kernel, by decide +kernel⟩
theorem mu_X2_holds : MU RX2 yX2_holds cX2_holds 3 (some .boolean) 2 := ⟨(lwG_at 754 (by decide +kernel) (by decide +kernel)), lwG_at 752 (by decide +kernel) (by decide +kernel), lwG_at 753 (by decide +kernel) (by decide +kernel), iw_X2, rfl, by decide +kernel, by decide +kernel, by decide +kernel⟩
theorem mu_X2_write : MU RX2 yX2_write cX2_write 3 none 2 := ⟨(lwG_at 758 (by decide +kernel) (by decide +kernel)), lwG_at 756 (by decide +kernel) (by decide +kernel), lwG_at 757 (by decide +kernel) (by decide +kernel), iw_X2, rfl, by decide +kernel, by decide +kernel, by decide +kernel⟩
theorem mu_X6_move : MU RX6 yX6_move cX6_move 8 (some .int) 5 := ⟨(lwG_at 762 (by decide +kernel) (by decide +kernel)), lwG_at 760 (by decide +kernel) (by decide +kernel), lwG_at 761 (by decide +kernel) (by decide +kernel), iw_X6, rfl, by decide +kernel, by decide +kernel, by decide +kernel⟩
theorem mu_X6_offsets : MU RX6 yX6_offsets cX6_offsets 3 (some .int) 1 := ⟨(lwG_at 767 (by decide +kernel) (by decide +kernel)), lwG_at 765 (by decide +kernel) (by decide +kernel), lwG_at 766 (by decide +kernel) (by decide +kernel), iw_X6, rfl, by decide +kernel, by decide +kernel, by decide +kernel⟩
theorem mu_X3_takeOffsets : MU RX3 yX3_takeOffsets cX3_takeOffsets 4 (some .int) 1 := ⟨(lwG_at 771 (by decide +kernel) (by decide +kernel)), lwG_at 769 (by decide +kernel) (by decide +kernel), lwG_at 770 (by decide +kernel) (by decide +kernel), iw_X3, rfl, by decide +kernel, by decide +kernel, by decide +kernel⟩
theorem mu_X6_judge : MU RX6 yX6_judge cX6_judge 3 (some .int) 1 := ⟨(lwG_at 775 (by decide +kernel) (by decide +kernel)), lwG_at 773 (by decide +kernel) (by decide +kernel), lwG_at 774 (by decide +kernel) (by decide +kernel), iw_X6, rfl, by decide +kernel, by decide +kernel, by decide +kernel⟩
theorem mu_X3_rightRooms : MU RX3 yX3_rightRooms cX3_rightRooms 4 (some .int) 1 := ⟨(lwG_at 779 (by decide +kernel) (by decide +kernel)), lwG_at 777 (by decide +kernel) (by decide +kernel), lwG_at 778 (by decide +kernel) (by decide +kernel), iw_X3, rfl, by decide +kernel, by decide +kernel, by decide +kernel⟩
theorem mu_X6_image : MU RX6 yX6_image cX6_image 1 (some .int) 0 := ⟨(lwG_at 783 (by decide +kernel) (by decide +kernel)), lwG_at 781 (by decide +kernel) (by decide +kernel), lwG_at 782 (by decide +kernel) (by decide +kernel), iw_X6, rfl, by decide +kernel, by decide +kernel, by decide +kernel⟩
theorem mu_X3_take : MU RX3 yX3_take cX3_take 3 none 1 := ⟨(lwG_at 787 (by decide +kernel) (by decide +kernel)), lwG_at 785 (by decide +kernel) (by decide +kernel), lwG_at 786 (by decide +kernel) (by decide +kernel), iw_X3, rfl, by decide +kernel, by decide +kernel, by decide +kernel⟩
theorem mu_X6_restore : MU RX6 yX6_restore cX6_restore 1 (some .int) 0 := ⟨(lwG_at 793 (by decide +kernel) (by decide +kernel)), lwG_at 791 (by decide +kernel) (by decide +kernel), lwG_at 792 (by decide +kernel) (by decide +kernel), iw_X6, rfl, by decide +kernel, by decide +kernel, by decide +kernel⟩
theorem mu_X6_tell : MU RX6 yX6_tell cX6_tell 2 (some .int) 1 := ⟨(lwG_at 797 (by decide +kernel) (by decide +kernel)), lwG_at 795 (by decide +kernel) (by decide +kernel), lwG_at 796 (by decide +kernel) (by decide +kernel), iw_X6, rfl, by decide +kernel, by decide +kernel, by decide +kernel⟩
theorem mu_X6_check : MU RX6 yX6_check cX6_check 2 (some .int) 0 := ⟨(lwG_at 801 (by decide +kernel) (by decide +kernel)), lwG_at 799 (by decide +kernel) (by decide +kernel), lwG_at 800 (by decide +kernel) (by decide +kernel), iw_X6, rfl, by decide +kernel, by decide +kernel, by decide +kernel⟩
theorem mu_X3_firstWrongMark : MU RX3 yX3_firstWrongMark cX3_firstWrongMark 2 (some .int) 0 := ⟨(lwG_at 805 (by decide +kernel) (by decide +kernel)), lwG_at 803 (by decide +kernel) (by decide +kernel), lwG_at 804 (by decide +kernel) (by decide +kernel), iw_X3, rfl, by decide +kernel, by decide +kernel, by decide +kernel⟩
theorem mu_X6_count : MU RX6 yX6_count cX6_count 2 (some .int) 1 := ⟨(lwG_at 810 (by decide +kernel) (by decide +kernel)), lwG_at 808 (by decide +kernel) (by decide +kernel), lwG_at 809 (by decide +kernel) (by decide +kernel), iw_X6, rfl, by decide +kernel, by decide +kernel, by decide +kernel⟩
theorem mu_X6_told : MU RX6 yX6_told cX6_told 2 (some .int) 1 := ⟨(lwG_at 814 (by decide +kernel) (by decide +kernel)), lwG_at 812 (by decide +kernel) (by decide +kernel), lwG_at 813 (by decide +kernel) (by decide +kernel), iw_X6, rfl, by decide +kernel, by decide +kernel, by decide +kernel⟩
theorem mi_X7_init : MI yX7_init cX7_init 1 0 := ⟨(lwG_at 819 (by decide +kernel) (by decide +kernel)), lwG_at 818 (by decide +kernel) (by decide +kernel), iw_X7, by decide +kernel, by decide +kernel, by decide +kernel⟩
theorem mu_X7_hand : MU RX7 yX7_hand cX7_hand 4 (some .int) 2 := ⟨(lwG_at 885 (by decide +kernel) (by decide +kernel)), lwG_at 883 (by decide +kernel) (by decide +kernel), lwG_at 884 (by decide +kernel) (by decide +kernel), iw_X7, rfl, by decide +kernel, by decide +kernel, by decide +kernel⟩
theorem ms_X7_in : MS yX7_in cX7_in 3 (some .boolean) 3 := ⟨(lwG_at 888 (by decide +kernel) (by decide +kernel)), lwG_at 887 (by decide +kernel) (by decide +kernel), iw_X7, by decide +kernel, by decide +kernel, by decide +kernel⟩
theorem mu_X7_error : MU RX7 yX7_error cX7_error 2 (some .int) 1 := ⟨(lwG_at 893 (by decide +kernel) (by decide +kernel)), lwG_at 892 (by decide +kernel) (by decide +kernel), lwG_sel 19 (by decide +kernel) (by decide +kernel), iw_X7, rfl, by decide +kernel, by decide +kernel, by decide +kernel⟩
theorem mu_X7_handIs : MU RX7 yX7_handIs cX7_handIs 3 (some .int) 2 := ⟨(lwG_at 899 (by decide +kernel) (by decide +kernel)), lwG_at 897 (by decide +kernel) (by decide +kernel), lwG_at 898 (by decide +kernel) (by decide +kernel), iw_X7, rfl, by decide +kernel, by decide +kernel, by decide +kernel⟩
theorem mu_X7_isHand : MU RX7 yX7_isHand cX7_isHand 2 (some .boolean) 1 := ⟨(lwG_at 903 (by decide +kernel) (by decide +kernel)), lwG_at 902 (by decide +kernel) (by decide +kernel), lwG_sel 20 (by decide +kernel) (by decide +kernel), iw_X7, rfl, by decide +kernel, by decide +kernel, by decide +kernel⟩
theorem mu_X7_markOf : MU RX7 yX7_markOf cX7_markOf 4 (some .int) 2 := ⟨(lwG_at 907 (by decide +kernel) (by decide +kernel)), lwG_at 906 (by decide +kernel) (by decide +kernel), lwG_sel 21 (by decide +kernel) (by decide +kernel), iw_X7, rfl, by decide +kernel, by decide +kernel, by decide +kernel⟩
theorem mu_X7_homesOn : MU RX7 yX7_homesOn cX7_homesOn 4 (some .int) 1 := ⟨(lwG_at 911 (by decide +kernel) (by decide +kernel)), lwG_at 910 (by decide +kernel) (by decide +kernel), lwG_sel 22 (by decide +kernel) (by decide +kernel), iw_X7, rfl, by decide +kernel, by decide +kernel, by decide +kernel⟩
theorem mu_X7_frost : MU RX7 yX7_frost cX7_frost 5 (some .int) 2 := ⟨(lwG_at 915 (by decide +kernel) (by decide +kernel)), lwG_at 913 (by decide +kernel) (by decide +kernel), lwG_at 914 (by decide +kernel) (by decide +kernel), iw_X7, rfl, by decide +kernel, by decide +kernel, by decide +kernel⟩
theorem mu_X7_home : MU RX7 yX7_home cX7_home 4 (some .int) 2 := ⟨(lwG_at 919 (by decide +kernel) (by decide +kernel)), lwG_at 917 (by decide +kernel) (by decide +kernel), lwG_at 918 (by decide +kernel) (by decide +kernel), iw_X7, rfl, by decide +kernel, by decide +kernel, by decide +kernel⟩
theorem mu_X7_homeIs : MU RX7 yX7_homeIs cX7_homeIs 3 (some .int) 2 := ⟨(lwG_at 923 (by decide +kernel) (by decide +kernel)), lwG_at 921 (by decide +kernel) (by decide +kernel), lwG_at 922 (by decide +kernel) (by decide +kernel), iw_X7, rfl, by decide +kernel, by decide +kernel, by decide +kernel⟩
theorem mu_X7_isHome : MU RX7 yX7_isHome cX7_isHome 2 (some .boolean) 1 := ⟨(lwG_at 927 (by decide +kernel) (by decide +kernel)), lwG_at 926 (by decide +kernel) (by decide +kernel), lwG_sel 23 (by decide +kernel) (by decide +kernel), iw_X7, rfl, by decide +kernel, by decide +kernel, by decide +kernel⟩
theorem mu_X7_worthOf : MU RX7 yX7_worthOf cX7_worthOf 3 (some .int) 2 := ⟨(lwG_at 931 (by decide +kernel) (by decide +kernel)), lwG_at 930 (by decide +kernel) (by decide +kernel), lwG_sel 24 (by decide +kernel) (by decide +kernel), iw_X7, rfl, by decide +kernel, by decide +kernel, by decide +kernel⟩
theorem mu_X7_gives : MU RX7 yX7_gives cX7_gives 7 (some .int) 4 := ⟨(lwG_at 935 (by decide +kernel) (by decide +kernel)), lwG_at 934 (by decide +kernel) (by decide +kernel), lwG_sel 25 (by decide +kernel) (by decide +kernel), iw_X7, rfl, by decide +kernel, by decide +kernel, by decide +kernel⟩
theorem mu_X7_works : MU RX7 yX7_works cX7_works 5 (some .int) 1 := ⟨(lwG_at 939 (by decide +kernel) (by decide +kernel)), lwG_at 938 (by decide +kernel) (by decide +kernel), lwG_sel 26 (by decide +kernel) (by decide +kernel), iw_X7, rfl, by decide +kernel, by decide +kernel, by decide +kernel⟩
theorem ms_X7_twoOf : MS yX7_twoOf cX7_twoOf 3 (some .int) 3 := ⟨(lwG_at 942 (by decide +kernel) (by decide +kernel)), lwG_at 941 (by decide +kernel) (by decide +kernel), iw_X7, by decide +kernel, by decide +kernel, by decide +kernel⟩
theorem ms_X7_held : MS yX7_held cX7_held 3 (some .int) 3 := ⟨(lwG_at 945 (by decide +kernel) (by decide +kernel)), lwG_at 944 (by decide +kernel) (by decide +kernel), iw_X7, by decide +kernel, by decide +kernel, by decide +kernel⟩
theorem mu_X7_whoIn : MU RX7 yX7_whoIn cX7_whoIn 4 (some .int) 1 := ⟨(lwG_at 949 (by decide +kernel) (by decide +kernel)), lwG_at 948 (by decide +kernel) (by decide +kernel), lwG_sel 27 (by decide +kernel) (by decide +kernel), iw_X7, rfl, by decide +kernel, by decide +kernel, by decide +kernel⟩
theorem mu_X7_of : MU RX7 yX7_of cX7_of 3 (some .int) 2 := ⟨(lwG_at 953 (by decide +kernel) (by decide +kernel)), lwG_at 952 (by decide +kernel) (by decide +kernel), lwG_sel 28 (by decide +kernel) (by decide +kernel), iw_X7, rfl, by decide +kernel, by decide +kernel, by decide +kernel⟩
theorem mu_X7_person : MU RX7 yX7_person cX7_person 4 (some .int) 2 := ⟨(lwG_at 957 (by decide +kernel) (by decide +kernel)), lwG_at 955 (by decide +kernel) (by decide +kernel), lwG_at 956 (by decide +kernel) (by decide +kernel), iw_X7, rfl, by decide +kernel, by decide +kernel, by decide +kernel⟩
theorem ms_X7_isKm : MS yX7_isKm cX7_isKm 1 (some .boolean) 1 := ⟨(lwG_at 960 (by decide +kernel) (by decide +kernel)), lwG_at 959 (by decide +kernel) (by decide +kernel), iw_X7, by decide +kernel, by decide +kernel, by decide +kernel⟩
theorem mu_X7_personIs : MU RX7 yX7_personIs cX7_personIs 3 (some .int) 2 := ⟨(lwG_at 964 (by decide +kernel) (by decide +kernel)), lwG_at 962 (by decide +kernel) (by decide +kernel), lwG_at 963 (by decide +kernel) (by decide +kernel), iw_X7, rfl, by decide +kernel, by decide +kernel, by decide +kernel⟩
theorem mu_X7_isPerson : MU RX7 yX7_isPerson cX7_isPerson 2 (some .boolean) 1 := ⟨(lwG_at 968 (by decide +kernel) (by decide +kernel)), lwG_at 967 (by decide +kernel) (by decide +kernel), lwG_sel 29 (by decide +kernel) (by decide +kernel), iw_X7, rfl, by decide +kernel, by decide +kernel, by decide +kernel⟩
theorem mu_X7_leapsOf : MU RX7 yX7_leapsOf cX7_leapsOf 5 (some .int) 2 := ⟨(lwG_at 972 (by decide +kernel) (by decide +kernel)), lwG_at 971 (by decide +kernel) (by decide +kernel), lwG_sel 30 (by decide +kernel) (by decide +kernel), iw_X7, rfl, by decide +kernel, by decide +kernel, by decide +kernel⟩
theorem mu_X7_spansOf : MU RX7 yX7_spansOf cX7_spansOf 3 (some .int) 1 := ⟨(lwG_at 976 (by decide +kernel) (by decide +kernel)), lwG_at 975 (by decide +kernel) (by decide +kernel), lwG_sel 31 (by decide +kernel) (by decide +kernel), iw_X7, rfl, by decide +kernel, by decide +kernel, by decide +kernel⟩
theorem mu_X7_roomsBy : MU RX7 yX7_roomsBy cX7_roomsBy 5 (some .int) 2 := ⟨(lwG_at 980 (by decide +kernel) (by decide +kernel)), lwG_at 979 (by decide +kernel) (by decide +kernel), lwG_sel 32 (by decide +kernel) (by decide +kernel), iw_X7, rfl, by decide +kernel, by decide +kernel, by decide +kernel⟩
theorem mu_X7_onward : MU RX7 yX7_onward cX7_onward 9 (some .int) 3 := ⟨(lwG_at 984 (by decide +kernel) (by decide +kernel)), lwG_at 983 (by decide +kernel) (by decide +kernel), lwG_sel 33 (by decide +kernel) (by decide +kernel), iw_X7, rfl, by decide +kernel, by decide +kernel, by decide +kernel⟩
theorem mu_X7_isInReach : MU RX7 yX7_isInReach cX7_isInReach 8 (some .boolean) 5 := ⟨(lwG_at 988 (by decide +kernel) (by decide +kernel)), lwG_at 987 (by decide +kernel) (by decide +kernel), lwG_sel 34 (by decide +kernel) (by decide +kernel), iw_X7, rfl, by decide +kernel, by decide +kernel, by decide +kernel⟩
theorem mu_X7_apart : MU RX7 yX7_apart cX7_apart 5 (some .int) 3 := ⟨(lwG_at 992 (by decide +kernel) (by decide +kernel)), lwG_at 991 (by decide +kernel) (by decide +kernel), lwG_sel 35 (by decide +kernel) (by decide +kernel), iw_X7, rfl, by decide +kernel, by decide +kernel, by decide +kernel⟩
theorem mu_X7_become : MU RX7 yX7_become cX7_become 3 (some .int) 2 := ⟨(lwG_at 996 (by decide +kernel) (by decide +kernel)), lwG_at 994 (by decide +kernel) (by decide +kernel), lwG_at 995 (by decide +kernel) (by decide +kernel), iw_X7, rfl, by decide +kernel, by decide +kernel, by decide +kernel⟩
theorem mu_X7_becomes : MU RX7 yX7_becomes cX7_becomes 4 (some .int) 2 := ⟨(lwG_at 1000 (by decide +kernel) (by decide +kernel)), lwG_at 999 (by decide +kernel) (by decide +kernel), lwG_sel 36 (by decide +kernel) (by decide +kernel), iw_X7, rfl, by decide +kernel, by decide +kernel, by decide +kernel⟩
theorem mu_X7_as : MU RX7 yX7_as cX7_as 5 (some .int) 2 := ⟨(lwG_at 1004 (by decide +kernel) (by decide +kernel)), lwG_at 1002 (by decide +kernel) (by decide +kernel), lwG_at 1003 (by decide +kernel) (by decide +kernel), iw_X7, rfl, by decide +kernel, by decide +kernel, by decide +kernel⟩
theorem mu_X7_jump : MU RX7 yX7_jump cX7_jump 4 (some .int) 2 := ⟨(lwG_at 1009 (by decide +kernel) (by decide +kernel)), lwG_at 1007 (by decide +kernel) (by decide +kernel), lwG_at 1008 (by decide +kernel) (by decide +kernel), iw_X7, rfl, by decide +kernel, by decide +kernel, by decide +kernel⟩
theorem mu_X7_doesGet : MU RX7 yX7_doesGet cX7_doesGet 5 (some .boolean) 4 := ⟨(lwG_at 1013 (by decide +kernel) (by decide +kernel)), lwG_at 1012 (by decide +kernel) (by decide +kernel), lwG_sel 37 (by decide +kernel) (by decide +kernel), iw_X7, rfl, by decide +kernel, by decide +kernel, by decide +kernel⟩
theorem mu_X7_feed : MU RX7 yX7_feed cX7_feed 5 (some .int) 2 := ⟨(lwG_at 1018 (by decide +kernel) (by decide +kernel)), lwG_at 1016 (by decide +kernel) (by decide +kernel), lwG_at 1017 (by decide +kernel) (by decide +kernel), iw_X7, rfl, by decide +kernel, by decide +kernel, by decide +kernel⟩
theorem mu_X7_text : MU RX7 yX7_text cX7_text 4 (some .int) 1 := ⟨(lwG_at 1023 (by decide +kernel) (by decide +kernel)), lwG_at 1021 (by decide +kernel) (by decide +kernel), lwG_at 1022 (by decide +kernel) (by decide +kernel), iw_X7, rfl, by decide +kernel, by decide +kernel, by decide +kernel⟩
theorem mu_X7_any : MU RX7 yX7_any cX7_any 1 none 0 := ⟨(lwG_at 1027 (by decide +kernel) (by decide +kernel)), lwG_at 1026 (by decide +kernel) (by decide +kernel), lwG_sel 38 (by decide +kernel) (by decide +kernel), iw_X7, rfl, by decide +kernel, by decide +kernel, by decide +kernel⟩
theorem mu_X7_all : MU RX7 yX7_all cX7_all 1 none 0 := ⟨(lwG_at 1031 (by decide +kernel) (by decide +kernel)), lwG_at 1030 (by decide +kernel) (by decide +kernel), lwG_sel 39 (by decide +kernel) (by decide +kernel), iw_X7, rfl, by decide +kernel, by decide +kernel, by decide +kernel⟩
theorem mu_X7_compares : MU RX7 yX7_compares cX7_compares 2 none 0 := ⟨(lwG_at 1035 (by decide +kernel) (by decide +kernel)), lwG_at 1034 (by decide +kernel) (by decide +kernel), lwG_sel 40 (by decide +kernel) (by decide +kernel), iw_X7, rfl, by decide +kernel, by decide +kernel, by decide +kernel⟩
theorem mu_X7_sum : MU RX7 yX7_sum cX7_sum 2 none 0 := ⟨(lwG_at 1039 (by decide +kernel) (by decide +kernel)), lwG_at 1038 (by decide +kernel) (by decide +kernel), lwG_sel 41 (by decide +kernel) (by decide +kernel), iw_X7, rfl, by decide +kernel, by decide +kernel, by decide +kernel⟩
theorem mu_X7_times : MU RX7 yX7_times cX7_times 2 none 0 := ⟨(lwG_at 1043 (by decide +kernel) (by decide +kernel)), lwG_at 1042 (by decide +kernel) (by decide +kernel), lwG_sel 42 (by decide +kernel) (by decide +kernel), iw_X7, rfl, by decide +kernel, by decide +kernel, by decide +kernel⟩
theorem mu_X7_one : MU RX7 yX7_one cX7_one 3 none 0 := ⟨(lwG_at 1047 (by decide +kernel) (by decide +kernel)), lwG_at 1046 (by decide +kernel) (by decide +kernel), lwG_sel 43 (by decide +kernel) (by decide +kernel), iw_X7, rfl, by decide +kernel, by decide +kernel, by decide +kernel⟩
theorem mu_X7_look : MU RX7 yX7_look cX7_look 1 (some .int) 0 := ⟨(lwG_at 1051 (by decide +kernel) (by decide +kernel)), lwG_at 1050 (by decide +kernel) (by decide +kernel), lwG_sel 44 (by decide +kernel) (by decide +kernel), iw_X7, rfl, by decide +kernel, by decide +kernel, by decide +kernel⟩
theorem mu_X7_nameOf : MU RX7 yX7_nameOf cX7_nameOf 2 (some .int) 1 := ⟨(lwG_at 1055 (by decide +kernel) (by decide +kernel)), lwG_at 1054 (by decide +kernel) (by decide +kernel), lwG_sel 45 (by decide +kernel) (by decide +kernel), iw_X7, rfl, by decide +kernel, by decide +kernel, by decide +kernel⟩
theorem mu_X7_step : MU RX7 yX7_step cX7_step 3 none 2 := ⟨(lwG_at 1059 (by decide +kernel) (by decide +kernel)), lwG_at 1058 (by decide +kernel) (by decide +kernel), lwG_sel 46 (by decide +kernel) (by decide +kernel), iw_X7, rfl, by decide +kernel, by decide +kernel, by decide +kernel⟩
theorem mu_X7_opens : MU RX7 yX7_opens cX7_opens 2 none 1 := ⟨(lwG_at 1063 (by decide +kernel) (by decide +kernel)), lwG_at 1062 (by decide +kernel) (by decide +kernel), lwG_sel 47 (by decide +kernel) (by decide +kernel), iw_X7, rfl, by decide +kernel, by decide +kernel, by decide +kernel⟩
theorem mu_X7_number : MU RX7 yX7_number cX7_number 3 none 0 := ⟨(lwG_at 1067 (by decide +kernel) (by decide +kernel)), lwG_at 1066 (by decide +kernel) (by decide +kernel), lwG_sel 48 (by decide +kernel) (by decide +kernel), iw_X7, rfl, by decide +kernel, by decide +kernel, by decide +kernel⟩
theorem mu_X7_untell : MU RX7 yX7_untell cX7_untell 2 (some .int) 1 := ⟨(lwG_at 1071 (by decide +kernel) (by decide +kernel)), lwG_at 1069 (by decide +kernel) (by decide +kernel), lwG_at 1070 (by decide +kernel) (by decide +kernel), iw_X7, rfl, by decide +kernel, by decide +kernel, by decide +kernel⟩
theorem mu_X7_law : MU RX7 yX7_law cX7_law 5 (some .int) 4 := ⟨(lwG_at 1075 (by decide +kernel) (by decide +kernel)), lwG_at 1073 (by decide +kernel) (by decide +kernel), lwG_at 1074 (by decide +kernel) (by decide +kernel), iw_X7, rfl, by decide +kernel, by decide +kernel, by decide +kernel⟩
theorem mu_X7_minutes : MU RX7 yX7_minutes cX7_minutes 2 (some .int) 1 := ⟨(lwG_at 1079 (by decide +kernel) (by decide +kernel)), lwG_at 1077 (by decide +kernel) (by decide +kernel), lwG_at 1078 (by decide +kernel) (by decide +kernel), iw_X7, rfl, by decide +kernel, by decide +kernel, by decide +kernel⟩
theorem mu_X7_loose : MU RX7 yX7_loose cX7_loose 4 (some .int) 1 := ⟨(lwG_at 1083 (by decide +kernel) (by decide +kernel)), lwG_at 1081 (by decide +kernel) (by decide +kernel), lwG_at 1082 (by decide +kernel) (by decide +kernel), iw_X7, rfl, by decide +kernel, by decide +kernel, by decide +kernel⟩
theorem mu_X7_drawn : MU RX7 yX7_drawn cX7_drawn 4 (some .int) 0 := ⟨(lwG_at 1087 (by decide +kernel) (by decide +kernel)), lwG_at 1086 (by decide +kernel) (by decide +kernel), lwG_sel 49 (by decide +kernel) (by decide +kernel), iw_X7, rfl, by decide +kernel, by decide +kernel, by decide +kernel⟩
theorem mu_X7_draw : MU RX7 yX7_draw cX7_draw 1 (some .int) 0 := ⟨(lwG_at 1091 (by decide +kernel) (by decide +kernel)), lwG_at 1090 (by decide +kernel) (by decide +kernel), lwG_sel 50 (by decide +kernel) (by decide +kernel), iw_X7, rfl, by decide +kernel, by decide +kernel, by decide +kernel⟩
theorem mu_X7_seed : MU RX7 yX7_seed cX7_seed 2 (some .int) 1 := ⟨(lwG_at 1096 (by decide +kernel) (by decide +kernel)), lwG_at 1094 (by decide +kernel) (by decide +kernel), lwG_at 1095 (by decide +kernel) (by decide +kernel), iw_X7, rfl, by decide +kernel, by decide +kernel, by decide +kernel⟩
theorem mu_X7_markAt : MU RX7 yX7_markAt cX7_markAt 3 (some .int) 2 := ⟨(lwG_at 1100 (by decide +kernel) (by decide +kernel)), lwG_at 1098 (by decide +kernel) (by decide +kernel), lwG_at 1099 (by decide +kernel) (by decide +kernel), iw_X7, rfl, by decide +kernel, by decide +kernel, by decide +kernel⟩
theorem mu_X7_meet : MU RX7 yX7_meet cX7_meet 4 (some .int) 2 := ⟨(lwG_at 1104 (by decide +kernel) (by decide +kernel)), lwG_at 1102 (by decide +kernel) (by decide +kernel), lwG_at 1103 (by decide +kernel) (by decide +kernel), iw_X7, rfl, by decide +kernel, by decide +kernel, by decide +kernel⟩
theorem mu_X7_council : MU RX7 yX7_council cX7_council 2 (some .int) 0 := ⟨(lwG_at 1109 (by decide +kernel) (by decide +kernel)), lwG_at 1107 (by decide +kernel) (by decide +kernel), lwG_at 1108 (by decide +kernel) (by decide +kernel), iw_X7, rfl, by decide +kernel, by decide +kernel, by decide +kernel⟩
theorem mu_X7_doAllMeet : MU RX7 yX7_doAllMeet cX7_doAllMeet 4 (some .boolean) 1 := ⟨(lwG_at 1113 (by decide +kernel) (by decide +kernel)), lwG_at 1112 (by decide +kernel) (by decide +kernel), lwG_sel 51 (by decide +kernel) (by decide +kernel), iw_X7, rfl, by decide +kernel, by decide +kernel, by decide +kernel⟩
theorem mu_X7_soonest : MU RX7 yX7_soonest cX7_soonest 5 (some .int) 2 := ⟨(lwG_at 1117 (by decide +kernel) (by decide +kernel)), lwG_at 1115 (by decide +kernel) (by decide +kernel), lwG_at 1116 (by decide +kernel) (by decide +kernel), iw_X7, rfl, by decide +kernel, by decide +kernel, by decide +kernel⟩
theorem mu_X7_rooms : MU RX7 yX7_rooms cX7_rooms 3 (some .int) 2 := ⟨(lwG_at 1121 (by decide +kernel) (by decide +kernel)), lwG_at 1119 (by decide +kernel) (by decide +kernel), lwG_at 1120 (by decide +kernel) (by decide +kernel), iw_X7, rfl, by decide +kernel, by decide +kernel, by decide +kernel⟩
theorem mu_X7_watch : MU RX7 yX7_watch cX7_watch 8 (some .int) 4 := ⟨(lwG_at 1125 (by decide +kernel) (by decide +kernel)), lwG_at 1123 (by decide +kernel) (by decide +kernel), lwG_at 1124 (by decide +kernel) (by decide +kernel), iw_X7, rfl, by decide +kernel, by decide +kernel, by decide +kernel⟩
theorem mu_X7_findReach : MU RX7 yX7_findReach cX7_findReach 9 none 2 := ⟨(lwG_at 1129 (by decide +kernel) (by decide +kernel)), lwG_at 1128 (by decide +kernel) (by decide +kernel), lwG_sel 52 (by decide +kernel) (by decide +kernel), iw_X7, rfl, by decide +kernel, by decide +kernel, by decide +kernel⟩
theorem ms_X7_bits : MS yX7_bits cX7_bits 3 (some .int) 1 := ⟨(lwG_at 1132 (by decide +kernel) (by decide +kernel)), lwG_at 1131 (by decide +kernel) (by decide +kernel), iw_X7, by decide +kernel, by decide +kernel, by decide +kernel⟩
theorem mu_X7_roomsBut : MU RX7 yX7_roomsBut cX7_roomsBut 8 (some .int) 3 := ⟨(lwG_at 1136 (by decide +kernel) (by decide +kernel)), lwG_at 1135 (by decide +kernel) (by decide +kernel), lwG_sel 53 (by decide +kernel) (by decide +kernel), iw_X7, rfl, by decide +kernel, by decide +kernel, by decide +kernel⟩
theorem mu_X7_best : MU RX7 yX7_best cX7_best 9 (some .int) 3 := ⟨(lwG_at 1140 (by decide +kernel) (by decide +kernel)), lwG_at 1138 (by decide +kernel) (by decide +kernel), lwG_at 1139 (by decide +kernel) (by decide +kernel), iw_X7, rfl, by decide +kernel, by decide +kernel, by decide +kernel⟩
theorem mu_X7_odds : MU RX7 yX7_odds cX7_odds 8 (some .int) 3 := ⟨(lwG_at 1144 (by decide +kernel) (by decide +kernel)), lwG_at 1142 (by decide +kernel) (by decide +kernel), lwG_at 1143 (by decide +kernel) (by decide +kernel), iw_X7, rfl, by decide +kernel, by decide +kernel, by decide +kernel⟩
theorem mu_X7_fits : MU RX7 yX7_fits cX7_fits 7 (some .int) 1 := ⟨(lwG_at 1148 (by decide +kernel) (by decide +kernel)), lwG_at 1146 (by decide +kernel) (by decide +kernel), lwG_at 1147 (by decide +kernel) (by decide +kernel), iw_X7, rfl, by decide +kernel, by decide +kernel, by decide +kernel⟩
theorem mu_X7_notThere : MU RX7 yX7_notThere cX7_notThere 2 (some .int) 1 := ⟨(lwG_at 1152 (by decide +kernel) (by decide +kernel)), lwG_at 1151 (by decide +kernel) (by decide +kernel), lwG_sel 54 (by decide +kernel) (by decide +kernel), iw_X7, rfl, by decide +kernel, by decide +kernel, by decide +kernel⟩
theorem ms_X7_isSheet : MS yX7_isSheet cX7_isSheet 1 (some .boolean) 1 := ⟨(lwG_at 1155 (by decide +kernel) (by decide +kernel)), lwG_at 1154 (by decide +kernel) (by decide +kernel), iw_X7, by decide +kernel, by decide +kernel, by decide +kernel⟩
theorem mu_X7_voice : MU RX7 yX7_voice cX7_voice 5 (some .int) 3 := ⟨(lwG_at 1159 (by decide +kernel) (by decide +kernel)), lwG_at 1157 (by decide +kernel) (by decide +kernel), lwG_at 1158 (by decide +kernel) (by decide +kernel), iw_X7, rfl, by decide +kernel, by decide +kernel, by decide +kernel⟩
theorem mu_X7_hails : MU RX7 yX7_hails cX7_hails 3 (some .int) 2 := ⟨(lwG_at 1163 (by decide +kernel) (by decide +kernel)), lwG_at 1162 (by decide +kernel) (by decide +kernel), lwG_sel 55 (by decide +kernel) (by decide +kernel), iw_X7, rfl, by decide +kernel, by decide +kernel, by decide +kernel⟩
theorem mu_X7_jumperHails : MU RX7 yX7_jumperHails cX7_jumperHails 3 (some .int) 2 := ⟨(lwG_at 1167 (by decide +kernel) (by decide +kernel)), lwG_at 1166 (by decide +kernel) (by decide +kernel), lwG_sel 56 (by decide +kernel) (by decide +kernel), iw_X7, rfl, by decide +kernel, by decide +kernel, by decide +kernel⟩
theorem mu_X7_begins : MU RX7 yX7_begins cX7_begins 2 none 1 := ⟨(lwG_at 1171 (by decide +kernel) (by decide +kernel)), lwG_at 1170 (by decide +kernel) (by decide +kernel), lwG_sel 57 (by decide +kernel) (by decide +kernel), iw_X7, rfl, by decide +kernel, by decide +kernel, by decide +kernel⟩
theorem mu_X7_plainHails : MU RX7 yX7_plainHails cX7_plainHails 3 (some .int) 2 := ⟨(lwG_at 1175 (by decide +kernel) (by decide +kernel)), lwG_at 1174 (by decide +kernel) (by decide +kernel), lwG_sel 58 (by decide +kernel) (by decide +kernel), iw_X7, rfl, by decide +kernel, by decide +kernel, by decide +kernel⟩
theorem mu_X7_bows : MU RX7 yX7_bows cX7_bows 3 (some .int) 2 := ⟨(lwG_at 1179 (by decide +kernel) (by decide +kernel)), lwG_at 1178 (by decide +kernel) (by decide +kernel), lwG_sel 59 (by decide +kernel) (by decide +kernel), iw_X7, rfl, by decide +kernel, by decide +kernel, by decide +kernel⟩
theorem mu_X7_widowBows : MU RX7 yX7_widowBows cX7_widowBows 3 (some .int) 2 := ⟨(lwG_at 1183 (by decide +kernel) (by decide +kernel)), lwG_at 1182 (by decide +kernel) (by decide +kernel), lwG_sel 60 (by decide +kernel) (by decide +kernel), iw_X7, rfl, by decide +kernel, by decide +kernel, by decide +kernel⟩
theorem mu_X7_plainBows : MU RX7 yX7_plainBows cX7_plainBows 3 (some .int) 2 := ⟨(lwG_at 1187 (by decide +kernel) (by decide +kernel)), lwG_at 1186 (by decide +kernel) (by decide +kernel), lwG_sel 61 (by decide +kernel) (by decide +kernel), iw_X7, rfl, by decide +kernel, by decide +kernel, by decide +kernel⟩
theorem mu_X7_rings : MU RX7 yX7_rings cX7_rings 3 (some .int) 2 := ⟨(lwG_at 1191 (by decide +kernel) (by decide +kernel)), lwG_at 1190 (by decide +kernel) (by decide +kernel), lwG_sel 62 (by decide +kernel) (by decide +kernel), iw_X7, rfl, by decide +kernel, by decide +kernel, by decide +kernel⟩
theorem mu_X7_plainRings : MU RX7 yX7_plainRings cX7_plainRings 3 (some .int) 2 := ⟨(lwG_at 1195 (by decide +kernel) (by decide +kernel)), lwG_at 1194 (by decide +kernel) (by decide +kernel), lwG_sel 63 (by decide +kernel) (by decide +kernel), iw_X7, rfl, by decide +kernel, by decide +kernel, by decide +kernel⟩
theorem mu_X7_parts : MU RX7 yX7_parts cX7_parts 4 (some .int) 2 := ⟨(lwG_at 1199 (by decide +kernel) (by decide +kernel)), lwG_at 1198 (by decide +kernel) (by decide +kernel), lwG_sel 64 (by decide +kernel) (by decide +kernel), iw_X7, rfl, by decide +kernel, by decide +kernel, by decide +kernel⟩
theorem mu_X7_plainParts : MU RX7 yX7_plainParts cX7_plainParts 4 (some .int) 2 := ⟨(lwG_at 1203 (by decide +kernel) (by decide +kernel)), lwG_at 1202 (by decide +kernel) (by decide +kernel), lwG_sel 65 (by decide +kernel) (by decide +kernel), iw_X7, rfl, by decide +kernel, by decide +kernel, by decide +kernel⟩
theorem mu_X7_body : MU RX7 yX7_body cX7_body 2 (some .int) 1 := ⟨(lwG_at 1208 (by decide +kernel) (by decide +kernel)), lwG_at 1206 (by decide +kernel) (by decide +kernel), lwG_at 1207 (by decide +kernel) (by decide +kernel), iw_X7, rfl, by decide +kernel, by decide +kernel, by decide +kernel⟩
theorem mu_X7_sheet : MU RX7 yX7_sheet cX7_sheet 5 (some .int) 3 := ⟨(lwG_at 1212 (by decide +kernel) (by decide +kernel)), lwG_at 1210 (by decide +kernel) (by decide +kernel), lwG_at 1211 (by decide +kernel) (by decide +kernel), iw_X7, rfl, by decide +kernel, by decide +kernel, by decide +kernel⟩
theorem mu_X7_put : MU RX7 yX7_put cX7_put 5 (some .int) 3 := ⟨(lwG_at 1216 (by decide +kernel) (by decide +kernel)), lwG_at 1214 (by decide +kernel) (by decide +kernel), lwG_at 1215 (by decide +kernel) (by decide +kernel), iw_X7, rfl, by decide +kernel, by decide +kernel, by decide +kernel⟩
theorem mu_X7_move : MU RX7 yX7_move cX7_move 9 (some .int) 5 := ⟨(lwG_at 1220 (by decide +kernel) (by decide +kernel)), lwG_at 1218 (by decide +kernel) (by decide +kernel), lwG_at 1219 (by decide +kernel) (by decide +kernel), iw_X7, rfl, by decide +kernel, by decide +kernel, by decide +kernel⟩
theorem mu_X7_notMoved : MU RX7 yX7_notMoved cX7_notMoved 7 (some .int) 5 := ⟨(lwG_at 1224 (by decide +kernel) (by decide +kernel)), lwG_at 1223 (by decide +kernel) (by decide +kernel), lwG_sel 66 (by decide +kernel) (by decide +kernel), iw_X7, rfl, by decide +kernel, by decide +kernel, by decide +kernel⟩
theorem mu_X7_offsets : MU RX7 yX7_offsets cX7_offsets 4 (some .int) 1 := ⟨(lwG_at 1228 (by decide +kernel) (by decide +kernel)), lwG_at 1226 (by decide +kernel) (by decide +kernel), lwG_at 1227 (by decide +kernel) (by decide +kernel), iw_X7, rfl, by decide +kernel, by decide +kernel, by decide +kernel⟩
theorem mu_X7_judge : MU RX7 yX7_judge cX7_judge 4 (some .int) 1 := ⟨(lwG_at 1232 (by decide +kernel) (by decide +kernel)), lwG_at 1230 (by decide +kernel) (by decide +kernel), lwG_at 1231 (by decide +kernel) (by decide +kernel), iw_X7, rfl, by decide +kernel, by decide +kernel, by decide +kernel⟩
theorem mu_X7_image : MU RX7 yX7_image cX7_image 1 (some .int) 0 := ⟨(lwG_at 1236 (by decide +kernel) (by decide +kernel)), lwG_at 1234 (by decide +kernel) (by decide +kernel), lwG_at 1235 (by decide +kernel) (by decide +kernel), iw_X7, rfl, by decide +kernel, by decide +kernel, by decide +kernel⟩
theorem ms_X7_copyAll : MS yX7_copyAll cX7_copyAll 3 none 2 := ⟨(lwG_at 1239 (by decide +kernel) (by decide +kernel)), lwG_at 1238 (by decide +kernel) (by decide +kernel), iw_X7, by decide +kernel, by decide +kernel, by decide +kernel⟩
theorem mu_X7_restore : MU RX7 yX7_restore cX7_restore 1 (some .int) 0 := ⟨(lwG_at 1243 (by decide +kernel) (by decide +kernel)), lwG_at 1241 (by decide +kernel) (by decide +kernel), lwG_at 1242 (by decide +kernel) (by decide +kernel), iw_X7, rfl, by decide +kernel, by decide +kernel, by decide +kernel⟩
theorem mu_X7_tell : MU RX7 yX7_tell cX7_tell 2 (some .int) 1 := ⟨(lwG_at 1247 (by decide +kernel) (by decide +kernel)), lwG_at 1245 (by decide +kernel) (by decide +kernel), lwG_at 1246 (by decide +kernel) (by decide +kernel), iw_X7, rfl, by decide +kernel, by decide +kernel, by decide +kernel⟩
theorem mu_X7_check : MU RX7 yX7_check cX7_check 3 (some .int) 0 := ⟨(lwG_at 1251 (by decide +kernel) (by decide +kernel)), lwG_at 1249 (by decide +kernel) (by decide +kernel), lwG_at 1250 (by decide +kernel) (by decide +kernel), iw_X7, rfl, by decide +kernel, by decide +kernel, by decide +kernel⟩
theorem mu_X7_count : MU RX7 yX7_count cX7_count 2 (some .int) 1 := ⟨(lwG_at 1255 (by decide +kernel) (by decide +kernel)), lwG_at 1253 (by decide +kernel) (by decide +kernel), lwG_at 1254 (by decide +kernel) (by decide +kernel), iw_X7, rfl, by decide +kernel, by decide +kernel, by decide +kernel⟩
theorem mu_X7_told : MU RX7 yX7_told cX7_told 2 (some .int) 1 := ⟨(lwG_at 1259 (by decide +kernel) (by decide +kernel)), lwG_at 1257 (by decide +kernel) (by decide +kernel), lwG_at 1258 (by decide +kernel) (by decide +kernel), iw_X7, rfl, by decide +kernel, by decide +kernel, by decide +kernel⟩
theorem mw_max_s : Cond.static Lib.Math.max.name ∈ lwG := lwG_at 338 (by decide +kernel) (by decide +kernel)
theorem mw_max_c : Cond.code Lib.Math.max.name Lib.Math.max.code 2 (some .int) ∈ lwG := lwG_at 339 (by decide +kernel) (by decide +kernel)
theorem mw_min_s : Cond.static Lib.Math.min.name ∈ lwG := lwG_at 335 (by decide +kernel) (by decide +kernel)
theorem mw_min_c : Cond.code Lib.Math.min.name Lib.Math.min.code 2 (some .int) ∈ lwG := lwG_at 336 (by decide +kernel) (by decide +kernel)
theorem mw_abs_s : Cond.static Lib.Math.abs.name ∈ lwG := lwG_at 390 (by decide +kernel) (by decide +kernel)
theorem mw_abs_c : Cond.code Lib.Math.abs.name Lib.Math.abs.code 1 (some .int) ∈ lwG := lwG_at 391 (by decide +kernel) (by decide +kernel)
theorem mw_init : Cond.initialized "java/lang/Math" ∈ lwG := iw_J9
theorem mw_ac_n : Cond.native arraycopyName ∈ lwG := lwG_at 591 (by decide +kernel) (by decide +kernel)
theorem mw_ac_s : Cond.static arraycopyName ∈ lwG := lwG_at 590 (by decide +kernel) (by decide +kernel)
theorem mw_ac_i : Cond.initialized "java/lang/System" ∈ lwG := iw_J10
theorem mw_ob_i : Cond.instanceMethod objectInit ∈ lwG := lwG_at 23 (by decide +kernel) (by decide +kernel)
theorem mw_ob_c : Cond.code objectInit ⟨#[0xb1]⟩ 1 none ∈ lwG := lwG_at 24 (by decide +kernel) (by decide +kernel)
theorem mw_ar_int : Cond.arrayClass .int ∈ lwG := lwG_at 51 (by decide +kernel) (by decide +kernel)
theorem mw_ar_byte : Cond.arrayClass .byte ∈ lwG := lwG_at 52 (by decide +kernel) (by decide +kernel)
theorem cw_X0 : ∀ w ∈ u_ws RX0 TX0 3, w ∈ lwG := by
  intro w hw
  simp only [u_ws, List.mem_map, List.mem_range] at hw
  obtain ⟨j, hj, rfl⟩ := hw
  rcases (show j = 0 ∨ j = 1 ∨ j = 2 by omega) with rfl | rfl | rfl
  · exact lwG_at 44 (by decide +kernel) (by decide +kernel)
  · exact lwG_at 46 (by decide +kernel) (by decide +kernel)
  · exact lwG_at 48 (by decide +kernel) (by decide +kernel)
theorem cf_X0 : CF 0 RX0 TX0 3 tyX0 := ⟨rfl, cw_X0, tyX0_ok, nmX0⟩
theorem cw_X1 : ∀ w ∈ u_ws RX1 TX1 5, w ∈ lwG := by
  intro w hw
  simp only [u_ws, List.mem_map, List.mem_range] at hw
  obtain ⟨j, hj, rfl⟩ := hw
  rcases (show j = 0 ∨ j = 1 ∨ j = 2 ∨ j = 3 ∨ j = 4 by omega) with rfl | rfl | rfl | rfl | rfl
  · exact lwG_at 145 (by decide +kernel) (by decide +kernel)
  · exact lwG_at 147 (by decide +kernel) (by decide +kernel)
  · exact lwG_at 149 (by decide +kernel) (by decide +kernel)
  · exact lwG_at 151 (by decide +kernel) (by decide +kernel)
  · exact lwG_at 153 (by decide +kernel) (by decide +kernel)
theorem cf_X1 : CF 1 RX1 TX1 5 tyX1 := ⟨rfl, cw_X1, tyX1_ok, nmX1⟩
theorem cw_X2 : ∀ w ∈ u_ws RX2 TX2 3, w ∈ lwG := by
  intro w hw
  simp only [u_ws, List.mem_map, List.mem_range] at hw
  obtain ⟨j, hj, rfl⟩ := hw
  rcases (show j = 0 ∨ j = 1 ∨ j = 2 by omega) with rfl | rfl | rfl
  · exact lwG_at 223 (by decide +kernel) (by decide +kernel)
  · exact lwG_at 225 (by decide +kernel) (by decide +kernel)
  · exact lwG_at 227 (by decide +kernel) (by decide +kernel)
theorem cf_X2 : CF 2 RX2 TX2 3 tyX2 := ⟨rfl, cw_X2, tyX2_ok, nmX2⟩
theorem cw_X3 : ∀ w ∈ u_ws RX3 TX3 17, w ∈ lwG := by
  intro w hw
  simp only [u_ws, List.mem_map, List.mem_range] at hw
  obtain ⟨j, hj, rfl⟩ := hw
  rcases (show j = 0 ∨ j = 1 ∨ j = 2 ∨ j = 3 ∨ j = 4 ∨ j = 5 ∨ j = 6 ∨ j = 7 ∨ j = 8 ∨ j = 9 ∨ j = 10 ∨ j = 11 ∨ j = 12 ∨ j = 13 ∨ j = 14 ∨ j = 15 ∨ j = 16 by omega) with rfl | rfl | rfl | rfl | rfl | rfl | rfl | rfl | rfl | rfl | rfl | rfl | rfl | rfl | rfl | rfl | rfl
  · exact lwG_at 96 (by decide +kernel) (by decide +kernel)
  · exact lwG_at 98 (by decide +kernel) (by decide +kernel)
  · exact lwG_at 100 (by decide +kernel) (by decide +kernel)
  · exact lwG_at 102 (by decide +kernel) (by decide +kernel)
  · exact lwG_at 104 (by decide +kernel) (by decide +kernel)
  · exact lwG_at 106 (by decide +kernel) (by decide +kernel)
  · exact lwG_at 108 (by decide +kernel) (by decide +kernel)
  · exact lwG_at 110 (by decide +kernel) (by decide +kernel)
  · exact lwG_at 112 (by decide +kernel) (by decide +kernel)
  · exact lwG_at 114 (by decide +kernel) (by decide +kernel)
  · exact lwG_at 116 (by decide +kernel) (by decide +kernel)
  · exact lwG_at 118 (by decide +kernel) (by decide +kernel)
  · exact lwG_at 120 (by decide +kernel) (by decide +kernel)
  · exact lwG_at 122 (by decide +kernel) (by decide +kernel)
  · exact lwG_at 124 (by decide +kernel) (by decide +kernel)
  · exact lwG_at 126 (by decide +kernel) (by decide +kernel)
  · exact lwG_at 128 (by decide +kernel) (by decide +kernel)
theorem cf_X3 : CF 3 RX3 TX3 17 tyX3 := ⟨rfl, cw_X3, tyX3_ok, nmX3⟩
theorem cw_X4 : ∀ w ∈ u_ws RX4 TX4 6, w ∈ lwG := by
  intro w hw
  simp only [u_ws, List.mem_map, List.mem_range] at hw
  obtain ⟨j, hj, rfl⟩ := hw
  rcases (show j = 0 ∨ j = 1 ∨ j = 2 ∨ j = 3 ∨ j = 4 ∨ j = 5 by omega) with rfl | rfl | rfl | rfl | rfl | rfl
  · exact lwG_at 196 (by decide +kernel) (by decide +kernel)
  · exact lwG_at 198 (by decide +kernel) (by decide +kernel)
  · exact lwG_at 200 (by decide +kernel) (by decide +kernel)
  · exact lwG_at 202 (by decide +kernel) (by decide +kernel)
  · exact lwG_at 204 (by decide +kernel) (by decide +kernel)
  · exact lwG_at 206 (by decide +kernel) (by decide +kernel)
theorem cf_X4 : CF 4 RX4 TX4 6 tyX4 := ⟨rfl, cw_X4, tyX4_ok, nmX4⟩
theorem cw_X5 : ∀ w ∈ u_ws RX5 TX5 6, w ∈ lwG := by
  intro w hw
  simp only [u_ws, List.mem_map, List.mem_range] at hw
  obtain ⟨j, hj, rfl⟩ := hw
  rcases (show j = 0 ∨ j = 1 ∨ j = 2 ∨ j = 3 ∨ j = 4 ∨ j = 5 by omega) with rfl | rfl | rfl | rfl | rfl | rfl
  · exact lwG_at 168 (by decide +kernel) (by decide +kernel)
  · exact lwG_at 170 (by decide +kernel) (by decide +kernel)
  · exact lwG_at 172 (by decide +kernel) (by decide +kernel)
  · exact lwG_at 174 (by decide +kernel) (by decide +kernel)
  · exact lwG_at 176 (by decide +kernel) (by decide +kernel)
  · exact lwG_at 178 (by decide +kernel) (by decide +kernel)
theorem cf_X5 : CF 5 RX5 TX5 6 tyX5 := ⟨rfl, cw_X5, tyX5_ok, nmX5⟩
theorem cw_X6 : ∀ w ∈ u_ws RX6 TX6 8, w ∈ lwG := by
  intro w hw
  simp only [u_ws, List.mem_map, List.mem_range] at hw
  obtain ⟨j, hj, rfl⟩ := hw
  rcases (show j = 0 ∨ j = 1 ∨ j = 2 ∨ j = 3 ∨ j = 4 ∨ j = 5 ∨ j = 6 ∨ j = 7 by omega) with rfl | rfl | rfl | rfl | rfl | rfl | rfl | rfl
  · exact lwG_at 238 (by decide +kernel) (by decide +kernel)
  · exact lwG_at 240 (by decide +kernel) (by decide +kernel)
  · exact lwG_at 242 (by decide +kernel) (by decide +kernel)
  · exact lwG_at 244 (by decide +kernel) (by decide +kernel)
  · exact lwG_at 246 (by decide +kernel) (by decide +kernel)
  · exact lwG_at 248 (by decide +kernel) (by decide +kernel)
  · exact lwG_at 250 (by decide +kernel) (by decide +kernel)
  · exact lwG_at 252 (by decide +kernel) (by decide +kernel)
theorem cf_X6 : CF 6 RX6 TX6 8 tyX6 := ⟨rfl, cw_X6, tyX6_ok, nmX6⟩
theorem cw_X7 : ∀ w ∈ u_ws RX7 TX7 20, w ∈ lwG := by
  intro w hw
  simp only [u_ws, List.mem_map, List.mem_range] at hw
  obtain ⟨j, hj, rfl⟩ := hw
  rcases (show j = 0 ∨ j = 1 ∨ j = 2 ∨ j = 3 ∨ j = 4 ∨ j = 5 ∨ j = 6 ∨ j = 7 ∨ j = 8 ∨ j = 9 ∨ j = 10 ∨ j = 11 ∨ j = 12 ∨ j = 13 ∨ j = 14 ∨ j = 15 ∨ j = 16 ∨ j = 17 ∨ j = 18 ∨ j = 19 by omega) with rfl | rfl | rfl | rfl | rfl | rfl | rfl | rfl | rfl | rfl | rfl | rfl | rfl | rfl | rfl | rfl | rfl | rfl | rfl | rfl
  · exact lwG_at 841 (by decide +kernel) (by decide +kernel)
  · exact lwG_at 843 (by decide +kernel) (by decide +kernel)
  · exact lwG_at 845 (by decide +kernel) (by decide +kernel)
  · exact lwG_at 847 (by decide +kernel) (by decide +kernel)
  · exact lwG_at 849 (by decide +kernel) (by decide +kernel)
  · exact lwG_at 851 (by decide +kernel) (by decide +kernel)
  · exact lwG_at 853 (by decide +kernel) (by decide +kernel)
  · exact lwG_at 855 (by decide +kernel) (by decide +kernel)
  · exact lwG_at 857 (by decide +kernel) (by decide +kernel)
  · exact lwG_at 859 (by decide +kernel) (by decide +kernel)
  · exact lwG_at 861 (by decide +kernel) (by decide +kernel)
  · exact lwG_at 863 (by decide +kernel) (by decide +kernel)
  · exact lwG_at 865 (by decide +kernel) (by decide +kernel)
  · exact lwG_at 867 (by decide +kernel) (by decide +kernel)
  · exact lwG_at 869 (by decide +kernel) (by decide +kernel)
  · exact lwG_at 871 (by decide +kernel) (by decide +kernel)
  · exact lwG_at 873 (by decide +kernel) (by decide +kernel)
  · exact lwG_at 875 (by decide +kernel) (by decide +kernel)
  · exact lwG_at 877 (by decide +kernel) (by decide +kernel)
  · exact lwG_at 879 (by decide +kernel) (by decide +kernel)
theorem cf_X7 : CF 7 RX7 TX7 20 tyX7 := ⟨rfl, cw_X7, tyX7_ok, nmX7⟩
