/-! fields in their order, the classes of the world -/
def F_X : u_T := fun k => match k with
  | 0 => ("NumberTower", "registers", "[LNumberTower$Num;", true)
  | 1 => ("NumberTower", "missing", "LNumberTower$Num;", true)
  | 2 => ("NumberTower", "line", "LNumberTower$Text;", true)
  | 3 => ("NumberTower", "desk", "LNumberTower$Desk;", true)
  | 4 => ("NumberTower", "reader", "LNumberTower$Reader;", true)
  | 5 => ("NumberTower", "spec", "LNumberTower$Spec;", true)
  | _ => ("NumberTower", "pen", "LNumberTower$Pen;", true)
def tt_X : Nat → FieldType := fun k => match k with
  | 0 => .array (.object "NumberTower$Num")
  | 1 => .object "NumberTower$Num"
  | 2 => .object "NumberTower$Text"
  | 3 => .object "NumberTower$Desk"
  | 4 => .object "NumberTower$Reader"
  | 5 => .object "NumberTower$Spec"
  | _ => .object "NumberTower$Pen"
theorem n_X : ∀ a, a < 7 → ∀ b, b < 7 → a ≠ b → (F_X a).2.1 ≠ (F_X b).2.1 := by decide +kernel
theorem tt_X_ok : ∀ k, k < 7 → parseFieldDescriptor (F_X k).2.2.1 = some (tt_X k) := by decide +kernel
theorem in_X : ∀ w ∈ u_ws "NumberTower" F_X 7, w ∈ jALL := by
  intro w hw
  obtain ⟨k, hk, rfl⟩ := List.mem_map.mp hw
  have h := List.mem_range.mp hk
  match k, h with
  | 0, _ => exact wd_254
  | 1, _ => exact wd_256
  | 2, _ => exact wd_258
  | 3, _ => exact wd_260
  | 4, _ => exact wd_262
  | 5, _ => exact wd_264
  | 6, _ => exact wd_266
  | k + 7, h => exact absurd h (by omega)
def F_D : u_T := fun k => match k with
  | 0 => ("NumberTower$Desk", "out", "LNumberTower$Num;", true)
  | 1 => ("NumberTower$Desk", "left", "LNumberTower$Num;", true)
  | 2 => ("NumberTower$Desk", "right", "LNumberTower$Num;", true)
  | 3 => ("NumberTower$Desk", "quotient", "LNumberTower$Natural;", true)
  | 4 => ("NumberTower$Desk", "first", "LNumberTower$Natural;", true)
  | 5 => ("NumberTower$Desk", "second", "LNumberTower$Natural;", true)
  | 6 => ("NumberTower$Desk", "third", "LNumberTower$Natural;", true)
  | 7 => ("NumberTower$Desk", "fourth", "LNumberTower$Natural;", true)
  | 8 => ("NumberTower$Desk", "spare", "LNumberTower$Natural;", true)
  | 9 => ("NumberTower$Desk", "base", "LNumberTower$Natural;", true)
  | _ => ("NumberTower$Desk", "modulus", "LNumberTower$Natural;", true)
def tt_D : Nat → FieldType := fun k => match k with
  | 0 => .object "NumberTower$Num"
  | 1 => .object "NumberTower$Num"
  | 2 => .object "NumberTower$Num"
  | 3 => .object "NumberTower$Natural"
  | 4 => .object "NumberTower$Natural"
  | 5 => .object "NumberTower$Natural"
  | 6 => .object "NumberTower$Natural"
  | 7 => .object "NumberTower$Natural"
  | 8 => .object "NumberTower$Natural"
  | 9 => .object "NumberTower$Natural"
  | _ => .object "NumberTower$Natural"
theorem n_D : ∀ a, a < 11 → ∀ b, b < 11 → a ≠ b → (F_D a).2.1 ≠ (F_D b).2.1 := by decide +kernel
theorem tt_D_ok : ∀ k, k < 11 → parseFieldDescriptor (F_D k).2.2.1 = some (tt_D k) := by decide +kernel
theorem in_D : ∀ w ∈ u_ws "NumberTower$Desk" F_D 11, w ∈ jALL := by
  intro w hw
  obtain ⟨k, hk, rfl⟩ := List.mem_map.mp hw
  have h := List.mem_range.mp hk
  match k, h with
  | 0, _ => exact wd_122
  | 1, _ => exact wd_124
  | 2, _ => exact wd_126
  | 3, _ => exact wd_128
  | 4, _ => exact wd_130
  | 5, _ => exact wd_132
  | 6, _ => exact wd_134
  | 7, _ => exact wd_136
  | 8, _ => exact wd_138
  | 9, _ => exact wd_140
  | 10, _ => exact wd_142
  | k + 11, h => exact absurd h (by omega)
def F_N : u_T := fun k => match k with
  | 0 => ("NumberTower$Natural", "limbs", "[I", true)
  | _ => ("NumberTower$Natural", "count", "I", false)
def tt_N : Nat → FieldType := fun k => match k with
  | 0 => .array .int
  | _ => .int
theorem n_N : ∀ a, a < 2 → ∀ b, b < 2 → a ≠ b → (F_N a).2.1 ≠ (F_N b).2.1 := by decide +kernel
theorem tt_N_ok : ∀ k, k < 2 → parseFieldDescriptor (F_N k).2.2.1 = some (tt_N k) := by decide +kernel
theorem in_N : ∀ w ∈ u_ws "NumberTower$Natural" F_N 2, w ∈ jALL := by
  intro w hw
  obtain ⟨k, hk, rfl⟩ := List.mem_map.mp hw
  have h := List.mem_range.mp hk
  match k, h with
  | 0, _ => exact wd_47
  | 1, _ => exact wd_49
  | k + 2, h => exact absurd h (by omega)
def F_U : u_T := fun k => match k with
  | 0 => ("NumberTower$Num", "kindNow", "I", false)
  | 1 => ("NumberTower$Num", "sign", "I", false)
  | 2 => ("NumberTower$Num", "up", "LNumberTower$Natural;", true)
  | _ => ("NumberTower$Num", "low", "LNumberTower$Natural;", true)
def tt_U : Nat → FieldType := fun k => match k with
  | 0 => .int
  | 1 => .int
  | 2 => .object "NumberTower$Natural"
  | _ => .object "NumberTower$Natural"
theorem n_U : ∀ a, a < 4 → ∀ b, b < 4 → a ≠ b → (F_U a).2.1 ≠ (F_U b).2.1 := by decide +kernel
theorem tt_U_ok : ∀ k, k < 4 → parseFieldDescriptor (F_U k).2.2.1 = some (tt_U k) := by decide +kernel
theorem in_U : ∀ w ∈ u_ws "NumberTower$Num" F_U 4, w ∈ jALL := by
  intro w hw
  obtain ⟨k, hk, rfl⟩ := List.mem_map.mp hw
  have h := List.mem_range.mp hk
  match k, h with
  | 0, _ => exact wd_73
  | 1, _ => exact wd_75
  | 2, _ => exact wd_77
  | 3, _ => exact wd_79
  | k + 4, h => exact absurd h (by omega)
def F_P : u_T := fun k => match k with
  | 0 => ("NumberTower$Pen", "sheet", "LNumberTower$Text;", true)
  | 1 => ("NumberTower$Pen", "head", "LNumberTower$Text;", true)
  | 2 => ("NumberTower$Pen", "body", "LNumberTower$Text;", true)
  | 3 => ("NumberTower$Pen", "digits", "LNumberTower$Text;", true)
  | 4 => ("NumberTower$Pen", "top", "LNumberTower$Natural;", true)
  | 5 => ("NumberTower$Pen", "bottom", "LNumberTower$Natural;", true)
  | 6 => ("NumberTower$Pen", "quotient", "LNumberTower$Natural;", true)
  | _ => ("NumberTower$Pen", "exact", "Z", false)
def tt_P : Nat → FieldType := fun k => match k with
  | 0 => .object "NumberTower$Text"
  | 1 => .object "NumberTower$Text"
  | 2 => .object "NumberTower$Text"
  | 3 => .object "NumberTower$Text"
  | 4 => .object "NumberTower$Natural"
  | 5 => .object "NumberTower$Natural"
  | 6 => .object "NumberTower$Natural"
  | _ => .boolean
theorem n_P : ∀ a, a < 8 → ∀ b, b < 8 → a ≠ b → (F_P a).2.1 ≠ (F_P b).2.1 := by decide +kernel
theorem tt_P_ok : ∀ k, k < 8 → parseFieldDescriptor (F_P k).2.2.1 = some (tt_P k) := by decide +kernel
theorem in_P : ∀ w ∈ u_ws "NumberTower$Pen" F_P 8, w ∈ jALL := by
  intro w hw
  obtain ⟨k, hk, rfl⟩ := List.mem_map.mp hw
  have h := List.mem_range.mp hk
  match k, h with
  | 0, _ => exact wd_230
  | 1, _ => exact wd_232
  | 2, _ => exact wd_234
  | 3, _ => exact wd_236
  | 4, _ => exact wd_238
  | 5, _ => exact wd_240
  | 6, _ => exact wd_242
  | 7, _ => exact wd_244
  | k + 8, h => exact absurd h (by omega)
def F_R : u_T := fun k => match k with
  | 0 => ("NumberTower$Reader", "text", "LNumberTower$Text;", true)
  | 1 => ("NumberTower$Reader", "at", "I", false)
  | _ => ("NumberTower$Reader", "tens", "I", false)
def tt_R : Nat → FieldType := fun k => match k with
  | 0 => .object "NumberTower$Text"
  | 1 => .int
  | _ => .int
theorem n_R : ∀ a, a < 3 → ∀ b, b < 3 → a ≠ b → (F_R a).2.1 ≠ (F_R b).2.1 := by decide +kernel
theorem tt_R_ok : ∀ k, k < 3 → parseFieldDescriptor (F_R k).2.2.1 = some (tt_R k) := by decide +kernel
theorem in_R : ∀ w ∈ u_ws "NumberTower$Reader" F_R 3, w ∈ jALL := by
  intro w hw
  obtain ⟨k, hk, rfl⟩ := List.mem_map.mp hw
  have h := List.mem_range.mp hk
  match k, h with
  | 0, _ => exact wd_155
  | 1, _ => exact wd_157
  | 2, _ => exact wd_159
  | k + 3, h => exact absurd h (by omega)
def F_S : u_T := fun k => match k with
  | 0 => ("NumberTower$Spec", "text", "LNumberTower$Text;", true)
  | 1 => ("NumberTower$Spec", "at", "I", false)
  | 2 => ("NumberTower$Spec", "fill", "I", false)
  | 3 => ("NumberTower$Spec", "align", "I", false)
  | 4 => ("NumberTower$Spec", "signMark", "I", false)
  | 5 => ("NumberTower$Spec", "alternate", "Z", false)
  | 6 => ("NumberTower$Spec", "zero", "Z", false)
  | 7 => ("NumberTower$Spec", "width", "I", false)
  | 8 => ("NumberTower$Spec", "parting", "I", false)
  | 9 => ("NumberTower$Spec", "precision", "I", false)
  | _ => ("NumberTower$Spec", "type", "I", false)
def tt_S : Nat → FieldType := fun k => match k with
  | 0 => .object "NumberTower$Text"
  | 1 => .int
  | 2 => .int
  | 3 => .int
  | 4 => .int
  | 5 => .boolean
  | 6 => .boolean
  | 7 => .int
  | 8 => .int
  | 9 => .int
  | _ => .int
theorem n_S : ∀ a, a < 11 → ∀ b, b < 11 → a ≠ b → (F_S a).2.1 ≠ (F_S b).2.1 := by decide +kernel
theorem tt_S_ok : ∀ k, k < 11 → parseFieldDescriptor (F_S k).2.2.1 = some (tt_S k) := by decide +kernel
theorem in_S : ∀ w ∈ u_ws "NumberTower$Spec" F_S 11, w ∈ jALL := by
  intro w hw
  obtain ⟨k, hk, rfl⟩ := List.mem_map.mp hw
  have h := List.mem_range.mp hk
  match k, h with
  | 0, _ => exact wd_188
  | 1, _ => exact wd_190
  | 2, _ => exact wd_192
  | 3, _ => exact wd_194
  | 4, _ => exact wd_196
  | 5, _ => exact wd_198
  | 6, _ => exact wd_200
  | 7, _ => exact wd_202
  | 8, _ => exact wd_204
  | 9, _ => exact wd_206
  | 10, _ => exact wd_208
  | k + 11, h => exact absurd h (by omega)
def F_T : u_T := fun k => match k with
  | 0 => ("NumberTower$Text", "chars", "[C", true)
  | _ => ("NumberTower$Text", "count", "I", false)
def tt_T : Nat → FieldType := fun k => match k with
  | 0 => .array .char
  | _ => .int
theorem n_T : ∀ a, a < 2 → ∀ b, b < 2 → a ≠ b → (F_T a).2.1 ≠ (F_T b).2.1 := by decide +kernel
theorem tt_T_ok : ∀ k, k < 2 → parseFieldDescriptor (F_T k).2.2.1 = some (tt_T k) := by decide +kernel
theorem in_T : ∀ w ∈ u_ws "NumberTower$Text" F_T 2, w ∈ jALL := by
  intro w hw
  obtain ⟨k, hk, rfl⟩ := List.mem_map.mp hw
  have h := List.mem_range.mp hk
  match k, h with
  | 0, _ => exact wd_94
  | 1, _ => exact wd_96
  | k + 2, h => exact absurd h (by omega)
def F_M : u_T := fun k => match k with
  | 0 => ("NumberTowerModel", "big", "[I", true)
  | 1 => ("NumberTowerModel", "len", "[I", true)
  | 2 => ("NumberTowerModel", "kinds", "[I", true)
  | 3 => ("NumberTowerModel", "below", "[Z", true)
  | 4 => ("NumberTowerModel", "reals", "[D", true)
  | 5 => ("NumberTowerModel", "xs", "Z", false)
  | 6 => ("NumberTowerModel", "ys", "Z", false)
  | 7 => ("NumberTowerModel", "rs", "Z", false)
  | 8 => ("NumberTowerModel", "beyond", "Z", false)
  | 9 => ("NumberTowerModel", "value", "D", false)
  | 10 => ("NumberTowerModel", "thrown", "I", false)
  | 11 => ("NumberTowerModel", "line", "[I", true)
  | 12 => ("NumberTowerModel", "typed", "I", false)
  | 13 => ("NumberTowerModel", "sheet", "[I", true)
  | 14 => ("NumberTowerModel", "shown", "I", false)
  | 15 => ("NumberTowerModel", "digit", "[I", true)
  | 16 => ("NumberTowerModel", "many", "I", false)
  | 17 => ("NumberTowerModel", "text", "[I", true)
  | 18 => ("NumberTowerModel", "size", "I", false)
  | 19 => ("NumberTowerModel", "at", "I", false)
  | 20 => ("NumberTowerModel", "found", "I", false)
  | 21 => ("NumberTowerModel", "fill", "I", false)
  | 22 => ("NumberTowerModel", "align", "I", false)
  | 23 => ("NumberTowerModel", "plus", "I", false)
  | 24 => ("NumberTowerModel", "sharp", "Z", false)
  | 25 => ("NumberTowerModel", "zeros", "Z", false)
  | 26 => ("NumberTowerModel", "width", "I", false)
  | 27 => ("NumberTowerModel", "parting", "I", false)
  | 28 => ("NumberTowerModel", "precision", "I", false)
  | _ => ("NumberTowerModel", "type", "I", false)
def tt_M : Nat → FieldType := fun k => match k with
  | 0 => .array .int
  | 1 => .array .int
  | 2 => .array .int
  | 3 => .array .boolean
  | 4 => .array .double
  | 5 => .boolean
  | 6 => .boolean
  | 7 => .boolean
  | 8 => .boolean
  | 9 => .double
  | 10 => .int
  | 11 => .array .int
  | 12 => .int
  | 13 => .array .int
  | 14 => .int
  | 15 => .array .int
  | 16 => .int
  | 17 => .array .int
  | 18 => .int
  | 19 => .int
  | 20 => .int
  | 21 => .int
  | 22 => .int
  | 23 => .int
  | 24 => .boolean
  | 25 => .boolean
  | 26 => .int
  | 27 => .int
  | 28 => .int
  | _ => .int
theorem n_M : ∀ a, a < 30 → ∀ b, b < 30 → a ≠ b → (F_M a).2.1 ≠ (F_M b).2.1 := by decide +kernel
theorem tt_M_ok : ∀ k, k < 30 → parseFieldDescriptor (F_M k).2.2.1 = some (tt_M k) := by decide +kernel
theorem in_M : ∀ w ∈ u_ws "NumberTowerModel" F_M 30, w ∈ jALL := by
  intro w hw
  obtain ⟨k, hk, rfl⟩ := List.mem_map.mp hw
  have h := List.mem_range.mp hk
  match k, h with
  | 0, _ => exact wd_1015
  | 1, _ => exact wd_1017
  | 2, _ => exact wd_1019
  | 3, _ => exact wd_1021
  | 4, _ => exact wd_1023
  | 5, _ => exact wd_1025
  | 6, _ => exact wd_1027
  | 7, _ => exact wd_1029
  | 8, _ => exact wd_1031
  | 9, _ => exact wd_1033
  | 10, _ => exact wd_1035
  | 11, _ => exact wd_1037
  | 12, _ => exact wd_1039
  | 13, _ => exact wd_1041
  | 14, _ => exact wd_1043
  | 15, _ => exact wd_1045
  | 16, _ => exact wd_1047
  | 17, _ => exact wd_1049
  | 18, _ => exact wd_1051
  | 19, _ => exact wd_1053
  | 20, _ => exact wd_1055
  | 21, _ => exact wd_1057
  | 22, _ => exact wd_1059
  | 23, _ => exact wd_1061
  | 24, _ => exact wd_1063
  | 25, _ => exact wd_1065
  | 26, _ => exact wd_1067
  | 27, _ => exact wd_1069
  | 28, _ => exact wd_1071
  | 29, _ => exact wd_1073
  | k + 30, h => exact absurd h (by omega)
abbrev jCl : List vw_C := [("NumberTower", F_X, 7), ("NumberTower$Desk", F_D, 11), ("NumberTower$Natural", F_N, 2), ("NumberTower$Num", F_U, 4), ("NumberTower$Pen", F_P, 8), ("NumberTower$Reader", F_R, 3), ("NumberTower$Spec", F_S, 11), ("NumberTower$Text", F_T, 2), ("NumberTowerModel", F_M, 30)]
abbrev jTys (g : Nat → ClassId) : List (ClassId × FieldType) := [(g 0, .int), (g 1, .char), (g 2, .boolean), (g 3, .double), (g 4, .object "NumberTower$Num"), (g 5, .long)]
theorem nb01 {z : Int} (h : z = 0 ∨ z = 1) : narrow .boolean (.int (iI z)) = .int (iI z) ∧ fits .boolean (.int (iI z)) = true := by
  rcases h with rfl | rfl <;> exact ⟨rfl, rfl⟩
section JLINKS
variable {l : Launch} {R : Room} {nb : Nat × Nat} {cc : ByteArray} {nL : Nat} {ret : Option FieldType} {D : va_G} {tys : List (ClassId × FieldType)} {A : Nat → Prop} {X : State → Method → Prop} {Qx : JQ} {ad : Nat → Nat} {N kc ks pc k : Nat} {lv : List (Nat × Value)} {F : Nat → va_E} {st : List Value} {fs : List Value} {v : Value}
theorem pf_X_11 {x : Nat} (hk : k < N) (hF : F k = .inr (0, fs)) (hl0 : 0 < fs.length) (hown : "NumberTower" = (F_X 0).1) (hini : ∀ s me, X s me → me.name = "<init>") (d : decode cc pc = .ok (.putfield 11, 3)) (kk : J l R nb "NumberTower" cc nL ret D jCl tys A X Qx ad N kc ks (pc + 3) lv st (va_up F k (.inr (0, fs.set 0 (.ref x))))) : J l R nb "NumberTower" cc nL ret D jCl tys A X Qx ad N kc ks pc lv ((.ref x) :: .ref (ad k) :: st) F :=
  J_putF (C := "NumberTower") (T := F_X) (n := 7) in_X tt_X tt_X_ok n_X rfl 0 (by decide) wd_247 rfl rfl hown hini (ty := .array (.object "NumberTower$Num")) (tt_X_ok 0 (by decide)) hk hF hl0 rfl rfl d kk
theorem cw_X_15 : Cond.methodLink "NumberTower" 15 y_U_init ∈ jALL ∧ Cond.instanceMethod y_U_init ∈ jALL ∧ Cond.code y_U_init b_U_init 1 (Option.none : Option Jvm.ClassFile.FieldType) ∈ jALL ∧ Cond.initialized y_U_init.cls ∈ jALL := ⟨wd_31, wd_32, wd_33, wd_2⟩
theorem pf_X_16 {x : Nat} (hk : k < N) (hF : F k = .inr (0, fs)) (hl0 : 1 < fs.length) (hown : "NumberTower" = (F_X 1).1) (hini : ∀ s me, X s me → me.name = "<init>") (d : decode cc pc = .ok (.putfield 16, 3)) (kk : J l R nb "NumberTower" cc nL ret D jCl tys A X Qx ad N kc ks (pc + 3) lv st (va_up F k (.inr (0, fs.set 1 (.ref x))))) : J l R nb "NumberTower" cc nL ret D jCl tys A X Qx ad N kc ks pc lv ((.ref x) :: .ref (ad k) :: st) F :=
  J_putF (C := "NumberTower") (T := F_X) (n := 7) in_X tt_X tt_X_ok n_X rfl 1 (by decide) wd_248 rfl rfl hown hini (ty := .object "NumberTower$Num") (tt_X_ok 1 (by decide)) hk hF hl0 rfl rfl d kk
theorem cw_X_22 : Cond.methodLink "NumberTower" 22 y_T_init ∈ jALL ∧ Cond.instanceMethod y_T_init ∈ jALL ∧ Cond.code y_T_init b_T_init 1 (Option.none : Option Jvm.ClassFile.FieldType) ∈ jALL ∧ Cond.initialized y_T_init.cls ∈ jALL := ⟨wd_84, wd_85, wd_86, wd_4⟩
theorem pf_X_23 {x : Nat} (hk : k < N) (hF : F k = .inr (0, fs)) (hl0 : 2 < fs.length) (hown : "NumberTower" = (F_X 2).1) (hini : ∀ s me, X s me → me.name = "<init>") (d : decode cc pc = .ok (.putfield 23, 3)) (kk : J l R nb "NumberTower" cc nL ret D jCl tys A X Qx ad N kc ks (pc + 3) lv st (va_up F k (.inr (0, fs.set 2 (.ref x))))) : J l R nb "NumberTower" cc nL ret D jCl tys A X Qx ad N kc ks pc lv ((.ref x) :: .ref (ad k) :: st) F :=
  J_putF (C := "NumberTower") (T := F_X) (n := 7) in_X tt_X tt_X_ok n_X rfl 2 (by decide) wd_249 rfl rfl hown hini (ty := .object "NumberTower$Text") (tt_X_ok 2 (by decide)) hk hF hl0 rfl rfl d kk
theorem cw_X_29 : Cond.methodLink "NumberTower" 29 y_D_init ∈ jALL ∧ Cond.instanceMethod y_D_init ∈ jALL ∧ Cond.code y_D_init b_D_init 1 (Option.none : Option Jvm.ClassFile.FieldType) ∈ jALL ∧ Cond.initialized y_D_init.cls ∈ jALL := ⟨wd_102, wd_103, wd_104, wd_5⟩
theorem pf_X_30 {x : Nat} (hk : k < N) (hF : F k = .inr (0, fs)) (hl0 : 3 < fs.length) (hown : "NumberTower" = (F_X 3).1) (hini : ∀ s me, X s me → me.name = "<init>") (d : decode cc pc = .ok (.putfield 30, 3)) (kk : J l R nb "NumberTower" cc nL ret D jCl tys A X Qx ad N kc ks (pc + 3) lv st (va_up F k (.inr (0, fs.set 3 (.ref x))))) : J l R nb "NumberTower" cc nL ret D jCl tys A X Qx ad N kc ks pc lv ((.ref x) :: .ref (ad k) :: st) F :=
  J_putF (C := "NumberTower") (T := F_X) (n := 7) in_X tt_X tt_X_ok n_X rfl 3 (by decide) wd_250 rfl rfl hown hini (ty := .object "NumberTower$Desk") (tt_X_ok 3 (by decide)) hk hF hl0 rfl rfl d kk
theorem gf_X_23 (hk : k < N) (hF : F k = .inr (0, fs)) (hv : fs[2]? = some v) (d : decode cc pc = .ok (.getfield 23, 3)) (kk : J l R nb "NumberTower" cc nL ret D jCl tys A X Qx ad N kc ks (pc + 3) lv (v :: st) F) : J l R nb "NumberTower" cc nL ret D jCl tys A X Qx ad N kc ks pc lv (.ref (ad k) :: st) F :=
  J_get (C := "NumberTower") (T := F_X) (n := 7) in_X rfl 2 (by decide) wd_249 rfl hk hF hv d kk
theorem cw_X_36 : Cond.methodLink "NumberTower" 36 y_R_init ∈ jALL ∧ Cond.instanceMethod y_R_init ∈ jALL ∧ Cond.code y_R_init b_R_init 2 (Option.none : Option Jvm.ClassFile.FieldType) ∈ jALL ∧ Cond.initialized y_R_init.cls ∈ jALL := ⟨wd_147, wd_148, wd_149, wd_6⟩
theorem pf_X_39 {x : Nat} (hk : k < N) (hF : F k = .inr (0, fs)) (hl0 : 4 < fs.length) (hown : "NumberTower" = (F_X 4).1) (hini : ∀ s me, X s me → me.name = "<init>") (d : decode cc pc = .ok (.putfield 39, 3)) (kk : J l R nb "NumberTower" cc nL ret D jCl tys A X Qx ad N kc ks (pc + 3) lv st (va_up F k (.inr (0, fs.set 4 (.ref x))))) : J l R nb "NumberTower" cc nL ret D jCl tys A X Qx ad N kc ks pc lv ((.ref x) :: .ref (ad k) :: st) F :=
  J_putF (C := "NumberTower") (T := F_X) (n := 7) in_X tt_X tt_X_ok n_X rfl 4 (by decide) wd_251 rfl rfl hown hini (ty := .object "NumberTower$Reader") (tt_X_ok 4 (by decide)) hk hF hl0 rfl rfl d kk
theorem cw_X_45 : Cond.methodLink "NumberTower" 45 y_S_init ∈ jALL ∧ Cond.instanceMethod y_S_init ∈ jALL ∧ Cond.code y_S_init b_S_init 2 (Option.none : Option Jvm.ClassFile.FieldType) ∈ jALL ∧ Cond.initialized y_S_init.cls ∈ jALL := ⟨wd_164, wd_165, wd_166, wd_7⟩
theorem pf_X_46 {x : Nat} (hk : k < N) (hF : F k = .inr (0, fs)) (hl0 : 5 < fs.length) (hown : "NumberTower" = (F_X 5).1) (hini : ∀ s me, X s me → me.name = "<init>") (d : decode cc pc = .ok (.putfield 46, 3)) (kk : J l R nb "NumberTower" cc nL ret D jCl tys A X Qx ad N kc ks (pc + 3) lv st (va_up F k (.inr (0, fs.set 5 (.ref x))))) : J l R nb "NumberTower" cc nL ret D jCl tys A X Qx ad N kc ks pc lv ((.ref x) :: .ref (ad k) :: st) F :=
  J_putF (C := "NumberTower") (T := F_X) (n := 7) in_X tt_X tt_X_ok n_X rfl 5 (by decide) wd_252 rfl rfl hown hini (ty := .object "NumberTower$Spec") (tt_X_ok 5 (by decide)) hk hF hl0 rfl rfl d kk
theorem cw_X_52 : Cond.methodLink "NumberTower" 52 y_P_init ∈ jALL ∧ Cond.instanceMethod y_P_init ∈ jALL ∧ Cond.code y_P_init b_P_init 1 (Option.none : Option Jvm.ClassFile.FieldType) ∈ jALL ∧ Cond.initialized y_P_init.cls ∈ jALL := ⟨wd_213, wd_214, wd_215, wd_8⟩
theorem pf_X_53 {x : Nat} (hk : k < N) (hF : F k = .inr (0, fs)) (hl0 : 6 < fs.length) (hown : "NumberTower" = (F_X 6).1) (hini : ∀ s me, X s me → me.name = "<init>") (d : decode cc pc = .ok (.putfield 53, 3)) (kk : J l R nb "NumberTower" cc nL ret D jCl tys A X Qx ad N kc ks (pc + 3) lv st (va_up F k (.inr (0, fs.set 6 (.ref x))))) : J l R nb "NumberTower" cc nL ret D jCl tys A X Qx ad N kc ks pc lv ((.ref x) :: .ref (ad k) :: st) F :=
  J_putF (C := "NumberTower") (T := F_X) (n := 7) in_X tt_X tt_X_ok n_X rfl 6 (by decide) wd_253 rfl rfl hown hini (ty := .object "NumberTower$Pen") (tt_X_ok 6 (by decide)) hk hF hl0 rfl rfl d kk
theorem gf_X_11 (hk : k < N) (hF : F k = .inr (0, fs)) (hv : fs[0]? = some v) (d : decode cc pc = .ok (.getfield 11, 3)) (kk : J l R nb "NumberTower" cc nL ret D jCl tys A X Qx ad N kc ks (pc + 3) lv (v :: st) F) : J l R nb "NumberTower" cc nL ret D jCl tys A X Qx ad N kc ks pc lv (.ref (ad k) :: st) F :=
  J_get (C := "NumberTower") (T := F_X) (n := 7) in_X rfl 0 (by decide) wd_247 rfl hk hF hv d kk
theorem gf_X_57 (hk : k < N) (hF : F k = .inr (7, fs)) (hv : fs[1]? = some v) (d : decode cc pc = .ok (.getfield 57, 3)) (kk : J l R nb "NumberTower" cc nL ret D jCl tys A X Qx ad N kc ks (pc + 3) lv (v :: st) F) : J l R nb "NumberTower" cc nL ret D jCl tys A X Qx ad N kc ks pc lv (.ref (ad k) :: st) F :=
  J_get (C := "NumberTower$Text") (T := F_T) (n := 2) in_T rfl 1 (by decide) wd_90 rfl hk hF hv d kk
theorem cw_X_61 : Cond.methodLink "NumberTower" 61 y_T_put ∈ jALL ∧ Cond.instanceMethod y_T_put ∈ jALL ∧ Cond.selects "NumberTower$Text" y_T_put y_T_put ∈ jALL ∧ Cond.code y_T_put b_T_put 2 (Option.none : Option Jvm.ClassFile.FieldType) ∈ jALL ∧ Cond.initialized y_T_put.cls ∈ jALL := ⟨wd_273, wd_274, wd_275, wd_276, wd_4⟩
theorem cw_X_65 : Cond.methodLink "NumberTower" 65 y_T_clear ∈ jALL ∧ Cond.instanceMethod y_T_clear ∈ jALL ∧ Cond.selects "NumberTower$Text" y_T_clear y_T_clear ∈ jALL ∧ Cond.code y_T_clear b_T_clear 1 (Option.none : Option Jvm.ClassFile.FieldType) ∈ jALL ∧ Cond.initialized y_T_clear.cls ∈ jALL := ⟨wd_281, wd_282, wd_283, wd_284, wd_4⟩
theorem gf_X_39 (hk : k < N) (hF : F k = .inr (0, fs)) (hv : fs[4]? = some v) (d : decode cc pc = .ok (.getfield 39, 3)) (kk : J l R nb "NumberTower" cc nL ret D jCl tys A X Qx ad N kc ks (pc + 3) lv (v :: st) F) : J l R nb "NumberTower" cc nL ret D jCl tys A X Qx ad N kc ks pc lv (.ref (ad k) :: st) F :=
  J_get (C := "NumberTower") (T := F_X) (n := 7) in_X rfl 4 (by decide) wd_251 rfl hk hF hv d kk
theorem gf_X_30 (hk : k < N) (hF : F k = .inr (0, fs)) (hv : fs[3]? = some v) (d : decode cc pc = .ok (.getfield 30, 3)) (kk : J l R nb "NumberTower" cc nL ret D jCl tys A X Qx ad N kc ks (pc + 3) lv (v :: st) F) : J l R nb "NumberTower" cc nL ret D jCl tys A X Qx ad N kc ks pc lv (.ref (ad k) :: st) F :=
  J_get (C := "NumberTower") (T := F_X) (n := 7) in_X rfl 3 (by decide) wd_250 rfl hk hF hv d kk
theorem gf_X_68 (hk : k < N) (hF : F k = .inr (1, fs)) (hv : fs[0]? = some v) (d : decode cc pc = .ok (.getfield 68, 3)) (kk : J l R nb "NumberTower" cc nL ret D jCl tys A X Qx ad N kc ks (pc + 3) lv (v :: st) F) : J l R nb "NumberTower" cc nL ret D jCl tys A X Qx ad N kc ks pc lv (.ref (ad k) :: st) F :=
  J_get (C := "NumberTower$Desk") (T := F_D) (n := 11) in_D rfl 0 (by decide) wd_111 rfl hk hF hv d kk
theorem cw_X_71 : Cond.methodLink "NumberTower" 71 y_R_parse ∈ jALL ∧ Cond.instanceMethod y_R_parse ∈ jALL ∧ Cond.selects "NumberTower$Reader" y_R_parse y_R_parse ∈ jALL ∧ Cond.code y_R_parse b_R_parse 3 (Option.some Jvm.ClassFile.FieldType.boolean) ∈ jALL ∧ Cond.initialized y_R_parse.cls ∈ jALL := ⟨wd_499, wd_500, wd_501, wd_502, wd_6⟩
theorem cw_X_75 : Cond.methodLink "NumberTower" 75 y_X_isRegister ∈ jALL ∧ Cond.static y_X_isRegister ∈ jALL ∧ Cond.code y_X_isRegister b_X_isRegister 1 (Option.some Jvm.ClassFile.FieldType.boolean) ∈ jALL ∧ Cond.initialized y_X_isRegister.cls ∈ jALL := ⟨wd_289, wd_290, wd_291, wd_1⟩
theorem cw_X_83 : Cond.methodLink "NumberTower" 83 y_JIAE_init ∈ jALL ∧ Cond.instanceMethod y_JIAE_init ∈ jALL ∧ Cond.code y_JIAE_init b_JIAE_init 2 (Option.none : Option Jvm.ClassFile.FieldType) ∈ jALL ∧ Cond.initialized y_JIAE_init.cls ∈ jALL := ⟨wd_567, wd_568, wd_569, wd_15⟩
theorem gf_X_86 (hk : k < N) (hF : F k = .inr (3, fs)) (hv : fs[3]? = some v) (d : decode cc pc = .ok (.getfield 86, 3)) (kk : J l R nb "NumberTower" cc nL ret D jCl tys A X Qx ad N kc ks (pc + 3) lv (v :: st) F) : J l R nb "NumberTower" cc nL ret D jCl tys A X Qx ad N kc ks pc lv (.ref (ad k) :: st) F :=
  J_get (C := "NumberTower$Num") (T := F_U) (n := 4) in_U rfl 3 (by decide) wd_72 rfl hk hF hv d kk
theorem cw_X_90 : Cond.methodLink "NumberTower" 90 y_N_isZero ∈ jALL ∧ Cond.instanceMethod y_N_isZero ∈ jALL ∧ Cond.selects "NumberTower$Natural" y_N_isZero y_N_isZero ∈ jALL ∧ Cond.code y_N_isZero b_N_isZero 1 (Option.some Jvm.ClassFile.FieldType.boolean) ∈ jALL ∧ Cond.initialized y_N_isZero.cls ∈ jALL := ⟨wd_593, wd_358, wd_359, wd_360, wd_3⟩
theorem cw_X_100 : Cond.methodLink "NumberTower" 100 y_JAE_init ∈ jALL ∧ Cond.instanceMethod y_JAE_init ∈ jALL ∧ Cond.code y_JAE_init b_JAE_init 2 (Option.none : Option Jvm.ClassFile.FieldType) ∈ jALL ∧ Cond.initialized y_JAE_init.cls ∈ jALL := ⟨wd_604, wd_605, wd_606, wd_16⟩
theorem gf_X_101 (hk : k < N) (hF : F k = .inr (5, fs)) (hv : fs[2]? = some v) (d : decode cc pc = .ok (.getfield 101, 3)) (kk : J l R nb "NumberTower" cc nL ret D jCl tys A X Qx ad N kc ks (pc + 3) lv (v :: st) F) : J l R nb "NumberTower" cc nL ret D jCl tys A X Qx ad N kc ks pc lv (.ref (ad k) :: st) F :=
  J_get (C := "NumberTower$Reader") (T := F_R) (n := 3) in_R rfl 2 (by decide) wd_154 rfl hk hF hv d kk
theorem cw_X_104 : Cond.methodLink "NumberTower" 104 y_D_finishReading ∈ jALL ∧ Cond.instanceMethod y_D_finishReading ∈ jALL ∧ Cond.selects "NumberTower$Desk" y_D_finishReading y_D_finishReading ∈ jALL ∧ Cond.code y_D_finishReading b_D_finishReading 2 (Option.none : Option Jvm.ClassFile.FieldType) ∈ jALL ∧ Cond.initialized y_D_finishReading.cls ∈ jALL := ⟨wd_610, wd_611, wd_612, wd_613, wd_5⟩
theorem cw_X_107 : Cond.methodLink "NumberTower" 107 y_X_keep ∈ jALL ∧ Cond.instanceMethod y_X_keep ∈ jALL ∧ Cond.selects "NumberTower" y_X_keep y_X_keep ∈ jALL ∧ Cond.code y_X_keep b_X_keep 2 (Option.some Jvm.ClassFile.FieldType.int) ∈ jALL ∧ Cond.initialized y_X_keep.cls ∈ jALL := ⟨wd_315, wd_317, ws_0, wd_318, wd_1⟩
theorem cw_X_111 : Cond.methodLink "NumberTower" 111 y_U_setWhole ∈ jALL ∧ Cond.instanceMethod y_U_setWhole ∈ jALL ∧ Cond.selects "NumberTower$Num" y_U_setWhole y_U_setWhole ∈ jALL ∧ Cond.code y_U_setWhole b_U_setWhole 3 (Option.none : Option Jvm.ClassFile.FieldType) ∈ jALL ∧ Cond.initialized y_U_setWhole.cls ∈ jALL := ⟨wd_292, wd_293, wd_294, wd_295, wd_2⟩
theorem cw_X_117 : Cond.methodLink "NumberTower" 117 y_U_setReal ∈ jALL ∧ Cond.instanceMethod y_U_setReal ∈ jALL ∧ Cond.selects "NumberTower$Num" y_U_setReal y_U_setReal ∈ jALL ∧ Cond.code y_U_setReal b_U_setReal 8 (Option.none : Option Jvm.ClassFile.FieldType) ∈ jALL ∧ Cond.initialized y_U_setReal.cls ∈ jALL := ⟨wd_335, wd_336, wd_337, wd_338, wd_2⟩
theorem cw_X_121 : Cond.methodLink "NumberTower" 121 y_X_numberAt ∈ jALL ∧ Cond.instanceMethod y_X_numberAt ∈ jALL ∧ Cond.selects "NumberTower" y_X_numberAt y_X_numberAt ∈ jALL ∧ Cond.code y_X_numberAt b_X_numberAt 2 (Option.some (Jvm.ClassFile.FieldType.object "NumberTower$Num")) ∈ jALL ∧ Cond.initialized y_X_numberAt.cls ∈ jALL := ⟨wd_368, wd_370, ws_1, wd_371, wd_1⟩
theorem cw_X_125 : Cond.methodLink "NumberTower" 125 y_U_isThere ∈ jALL ∧ Cond.instanceMethod y_U_isThere ∈ jALL ∧ Cond.selects "NumberTower$Num" y_U_isThere y_U_isThere ∈ jALL ∧ Cond.code y_U_isThere b_U_isThere 1 (Option.some Jvm.ClassFile.FieldType.boolean) ∈ jALL ∧ Cond.initialized y_U_isThere.cls ∈ jALL := ⟨wd_372, wd_373, wd_374, wd_375, wd_2⟩
theorem cw_X_128 : Cond.methodLink "NumberTower" 128 y_X_takes ∈ jALL ∧ Cond.static y_X_takes ∈ jALL ∧ Cond.code y_X_takes b_X_takes 4 (Option.some Jvm.ClassFile.FieldType.boolean) ∈ jALL ∧ Cond.initialized y_X_takes.cls ∈ jALL := ⟨wd_663, wd_664, wd_665, wd_1⟩
theorem gf_X_134 (hk : k < N) (hF : F k = .inr (3, fs)) (hv : fs[1]? = some v) (d : decode cc pc = .ok (.getfield 134, 3)) (kk : J l R nb "NumberTower" cc nL ret D jCl tys A X Qx ad N kc ks (pc + 3) lv (v :: st) F) : J l R nb "NumberTower" cc nL ret D jCl tys A X Qx ad N kc ks pc lv (.ref (ad k) :: st) F :=
  J_get (C := "NumberTower$Num") (T := F_U) (n := 4) in_U rfl 1 (by decide) wd_62 rfl hk hF hv d kk
theorem cw_X_139 : Cond.methodLink "NumberTower" 139 y_U_small ∈ jALL ∧ Cond.instanceMethod y_U_small ∈ jALL ∧ Cond.selects "NumberTower$Num" y_U_small y_U_small ∈ jALL ∧ Cond.code y_U_small b_U_small 1 (Option.some Jvm.ClassFile.FieldType.int) ∈ jALL ∧ Cond.initialized y_U_small.cls ∈ jALL := ⟨wd_676, wd_671, wd_672, wd_673, wd_2⟩
theorem cw_X_143 : Cond.methodLink "NumberTower" 143 y_D_raise ∈ jALL ∧ Cond.instanceMethod y_D_raise ∈ jALL ∧ Cond.selects "NumberTower$Desk" y_D_raise y_D_raise ∈ jALL ∧ Cond.code y_D_raise b_D_raise 4 (Option.none : Option Jvm.ClassFile.FieldType) ∈ jALL ∧ Cond.initialized y_D_raise.cls ∈ jALL := ⟨wd_677, wd_678, wd_679, wd_680, wd_5⟩
theorem cw_X_147 : Cond.methodLink "NumberTower" 147 y_D_shift ∈ jALL ∧ Cond.instanceMethod y_D_shift ∈ jALL ∧ Cond.selects "NumberTower$Desk" y_D_shift y_D_shift ∈ jALL ∧ Cond.code y_D_shift b_D_shift 3 (Option.none : Option Jvm.ClassFile.FieldType) ∈ jALL ∧ Cond.initialized y_D_shift.cls ∈ jALL := ⟨wd_687, wd_688, wd_689, wd_690, wd_5⟩
theorem cw_X_150 : Cond.methodLink "NumberTower" 150 y_D_mix ∈ jALL ∧ Cond.instanceMethod y_D_mix ∈ jALL ∧ Cond.selects "NumberTower$Desk" y_D_mix y_D_mix ∈ jALL ∧ Cond.code y_D_mix b_D_mix 9 (Option.none : Option Jvm.ClassFile.FieldType) ∈ jALL ∧ Cond.initialized y_D_mix.cls ∈ jALL := ⟨wd_701, wd_702, wd_703, wd_704, wd_5⟩
theorem cw_X_154 : Cond.methodLink "NumberTower" 154 y_D_reckon ∈ jALL ∧ Cond.instanceMethod y_D_reckon ∈ jALL ∧ Cond.selects "NumberTower$Desk" y_D_reckon y_D_reckon ∈ jALL ∧ Cond.code y_D_reckon b_D_reckon 5 (Option.none : Option Jvm.ClassFile.FieldType) ∈ jALL ∧ Cond.initialized y_D_reckon.cls ∈ jALL := ⟨wd_711, wd_712, wd_713, wd_714, wd_5⟩
theorem gf_X_157 (hk : k < N) (hF : F k = .inr (3, fs)) (hv : fs[0]? = some v) (d : decode cc pc = .ok (.getfield 157, 3)) (kk : J l R nb "NumberTower" cc nL ret D jCl tys A X Qx ad N kc ks (pc + 3) lv (v :: st) F) : J l R nb "NumberTower" cc nL ret D jCl tys A X Qx ad N kc ks pc lv (.ref (ad k) :: st) F :=
  J_get (C := "NumberTower$Num") (T := F_U) (n := 4) in_U rfl 0 (by decide) wd_57 rfl hk hF hv d kk
theorem cw_X_160 : Cond.methodLink "NumberTower" 160 y_U_isWholeWithin ∈ jALL ∧ Cond.instanceMethod y_U_isWholeWithin ∈ jALL ∧ Cond.selects "NumberTower$Num" y_U_isWholeWithin y_U_isWholeWithin ∈ jALL ∧ Cond.code y_U_isWholeWithin b_U_isWholeWithin 3 (Option.some Jvm.ClassFile.FieldType.boolean) ∈ jALL ∧ Cond.initialized y_U_isWholeWithin.cls ∈ jALL := ⟨wd_666, wd_667, wd_668, wd_669, wd_2⟩
theorem gf_X_166 (hk : k < N) (hF : F k = .inr (3, fs)) (hv : fs[2]? = some v) (d : decode cc pc = .ok (.getfield 166, 3)) (kk : J l R nb "NumberTower" cc nL ret D jCl tys A X Qx ad N kc ks (pc + 3) lv (v :: st) F) : J l R nb "NumberTower" cc nL ret D jCl tys A X Qx ad N kc ks pc lv (.ref (ad k) :: st) F :=
  J_get (C := "NumberTower$Num") (T := F_U) (n := 4) in_U rfl 2 (by decide) wd_67 rfl hk hF hv d kk
theorem cw_X_169 : Cond.methodLink "NumberTower" 169 y_D_raiseModulo ∈ jALL ∧ Cond.instanceMethod y_D_raiseModulo ∈ jALL ∧ Cond.selects "NumberTower$Desk" y_D_raiseModulo y_D_raiseModulo ∈ jALL ∧ Cond.code y_D_raiseModulo b_D_raiseModulo 6 (Option.some Jvm.ClassFile.FieldType.boolean) ∈ jALL ∧ Cond.initialized y_D_raiseModulo.cls ∈ jALL := ⟨wd_740, wd_741, wd_742, wd_743, wd_5⟩
theorem cw_X_177 : Cond.methodLink "NumberTower" 177 y_D_turnTo ∈ jALL ∧ Cond.instanceMethod y_D_turnTo ∈ jALL ∧ Cond.selects "NumberTower$Desk" y_D_turnTo y_D_turnTo ∈ jALL ∧ Cond.code y_D_turnTo b_D_turnTo 3 (Option.none : Option Jvm.ClassFile.FieldType) ∈ jALL ∧ Cond.initialized y_D_turnTo.cls ∈ jALL := ⟨wd_760, wd_761, wd_762, wd_763, wd_5⟩
theorem cw_X_183 : Cond.methodLink "NumberTower" 183 y_D_roundTo ∈ jALL ∧ Cond.instanceMethod y_D_roundTo ∈ jALL ∧ Cond.selects "NumberTower$Desk" y_D_roundTo y_D_roundTo ∈ jALL ∧ Cond.code y_D_roundTo b_D_roundTo 4 (Option.none : Option Jvm.ClassFile.FieldType) ∈ jALL ∧ Cond.initialized y_D_roundTo.cls ∈ jALL := ⟨wd_772, wd_773, wd_774, wd_775, wd_5⟩
theorem cw_X_186 : Cond.methodLink "NumberTower" 186 y_X_holdsRatio ∈ jALL ∧ Cond.instanceMethod y_X_holdsRatio ∈ jALL ∧ Cond.selects "NumberTower" y_X_holdsRatio y_X_holdsRatio ∈ jALL ∧ Cond.code y_X_holdsRatio b_X_holdsRatio 3 (Option.some Jvm.ClassFile.FieldType.boolean) ∈ jALL ∧ Cond.initialized y_X_holdsRatio.cls ∈ jALL := ⟨wd_793, wd_795, ws_17, wd_796, wd_1⟩
theorem cw_X_191 : Cond.methodLink "NumberTower" 191 y_D_startSum ∈ jALL ∧ Cond.instanceMethod y_D_startSum ∈ jALL ∧ Cond.selects "NumberTower$Desk" y_D_startSum y_D_startSum ∈ jALL ∧ Cond.code y_D_startSum b_D_startSum 1 (Option.none : Option Jvm.ClassFile.FieldType) ∈ jALL ∧ Cond.initialized y_D_startSum.cls ∈ jALL := ⟨wd_798, wd_799, wd_800, wd_801, wd_5⟩
theorem cw_X_194 : Cond.methodLink "NumberTower" 194 y_D_addToSum ∈ jALL ∧ Cond.instanceMethod y_D_addToSum ∈ jALL ∧ Cond.selects "NumberTower$Desk" y_D_addToSum y_D_addToSum ∈ jALL ∧ Cond.code y_D_addToSum b_D_addToSum 2 (Option.none : Option Jvm.ClassFile.FieldType) ∈ jALL ∧ Cond.initialized y_D_addToSum.cls ∈ jALL := ⟨wd_802, wd_803, wd_804, wd_805, wd_5⟩
theorem cw_X_198 : Cond.methodLink "NumberTower" 198 y_D_finishSum ∈ jALL ∧ Cond.instanceMethod y_D_finishSum ∈ jALL ∧ Cond.selects "NumberTower$Desk" y_D_finishSum y_D_finishSum ∈ jALL ∧ Cond.code y_D_finishSum b_D_finishSum 1 (Option.none : Option Jvm.ClassFile.FieldType) ∈ jALL ∧ Cond.initialized y_D_finishSum.cls ∈ jALL := ⟨wd_806, wd_807, wd_808, wd_809, wd_5⟩
theorem cw_X_201 : Cond.methodLink "NumberTower" 201 y_D_orderOf ∈ jALL ∧ Cond.instanceMethod y_D_orderOf ∈ jALL ∧ Cond.selects "NumberTower$Desk" y_D_orderOf y_D_orderOf ∈ jALL ∧ Cond.code y_D_orderOf b_D_orderOf 3 (Option.some Jvm.ClassFile.FieldType.int) ∈ jALL ∧ Cond.initialized y_D_orderOf.cls ∈ jALL := ⟨wd_376, wd_377, wd_378, wd_379, wd_5⟩
theorem cw_X_205 : Cond.methodLink "NumberTower" 205 y_D_hashOf ∈ jALL ∧ Cond.instanceMethod y_D_hashOf ∈ jALL ∧ Cond.selects "NumberTower$Desk" y_D_hashOf y_D_hashOf ∈ jALL ∧ Cond.code y_D_hashOf b_D_hashOf 6 (Option.some Jvm.ClassFile.FieldType.long) ∈ jALL ∧ Cond.initialized y_D_hashOf.cls ∈ jALL := ⟨wd_392, wd_393, wd_394, wd_395, wd_5⟩
theorem gf_X_53 (hk : k < N) (hF : F k = .inr (0, fs)) (hv : fs[6]? = some v) (d : decode cc pc = .ok (.getfield 53, 3)) (kk : J l R nb "NumberTower" cc nL ret D jCl tys A X Qx ad N kc ks (pc + 3) lv (v :: st) F) : J l R nb "NumberTower" cc nL ret D jCl tys A X Qx ad N kc ks pc lv (.ref (ad k) :: st) F :=
  J_get (C := "NumberTower") (T := F_X) (n := 7) in_X rfl 6 (by decide) wd_253 rfl hk hF hv d kk
theorem cw_X_211 : Cond.methodLink "NumberTower" 211 y_P_showNumber ∈ jALL ∧ Cond.instanceMethod y_P_showNumber ∈ jALL ∧ Cond.selects "NumberTower$Pen" y_P_showNumber y_P_showNumber ∈ jALL ∧ Cond.code y_P_showNumber b_P_showNumber 2 (Option.none : Option Jvm.ClassFile.FieldType) ∈ jALL ∧ Cond.initialized y_P_showNumber.cls ∈ jALL := ⟨wd_818, wd_819, wd_820, wd_821, wd_8⟩
theorem gf_X_214 (hk : k < N) (hF : F k = .inr (4, fs)) (hv : fs[0]? = some v) (d : decode cc pc = .ok (.getfield 214, 3)) (kk : J l R nb "NumberTower" cc nL ret D jCl tys A X Qx ad N kc ks (pc + 3) lv (v :: st) F) : J l R nb "NumberTower" cc nL ret D jCl tys A X Qx ad N kc ks pc lv (.ref (ad k) :: st) F :=
  J_get (C := "NumberTower$Pen") (T := F_P) (n := 8) in_P rfl 0 (by decide) wd_222 rfl hk hF hv d kk
theorem gf_X_46 (hk : k < N) (hF : F k = .inr (0, fs)) (hv : fs[5]? = some v) (d : decode cc pc = .ok (.getfield 46, 3)) (kk : J l R nb "NumberTower" cc nL ret D jCl tys A X Qx ad N kc ks (pc + 3) lv (v :: st) F) : J l R nb "NumberTower" cc nL ret D jCl tys A X Qx ad N kc ks pc lv (.ref (ad k) :: st) F :=
  J_get (C := "NumberTower") (T := F_X) (n := 7) in_X rfl 5 (by decide) wd_252 rfl hk hF hv d kk
theorem cw_X_217 : Cond.methodLink "NumberTower" 217 y_S_parse ∈ jALL ∧ Cond.instanceMethod y_S_parse ∈ jALL ∧ Cond.selects "NumberTower$Spec" y_S_parse y_S_parse ∈ jALL ∧ Cond.code y_S_parse b_S_parse 1 (Option.some Jvm.ClassFile.FieldType.boolean) ∈ jALL ∧ Cond.initialized y_S_parse.cls ∈ jALL := ⟨wd_911, wd_912, wd_913, wd_914, wd_7⟩
theorem cw_X_219 : Cond.methodLink "NumberTower" 219 y_S_suits ∈ jALL ∧ Cond.instanceMethod y_S_suits ∈ jALL ∧ Cond.selects "NumberTower$Spec" y_S_suits y_S_suits ∈ jALL ∧ Cond.code y_S_suits b_S_suits 3 (Option.some Jvm.ClassFile.FieldType.boolean) ∈ jALL ∧ Cond.initialized y_S_suits.cls ∈ jALL := ⟨wd_936, wd_937, wd_938, wd_939, wd_7⟩
theorem cw_X_224 : Cond.methodLink "NumberTower" 224 y_P_formatNumber ∈ jALL ∧ Cond.instanceMethod y_P_formatNumber ∈ jALL ∧ Cond.selects "NumberTower$Pen" y_P_formatNumber y_P_formatNumber ∈ jALL ∧ Cond.code y_P_formatNumber b_P_formatNumber 4 (Option.none : Option Jvm.ClassFile.FieldType) ∈ jALL ∧ Cond.initialized y_P_formatNumber.cls ∈ jALL := ⟨wd_941, wd_942, wd_943, wd_944, wd_8⟩
theorem cw_X_228 : Cond.methodLink "NumberTower" 228 y_T_at ∈ jALL ∧ Cond.instanceMethod y_T_at ∈ jALL ∧ Cond.selects "NumberTower$Text" y_T_at y_T_at ∈ jALL ∧ Cond.code y_T_at b_T_at 2 (Option.some Jvm.ClassFile.FieldType.int) ∈ jALL ∧ Cond.initialized y_T_at.cls ∈ jALL := ⟨wd_462, wd_463, wd_464, wd_465, wd_4⟩
theorem cw_X_231 : Cond.methodLink "NumberTower" 231 y_U_worth ∈ jALL ∧ Cond.instanceMethod y_U_worth ∈ jALL ∧ Cond.selects "NumberTower$Num" y_U_worth y_U_worth ∈ jALL ∧ Cond.code y_U_worth b_U_worth 5 (Option.some Jvm.ClassFile.FieldType.double) ∈ jALL ∧ Cond.initialized y_U_worth.cls ∈ jALL := ⟨wd_474, wd_475, wd_476, wd_477, wd_2⟩
theorem cw_X_237 : Cond.methodLink "NumberTower" 237 y_N_sixtyBits ∈ jALL ∧ Cond.instanceMethod y_N_sixtyBits ∈ jALL ∧ Cond.selects "NumberTower$Natural" y_N_sixtyBits y_N_sixtyBits ∈ jALL ∧ Cond.code y_N_sixtyBits b_N_sixtyBits 3 (Option.some Jvm.ClassFile.FieldType.long) ∈ jALL ∧ Cond.initialized y_N_sixtyBits.cls ∈ jALL := ⟨wd_488, wd_405, wd_406, wd_407, wd_3⟩
theorem gf_X_16 (hk : k < N) (hF : F k = .inr (0, fs)) (hv : fs[1]? = some v) (d : decode cc pc = .ok (.getfield 16, 3)) (kk : J l R nb "NumberTower" cc nL ret D jCl tys A X Qx ad N kc ks (pc + 3) lv (v :: st) F) : J l R nb "NumberTower" cc nL ret D jCl tys A X Qx ad N kc ks pc lv (.ref (ad k) :: st) F :=
  J_get (C := "NumberTower") (T := F_X) (n := 7) in_X rfl 1 (by decide) wd_248 rfl hk hF hv d kk
theorem cw_X_241 : Cond.methodLink "NumberTower" 241 y_U_become ∈ jALL ∧ Cond.instanceMethod y_U_become ∈ jALL ∧ Cond.selects "NumberTower$Num" y_U_become y_U_become ∈ jALL ∧ Cond.code y_U_become b_U_become 2 (Option.none : Option Jvm.ClassFile.FieldType) ∈ jALL ∧ Cond.initialized y_U_become.cls ∈ jALL := ⟨wd_319, wd_320, wd_321, wd_322, wd_2⟩
theorem pf_M_7 {x : Nat} (hk : k < N) (hF : F k = .inr (8, fs)) (hl0 : 0 < fs.length) (hown : "NumberTowerModel" = (F_M 0).1) (hini : ∀ s me, X s me → me.name = "<init>") (d : decode cc pc = .ok (.putfield 7, 3)) (kk : J l R nb "NumberTowerModel" cc nL ret D jCl tys A X Qx ad N kc ks (pc + 3) lv st (va_up F k (.inr (8, fs.set 0 (.ref x))))) : J l R nb "NumberTowerModel" cc nL ret D jCl tys A X Qx ad N kc ks pc lv ((.ref x) :: .ref (ad k) :: st) F :=
  J_putF (C := "NumberTowerModel") (T := F_M) (n := 30) in_M tt_M tt_M_ok n_M rfl 0 (by decide) wd_985 rfl rfl hown hini (ty := .array .int) (tt_M_ok 0 (by decide)) hk hF hl0 rfl rfl d kk
theorem pf_M_13 {x : Nat} (hk : k < N) (hF : F k = .inr (8, fs)) (hl0 : 1 < fs.length) (hown : "NumberTowerModel" = (F_M 1).1) (hini : ∀ s me, X s me → me.name = "<init>") (d : decode cc pc = .ok (.putfield 13, 3)) (kk : J l R nb "NumberTowerModel" cc nL ret D jCl tys A X Qx ad N kc ks (pc + 3) lv st (va_up F k (.inr (8, fs.set 1 (.ref x))))) : J l R nb "NumberTowerModel" cc nL ret D jCl tys A X Qx ad N kc ks pc lv ((.ref x) :: .ref (ad k) :: st) F :=
  J_putF (C := "NumberTowerModel") (T := F_M) (n := 30) in_M tt_M tt_M_ok n_M rfl 1 (by decide) wd_986 rfl rfl hown hini (ty := .array .int) (tt_M_ok 1 (by decide)) hk hF hl0 rfl rfl d kk
theorem pf_M_16 {x : Nat} (hk : k < N) (hF : F k = .inr (8, fs)) (hl0 : 2 < fs.length) (hown : "NumberTowerModel" = (F_M 2).1) (hini : ∀ s me, X s me → me.name = "<init>") (d : decode cc pc = .ok (.putfield 16, 3)) (kk : J l R nb "NumberTowerModel" cc nL ret D jCl tys A X Qx ad N kc ks (pc + 3) lv st (va_up F k (.inr (8, fs.set 2 (.ref x))))) : J l R nb "NumberTowerModel" cc nL ret D jCl tys A X Qx ad N kc ks pc lv ((.ref x) :: .ref (ad k) :: st) F :=
  J_putF (C := "NumberTowerModel") (T := F_M) (n := 30) in_M tt_M tt_M_ok n_M rfl 2 (by decide) wd_987 rfl rfl hown hini (ty := .array .int) (tt_M_ok 2 (by decide)) hk hF hl0 rfl rfl d kk
theorem pf_M_19 {x : Nat} (hk : k < N) (hF : F k = .inr (8, fs)) (hl0 : 3 < fs.length) (hown : "NumberTowerModel" = (F_M 3).1) (hini : ∀ s me, X s me → me.name = "<init>") (d : decode cc pc = .ok (.putfield 19, 3)) (kk : J l R nb "NumberTowerModel" cc nL ret D jCl tys A X Qx ad N kc ks (pc + 3) lv st (va_up F k (.inr (8, fs.set 3 (.ref x))))) : J l R nb "NumberTowerModel" cc nL ret D jCl tys A X Qx ad N kc ks pc lv ((.ref x) :: .ref (ad k) :: st) F :=
  J_putF (C := "NumberTowerModel") (T := F_M) (n := 30) in_M tt_M tt_M_ok n_M rfl 3 (by decide) wd_988 rfl rfl hown hini (ty := .array .boolean) (tt_M_ok 3 (by decide)) hk hF hl0 rfl rfl d kk
theorem pf_M_23 {x : Nat} (hk : k < N) (hF : F k = .inr (8, fs)) (hl0 : 4 < fs.length) (hown : "NumberTowerModel" = (F_M 4).1) (hini : ∀ s me, X s me → me.name = "<init>") (d : decode cc pc = .ok (.putfield 23, 3)) (kk : J l R nb "NumberTowerModel" cc nL ret D jCl tys A X Qx ad N kc ks (pc + 3) lv st (va_up F k (.inr (8, fs.set 4 (.ref x))))) : J l R nb "NumberTowerModel" cc nL ret D jCl tys A X Qx ad N kc ks pc lv ((.ref x) :: .ref (ad k) :: st) F :=
  J_putF (C := "NumberTowerModel") (T := F_M) (n := 30) in_M tt_M tt_M_ok n_M rfl 4 (by decide) wd_989 rfl rfl hown hini (ty := .array .double) (tt_M_ok 4 (by decide)) hk hF hl0 rfl rfl d kk
theorem pf_M_27 {x : Nat} (hk : k < N) (hF : F k = .inr (8, fs)) (hl0 : 11 < fs.length) (hown : "NumberTowerModel" = (F_M 11).1) (hini : ∀ s me, X s me → me.name = "<init>") (d : decode cc pc = .ok (.putfield 27, 3)) (kk : J l R nb "NumberTowerModel" cc nL ret D jCl tys A X Qx ad N kc ks (pc + 3) lv st (va_up F k (.inr (8, fs.set 11 (.ref x))))) : J l R nb "NumberTowerModel" cc nL ret D jCl tys A X Qx ad N kc ks pc lv ((.ref x) :: .ref (ad k) :: st) F :=
  J_putF (C := "NumberTowerModel") (T := F_M) (n := 30) in_M tt_M tt_M_ok n_M rfl 11 (by decide) wd_996 rfl rfl hown hini (ty := .array .int) (tt_M_ok 11 (by decide)) hk hF hl0 rfl rfl d kk
theorem pf_M_30 {x : Nat} (hk : k < N) (hF : F k = .inr (8, fs)) (hl0 : 13 < fs.length) (hown : "NumberTowerModel" = (F_M 13).1) (hini : ∀ s me, X s me → me.name = "<init>") (d : decode cc pc = .ok (.putfield 30, 3)) (kk : J l R nb "NumberTowerModel" cc nL ret D jCl tys A X Qx ad N kc ks (pc + 3) lv st (va_up F k (.inr (8, fs.set 13 (.ref x))))) : J l R nb "NumberTowerModel" cc nL ret D jCl tys A X Qx ad N kc ks pc lv ((.ref x) :: .ref (ad k) :: st) F :=
  J_putF (C := "NumberTowerModel") (T := F_M) (n := 30) in_M tt_M tt_M_ok n_M rfl 13 (by decide) wd_998 rfl rfl hown hini (ty := .array .int) (tt_M_ok 13 (by decide)) hk hF hl0 rfl rfl d kk
theorem pf_M_33 {x : Nat} (hk : k < N) (hF : F k = .inr (8, fs)) (hl0 : 15 < fs.length) (hown : "NumberTowerModel" = (F_M 15).1) (hini : ∀ s me, X s me → me.name = "<init>") (d : decode cc pc = .ok (.putfield 33, 3)) (kk : J l R nb "NumberTowerModel" cc nL ret D jCl tys A X Qx ad N kc ks (pc + 3) lv st (va_up F k (.inr (8, fs.set 15 (.ref x))))) : J l R nb "NumberTowerModel" cc nL ret D jCl tys A X Qx ad N kc ks pc lv ((.ref x) :: .ref (ad k) :: st) F :=
  J_putF (C := "NumberTowerModel") (T := F_M) (n := 30) in_M tt_M tt_M_ok n_M rfl 15 (by decide) wd_1000 rfl rfl hown hini (ty := .array .int) (tt_M_ok 15 (by decide)) hk hF hl0 rfl rfl d kk
theorem pf_M_36 {x : Nat} (hk : k < N) (hF : F k = .inr (8, fs)) (hl0 : 17 < fs.length) (hown : "NumberTowerModel" = (F_M 17).1) (hini : ∀ s me, X s me → me.name = "<init>") (d : decode cc pc = .ok (.putfield 36, 3)) (kk : J l R nb "NumberTowerModel" cc nL ret D jCl tys A X Qx ad N kc ks (pc + 3) lv st (va_up F k (.inr (8, fs.set 17 (.ref x))))) : J l R nb "NumberTowerModel" cc nL ret D jCl tys A X Qx ad N kc ks pc lv ((.ref x) :: .ref (ad k) :: st) F :=
  J_putF (C := "NumberTowerModel") (T := F_M) (n := 30) in_M tt_M tt_M_ok n_M rfl 17 (by decide) wd_1002 rfl rfl hown hini (ty := .array .int) (tt_M_ok 17 (by decide)) hk hF hl0 rfl rfl d kk
theorem gf_M_39 (hk : k < N) (hF : F k = .inr (8, fs)) (hv : fs[10]? = some v) (d : decode cc pc = .ok (.getfield 39, 3)) (kk : J l R nb "NumberTowerModel" cc nL ret D jCl tys A X Qx ad N kc ks (pc + 3) lv (v :: st) F) : J l R nb "NumberTowerModel" cc nL ret D jCl tys A X Qx ad N kc ks pc lv (.ref (ad k) :: st) F :=
  J_get (C := "NumberTowerModel") (T := F_M) (n := 30) in_M rfl 10 (by decide) wd_995 rfl hk hF hv d kk
theorem pf_M_39 {x : Int32} (hk : k < N) (hF : F k = .inr (8, fs)) (hl0 : 10 < fs.length) (d : decode cc pc = .ok (.putfield 39, 3)) (kk : J l R nb "NumberTowerModel" cc nL ret D jCl tys A X Qx ad N kc ks (pc + 3) lv st (va_up F k (.inr (8, fs.set 10 (.int x))))) : J l R nb "NumberTowerModel" cc nL ret D jCl tys A X Qx ad N kc ks pc lv ((.int x) :: .ref (ad k) :: st) F :=
  J_put (C := "NumberTowerModel") (T := F_M) (n := 30) in_M tt_M tt_M_ok n_M rfl 10 (by decide) wd_995 rfl rfl (ty := .int) (tt_M_ok 10 (by decide)) hk hF hl0 rfl rfl d kk
theorem gf_M_13 (hk : k < N) (hF : F k = .inr (8, fs)) (hv : fs[1]? = some v) (d : decode cc pc = .ok (.getfield 13, 3)) (kk : J l R nb "NumberTowerModel" cc nL ret D jCl tys A X Qx ad N kc ks (pc + 3) lv (v :: st) F) : J l R nb "NumberTowerModel" cc nL ret D jCl tys A X Qx ad N kc ks pc lv (.ref (ad k) :: st) F :=
  J_get (C := "NumberTowerModel") (T := F_M) (n := 30) in_M rfl 1 (by decide) wd_986 rfl hk hF hv d kk
theorem gf_M_7 (hk : k < N) (hF : F k = .inr (8, fs)) (hv : fs[0]? = some v) (d : decode cc pc = .ok (.getfield 7, 3)) (kk : J l R nb "NumberTowerModel" cc nL ret D jCl tys A X Qx ad N kc ks (pc + 3) lv (v :: st) F) : J l R nb "NumberTowerModel" cc nL ret D jCl tys A X Qx ad N kc ks pc lv (.ref (ad k) :: st) F :=
  J_get (C := "NumberTowerModel") (T := F_M) (n := 30) in_M rfl 0 (by decide) wd_985 rfl hk hF hv d kk
theorem cw_M_45 : Cond.methodLink "NumberTowerModel" 45 y_M_limb ∈ jALL ∧ Cond.instanceMethod y_M_limb ∈ jALL ∧ Cond.selects "NumberTowerModel" y_M_limb y_M_limb ∈ jALL ∧ Cond.code y_M_limb b_M_limb 3 (Option.some Jvm.ClassFile.FieldType.int) ∈ jALL ∧ Cond.initialized y_M_limb.cls ∈ jALL := ⟨wd_1126, wd_1128, ws_45, wd_1129, wd_9⟩
theorem cw_M_50 : Cond.methodLink "NumberTowerModel" 50 y_M_trim ∈ jALL ∧ Cond.instanceMethod y_M_trim ∈ jALL ∧ Cond.selects "NumberTowerModel" y_M_trim y_M_trim ∈ jALL ∧ Cond.code y_M_trim b_M_trim 2 (Option.none : Option Jvm.ClassFile.FieldType) ∈ jALL ∧ Cond.initialized y_M_trim.cls ∈ jALL := ⟨wd_1130, wd_1132, ws_46, wd_1133, wd_9⟩
theorem cw_M_54 : Cond.methodLink "NumberTowerModel" 54 y_M_grow ∈ jALL ∧ Cond.instanceMethod y_M_grow ∈ jALL ∧ Cond.selects "NumberTowerModel" y_M_grow y_M_grow ∈ jALL ∧ Cond.code y_M_grow b_M_grow 9 (Option.none : Option Jvm.ClassFile.FieldType) ∈ jALL ∧ Cond.initialized y_M_grow.cls ∈ jALL := ⟨wd_1267, wd_1269, ws_74, wd_1270, wd_9⟩
theorem cw_M_58 : Cond.methodLink "NumberTowerModel" 58 y_M_copy ∈ jALL ∧ Cond.instanceMethod y_M_copy ∈ jALL ∧ Cond.selects "NumberTowerModel" y_M_copy y_M_copy ∈ jALL ∧ Cond.code y_M_copy b_M_copy 4 (Option.none : Option Jvm.ClassFile.FieldType) ∈ jALL ∧ Cond.initialized y_M_copy.cls ∈ jALL := ⟨wd_1118, wd_1120, ws_43, wd_1121, wd_9⟩
theorem cw_M_62 : Cond.methodLink "NumberTowerModel" 62 y_M_bits ∈ jALL ∧ Cond.instanceMethod y_M_bits ∈ jALL ∧ Cond.selects "NumberTowerModel" y_M_bits y_M_bits ∈ jALL ∧ Cond.code y_M_bits b_M_bits 4 (Option.some Jvm.ClassFile.FieldType.int) ∈ jALL ∧ Cond.initialized y_M_bits.cls ∈ jALL := ⟨wd_1110, wd_1112, ws_41, wd_1113, wd_9⟩
theorem cw_M_66 : Cond.methodLink "NumberTowerModel" 66 y_M_up ∈ jALL ∧ Cond.instanceMethod y_M_up ∈ jALL ∧ Cond.selects "NumberTowerModel" y_M_up y_M_up ∈ jALL ∧ Cond.code y_M_up b_M_up 8 (Option.none : Option Jvm.ClassFile.FieldType) ∈ jALL ∧ Cond.initialized y_M_up.cls ∈ jALL := ⟨wd_1122, wd_1124, ws_44, wd_1125, wd_9⟩
theorem cw_M_69 : Cond.methodLink "NumberTowerModel" 69 y_M_step ∈ jALL ∧ Cond.instanceMethod y_M_step ∈ jALL ∧ Cond.selects "NumberTowerModel" y_M_step y_M_step ∈ jALL ∧ Cond.code y_M_step b_M_step 19 (Option.some Jvm.ClassFile.FieldType.int) ∈ jALL ∧ Cond.initialized y_M_step.cls ∈ jALL := ⟨wd_1138, wd_1140, ws_48, wd_1141, wd_9⟩
theorem cw_M_72 : Cond.methodLink "NumberTowerModel" 72 y_M_down ∈ jALL ∧ Cond.instanceMethod y_M_down ∈ jALL ∧ Cond.selects "NumberTowerModel" y_M_down y_M_down ∈ jALL ∧ Cond.code y_M_down b_M_down 9 (Option.none : Option Jvm.ClassFile.FieldType) ∈ jALL ∧ Cond.initialized y_M_down.cls ∈ jALL := ⟨wd_1143, wd_1145, ws_49, wd_1146, wd_9⟩
theorem cw_M_75 : Cond.methodLink "NumberTowerModel" 75 y_M_zero ∈ jALL ∧ Cond.instanceMethod y_M_zero ∈ jALL ∧ Cond.selects "NumberTowerModel" y_M_zero y_M_zero ∈ jALL ∧ Cond.code y_M_zero b_M_zero 2 (Option.some Jvm.ClassFile.FieldType.boolean) ∈ jALL ∧ Cond.initialized y_M_zero.cls ∈ jALL := ⟨wd_1106, wd_1108, ws_40, wd_1109, wd_9⟩
theorem cw_M_79 : Cond.methodLink "NumberTowerModel" 79 y_M_divide ∈ jALL ∧ Cond.instanceMethod y_M_divide ∈ jALL ∧ Cond.selects "NumberTowerModel" y_M_divide y_M_divide ∈ jALL ∧ Cond.code y_M_divide b_M_divide 8 (Option.none : Option Jvm.ClassFile.FieldType) ∈ jALL ∧ Cond.initialized y_M_divide.cls ∈ jALL := ⟨wd_1134, wd_1136, ws_47, wd_1137, wd_9⟩
theorem cw_M_82 : Cond.methodLink "NumberTowerModel" 82 y_M_put ∈ jALL ∧ Cond.instanceMethod y_M_put ∈ jALL ∧ Cond.selects "NumberTowerModel" y_M_put y_M_put ∈ jALL ∧ Cond.code y_M_put b_M_put 6 (Option.none : Option Jvm.ClassFile.FieldType) ∈ jALL ∧ Cond.initialized y_M_put.cls ∈ jALL := ⟨wd_1089, wd_1091, ws_36, wd_1092, wd_9⟩
theorem pf_M_94 (hk : k < N) (hF : F k = .inr (8, fs)) (hl0 : 8 < fs.length) (hb : narrow .boolean v = v ∧ fits .boolean v = true) (d : decode cc pc = .ok (.putfield 94, 3)) (kk : J l R nb "NumberTowerModel" cc nL ret D jCl tys A X Qx ad N kc ks (pc + 3) lv st (va_up F k (.inr (8, fs.set 8 v)))) : J l R nb "NumberTowerModel" cc nL ret D jCl tys A X Qx ad N kc ks pc lv (v :: .ref (ad k) :: st) F :=
  J_put (C := "NumberTowerModel") (T := F_M) (n := 30) in_M tt_M tt_M_ok n_M rfl 8 (by decide) wd_993 rfl rfl (ty := .boolean) (tt_M_ok 8 (by decide)) hk hF hl0 hb.1 hb.2 d kk
theorem gf_M_94 (hk : k < N) (hF : F k = .inr (8, fs)) (hv : fs[8]? = some v) (d : decode cc pc = .ok (.getfield 94, 3)) (kk : J l R nb "NumberTowerModel" cc nL ret D jCl tys A X Qx ad N kc ks (pc + 3) lv (v :: st) F) : J l R nb "NumberTowerModel" cc nL ret D jCl tys A X Qx ad N kc ks pc lv (.ref (ad k) :: st) F :=
  J_get (C := "NumberTowerModel") (T := F_M) (n := 30) in_M rfl 8 (by decide) wd_993 rfl hk hF hv d kk
theorem cw_M_98 : Cond.methodLink "NumberTowerModel" 98 y_M_quotient ∈ jALL ∧ Cond.instanceMethod y_M_quotient ∈ jALL ∧ Cond.selects "NumberTowerModel" y_M_quotient y_M_quotient ∈ jALL ∧ Cond.code y_M_quotient b_M_quotient 4 (Option.none : Option Jvm.ClassFile.FieldType) ∈ jALL ∧ Cond.initialized y_M_quotient.cls ∈ jALL := ⟨wd_1114, wd_1116, ws_42, wd_1117, wd_9⟩
theorem cw_M_101 : Cond.methodLink "NumberTowerModel" 101 y_M_low ∈ jALL ∧ Cond.instanceMethod y_M_low ∈ jALL ∧ Cond.selects "NumberTowerModel" y_M_low y_M_low ∈ jALL ∧ Cond.code y_M_low b_M_low 2 (Option.some Jvm.ClassFile.FieldType.long) ∈ jALL ∧ Cond.initialized y_M_low.cls ∈ jALL := ⟨wd_1147, wd_1149, ws_50, wd_1150, wd_9⟩
theorem cw_M_105 : Cond.methodLink "NumberTowerModel" 105 y_M_order ∈ jALL ∧ Cond.instanceMethod y_M_order ∈ jALL ∧ Cond.selects "NumberTowerModel" y_M_order y_M_order ∈ jALL ∧ Cond.code y_M_order b_M_order 4 (Option.some Jvm.ClassFile.FieldType.int) ∈ jALL ∧ Cond.initialized y_M_order.cls ∈ jALL := ⟨wd_1151, wd_1153, ws_51, wd_1154, wd_9⟩
theorem cw_M_108 : Cond.methodLink "NumberTowerModel" 108 y_M_isReal ∈ jALL ∧ Cond.static y_M_isReal ∈ jALL ∧ Cond.code y_M_isReal b_M_isReal 4 (Option.some Jvm.ClassFile.FieldType.boolean) ∈ jALL ∧ Cond.initialized y_M_isReal.cls ∈ jALL := ⟨wd_1157, wd_1158, wd_1159, wd_9⟩
theorem gf_M_16 (hk : k < N) (hF : F k = .inr (8, fs)) (hv : fs[2]? = some v) (d : decode cc pc = .ok (.getfield 16, 3)) (kk : J l R nb "NumberTowerModel" cc nL ret D jCl tys A X Qx ad N kc ks (pc + 3) lv (v :: st) F) : J l R nb "NumberTowerModel" cc nL ret D jCl tys A X Qx ad N kc ks pc lv (.ref (ad k) :: st) F :=
  J_get (C := "NumberTowerModel") (T := F_M) (n := 30) in_M rfl 2 (by decide) wd_987 rfl hk hF hv d kk
theorem gf_M_23 (hk : k < N) (hF : F k = .inr (8, fs)) (hv : fs[4]? = some v) (d : decode cc pc = .ok (.getfield 23, 3)) (kk : J l R nb "NumberTowerModel" cc nL ret D jCl tys A X Qx ad N kc ks (pc + 3) lv (v :: st) F) : J l R nb "NumberTowerModel" cc nL ret D jCl tys A X Qx ad N kc ks pc lv (.ref (ad k) :: st) F :=
  J_get (C := "NumberTowerModel") (T := F_M) (n := 30) in_M rfl 4 (by decide) wd_989 rfl hk hF hv d kk
theorem cw_M_114 : Cond.methodLink "NumberTowerModel" 114 y_M_split ∈ jALL ∧ Cond.instanceMethod y_M_split ∈ jALL ∧ Cond.selects "NumberTowerModel" y_M_split y_M_split ∈ jALL ∧ Cond.code y_M_split b_M_split 8 (Option.none : Option Jvm.ClassFile.FieldType) ∈ jALL ∧ Cond.initialized y_M_split.cls ∈ jALL := ⟨wd_1161, wd_1163, ws_52, wd_1164, wd_9⟩
theorem gf_M_19 (hk : k < N) (hF : F k = .inr (8, fs)) (hv : fs[3]? = some v) (d : decode cc pc = .ok (.getfield 19, 3)) (kk : J l R nb "NumberTowerModel" cc nL ret D jCl tys A X Qx ad N kc ks (pc + 3) lv (v :: st) F) : J l R nb "NumberTowerModel" cc nL ret D jCl tys A X Qx ad N kc ks pc lv (.ref (ad k) :: st) F :=
  J_get (C := "NumberTowerModel") (T := F_M) (n := 30) in_M rfl 3 (by decide) wd_988 rfl hk hF hv d kk
theorem cw_M_118 : Cond.methodLink "NumberTowerModel" 118 y_M_nearest ∈ jALL ∧ Cond.instanceMethod y_M_nearest ∈ jALL ∧ Cond.selects "NumberTowerModel" y_M_nearest y_M_nearest ∈ jALL ∧ Cond.code y_M_nearest b_M_nearest 10 (Option.some Jvm.ClassFile.FieldType.double) ∈ jALL ∧ Cond.initialized y_M_nearest.cls ∈ jALL := ⟨wd_1102, wd_1104, ws_39, wd_1105, wd_9⟩
theorem pf_M_122 {x : UInt64} (hk : k < N) (hF : F k = .inr (8, fs)) (hl0 : 9 < fs.length) (d : decode cc pc = .ok (.putfield 122, 3)) (kk : J l R nb "NumberTowerModel" cc nL ret D jCl tys A X Qx ad N kc ks (pc + 3) lv st (va_up F k (.inr (8, fs.set 9 (.double x))))) : J l R nb "NumberTowerModel" cc nL ret D jCl tys A X Qx ad N kc ks pc lv ((.double x) :: .ref (ad k) :: st) F :=
  J_put (C := "NumberTowerModel") (T := F_M) (n := 30) in_M tt_M tt_M_ok n_M rfl 9 (by decide) wd_994 rfl rfl (ty := .double) (tt_M_ok 9 (by decide)) hk hF hl0 rfl rfl d kk
theorem gf_M_122 (hk : k < N) (hF : F k = .inr (8, fs)) (hv : fs[9]? = some v) (d : decode cc pc = .ok (.getfield 122, 3)) (kk : J l R nb "NumberTowerModel" cc nL ret D jCl tys A X Qx ad N kc ks (pc + 3) lv (v :: st) F) : J l R nb "NumberTowerModel" cc nL ret D jCl tys A X Qx ad N kc ks pc lv (.ref (ad k) :: st) F :=
  J_get (C := "NumberTowerModel") (T := F_M) (n := 30) in_M rfl 9 (by decide) wd_994 rfl hk hF hv d kk
theorem cw_M_126 : Cond.methodLink "NumberTowerModel" 126 y_M_lowest ∈ jALL ∧ Cond.instanceMethod y_M_lowest ∈ jALL ∧ Cond.selects "NumberTowerModel" y_M_lowest y_M_lowest ∈ jALL ∧ Cond.code y_M_lowest b_M_lowest 3 (Option.none : Option Jvm.ClassFile.FieldType) ∈ jALL ∧ Cond.initialized y_M_lowest.cls ∈ jALL := ⟨wd_1167, wd_1169, ws_53, wd_1170, wd_9⟩
theorem gf_M_129 (hk : k < N) (hF : F k = .inr (8, fs)) (hv : fs[7]? = some v) (d : decode cc pc = .ok (.getfield 129, 3)) (kk : J l R nb "NumberTowerModel" cc nL ret D jCl tys A X Qx ad N kc ks (pc + 3) lv (v :: st) F) : J l R nb "NumberTowerModel" cc nL ret D jCl tys A X Qx ad N kc ks pc lv (.ref (ad k) :: st) F :=
  J_get (C := "NumberTowerModel") (T := F_M) (n := 30) in_M rfl 7 (by decide) wd_992 rfl hk hF hv d kk
theorem pf_M_129 (hk : k < N) (hF : F k = .inr (8, fs)) (hl0 : 7 < fs.length) (hb : narrow .boolean v = v ∧ fits .boolean v = true) (d : decode cc pc = .ok (.putfield 129, 3)) (kk : J l R nb "NumberTowerModel" cc nL ret D jCl tys A X Qx ad N kc ks (pc + 3) lv st (va_up F k (.inr (8, fs.set 7 v)))) : J l R nb "NumberTowerModel" cc nL ret D jCl tys A X Qx ad N kc ks pc lv (v :: .ref (ad k) :: st) F :=
  J_put (C := "NumberTowerModel") (T := F_M) (n := 30) in_M tt_M tt_M_ok n_M rfl 7 (by decide) wd_992 rfl rfl (ty := .boolean) (tt_M_ok 7 (by decide)) hk hF hl0 hb.1 hb.2 d kk
theorem cw_M_132 : Cond.methodLink "NumberTowerModel" 132 y_M_form ∈ jALL ∧ Cond.instanceMethod y_M_form ∈ jALL ∧ Cond.selects "NumberTowerModel" y_M_form y_M_form ∈ jALL ∧ Cond.code y_M_form b_M_form 2 (Option.none : Option Jvm.ClassFile.FieldType) ∈ jALL ∧ Cond.initialized y_M_form.cls ∈ jALL := ⟨wd_1098, wd_1100, ws_38, wd_1101, wd_9⟩
theorem cw_M_135 : Cond.methodLink "NumberTowerModel" 135 y_M_fail ∈ jALL ∧ Cond.instanceMethod y_M_fail ∈ jALL ∧ Cond.selects "NumberTowerModel" y_M_fail y_M_fail ∈ jALL ∧ Cond.code y_M_fail b_M_fail 2 (Option.some Jvm.ClassFile.FieldType.int) ∈ jALL ∧ Cond.initialized y_M_fail.cls ∈ jALL := ⟨wd_1171, wd_1173, ws_54, wd_1174, wd_9⟩
theorem cw_M_138 : Cond.methodLink "NumberTowerModel" 138 y_M_in ∈ jALL ∧ Cond.static y_M_in ∈ jALL ∧ Cond.code y_M_in b_M_in 3 (Option.some Jvm.ClassFile.FieldType.boolean) ∈ jALL ∧ Cond.initialized y_M_in.cls ∈ jALL := ⟨wd_1086, wd_1087, wd_1088, wd_9⟩
theorem cw_M_142 : Cond.methodLink "NumberTowerModel" 142 y_M_store ∈ jALL ∧ Cond.instanceMethod y_M_store ∈ jALL ∧ Cond.selects "NumberTowerModel" y_M_store y_M_store ∈ jALL ∧ Cond.code y_M_store b_M_store 4 (Option.some Jvm.ClassFile.FieldType.int) ∈ jALL ∧ Cond.initialized y_M_store.cls ∈ jALL := ⟨wd_1094, wd_1096, ws_37, wd_1097, wd_9⟩
theorem cw_M_146 : Cond.methodLink "NumberTowerModel" 146 y_M_times ∈ jALL ∧ Cond.instanceMethod y_M_times ∈ jALL ∧ Cond.selects "NumberTowerModel" y_M_times y_M_times ∈ jALL ∧ Cond.code y_M_times b_M_times 11 (Option.none : Option Jvm.ClassFile.FieldType) ∈ jALL ∧ Cond.initialized y_M_times.cls ∈ jALL := ⟨wd_1207, wd_1209, ws_61, wd_1210, wd_9⟩
theorem gf_M_149 (hk : k < N) (hF : F k = .inr (8, fs)) (hv : fs[5]? = some v) (d : decode cc pc = .ok (.getfield 149, 3)) (kk : J l R nb "NumberTowerModel" cc nL ret D jCl tys A X Qx ad N kc ks (pc + 3) lv (v :: st) F) : J l R nb "NumberTowerModel" cc nL ret D jCl tys A X Qx ad N kc ks pc lv (.ref (ad k) :: st) F :=
  J_get (C := "NumberTowerModel") (T := F_M) (n := 30) in_M rfl 5 (by decide) wd_990 rfl hk hF hv d kk
theorem gf_M_152 (hk : k < N) (hF : F k = .inr (8, fs)) (hv : fs[6]? = some v) (d : decode cc pc = .ok (.getfield 152, 3)) (kk : J l R nb "NumberTowerModel" cc nL ret D jCl tys A X Qx ad N kc ks (pc + 3) lv (v :: st) F) : J l R nb "NumberTowerModel" cc nL ret D jCl tys A X Qx ad N kc ks pc lv (.ref (ad k) :: st) F :=
  J_get (C := "NumberTowerModel") (T := F_M) (n := 30) in_M rfl 6 (by decide) wd_991 rfl hk hF hv d kk
theorem cw_M_155 : Cond.methodLink "NumberTowerModel" 155 y_M_add ∈ jALL ∧ Cond.instanceMethod y_M_add ∈ jALL ∧ Cond.selects "NumberTowerModel" y_M_add y_M_add ∈ jALL ∧ Cond.code y_M_add b_M_add 8 (Option.none : Option Jvm.ClassFile.FieldType) ∈ jALL ∧ Cond.initialized y_M_add.cls ∈ jALL := ⟨wd_1211, wd_1213, ws_62, wd_1214, wd_9⟩
theorem cw_M_158 : Cond.methodLink "NumberTowerModel" 158 y_M_less ∈ jALL ∧ Cond.instanceMethod y_M_less ∈ jALL ∧ Cond.selects "NumberTowerModel" y_M_less y_M_less ∈ jALL ∧ Cond.code y_M_less b_M_less 8 (Option.none : Option Jvm.ClassFile.FieldType) ∈ jALL ∧ Cond.initialized y_M_less.cls ∈ jALL := ⟨wd_1215, wd_1217, ws_63, wd_1218, wd_9⟩
theorem cw_M_161 : Cond.methodLink "NumberTowerModel" 161 y_M_grow1 ∈ jALL ∧ Cond.instanceMethod y_M_grow1 ∈ jALL ∧ Cond.selects "NumberTowerModel" y_M_grow1 y_M_grow1 ∈ jALL ∧ Cond.code y_M_grow1 b_M_grow1 2 (Option.none : Option Jvm.ClassFile.FieldType) ∈ jALL ∧ Cond.initialized y_M_grow1.cls ∈ jALL := ⟨wd_1231, wd_1233, ws_67, wd_1234, wd_9⟩
theorem cw_M_164 : Cond.methodLink "NumberTowerModel" 164 y_M_ratio ∈ jALL ∧ Cond.instanceMethod y_M_ratio ∈ jALL ∧ Cond.selects "NumberTowerModel" y_M_ratio y_M_ratio ∈ jALL ∧ Cond.code y_M_ratio b_M_ratio 1 (Option.none : Option Jvm.ClassFile.FieldType) ∈ jALL ∧ Cond.initialized y_M_ratio.cls ∈ jALL := ⟨wd_1223, wd_1225, ws_65, wd_1226, wd_9⟩
theorem cw_M_167 : Cond.methodLink "NumberTowerModel" 167 y_M_floor ∈ jALL ∧ Cond.instanceMethod y_M_floor ∈ jALL ∧ Cond.selects "NumberTowerModel" y_M_floor y_M_floor ∈ jALL ∧ Cond.code y_M_floor b_M_floor 2 (Option.none : Option Jvm.ClassFile.FieldType) ∈ jALL ∧ Cond.initialized y_M_floor.cls ∈ jALL := ⟨wd_1227, wd_1229, ws_66, wd_1230, wd_9⟩
theorem pf_M_152 (hk : k < N) (hF : F k = .inr (8, fs)) (hl0 : 6 < fs.length) (hb : narrow .boolean v = v ∧ fits .boolean v = true) (d : decode cc pc = .ok (.putfield 152, 3)) (kk : J l R nb "NumberTowerModel" cc nL ret D jCl tys A X Qx ad N kc ks (pc + 3) lv st (va_up F k (.inr (8, fs.set 6 v)))) : J l R nb "NumberTowerModel" cc nL ret D jCl tys A X Qx ad N kc ks pc lv (v :: .ref (ad k) :: st) F :=
  J_put (C := "NumberTowerModel") (T := F_M) (n := 30) in_M tt_M tt_M_ok n_M rfl 6 (by decide) wd_991 rfl rfl (ty := .boolean) (tt_M_ok 6 (by decide)) hk hF hl0 hb.1 hb.2 d kk
theorem cw_M_170 : Cond.methodLink "NumberTowerModel" 170 y_M_plus ∈ jALL ∧ Cond.instanceMethod y_M_plus ∈ jALL ∧ Cond.selects "NumberTowerModel" y_M_plus y_M_plus ∈ jALL ∧ Cond.code y_M_plus b_M_plus 1 (Option.none : Option Jvm.ClassFile.FieldType) ∈ jALL ∧ Cond.initialized y_M_plus.cls ∈ jALL := ⟨wd_1203, wd_1205, ws_60, wd_1206, wd_9⟩
theorem cw_M_173 : Cond.methodLink "NumberTowerModel" 173 y_M_small ∈ jALL ∧ Cond.instanceMethod y_M_small ∈ jALL ∧ Cond.selects "NumberTowerModel" y_M_small y_M_small ∈ jALL ∧ Cond.code y_M_small b_M_small 2 (Option.some Jvm.ClassFile.FieldType.int) ∈ jALL ∧ Cond.initialized y_M_small.cls ∈ jALL := ⟨wd_1191, wd_1193, ws_57, wd_1194, wd_9⟩
theorem cw_M_176 : Cond.methodLink "NumberTowerModel" 176 y_M_isNumber ∈ jALL ∧ Cond.instanceMethod y_M_isNumber ∈ jALL ∧ Cond.selects "NumberTowerModel" y_M_isNumber y_M_isNumber ∈ jALL ∧ Cond.code y_M_isNumber b_M_isNumber 2 (Option.some Jvm.ClassFile.FieldType.boolean) ∈ jALL ∧ Cond.initialized y_M_isNumber.cls ∈ jALL := ⟨wd_1183, wd_1185, ws_55, wd_1186, wd_9⟩
theorem cw_M_179 : Cond.methodLink "NumberTowerModel" 179 y_M_takes ∈ jALL ∧ Cond.instanceMethod y_M_takes ∈ jALL ∧ Cond.selects "NumberTowerModel" y_M_takes y_M_takes ∈ jALL ∧ Cond.code y_M_takes b_M_takes 4 (Option.some Jvm.ClassFile.FieldType.boolean) ∈ jALL ∧ Cond.initialized y_M_takes.cls ∈ jALL := ⟨wd_1187, wd_1189, ws_56, wd_1190, wd_9⟩
theorem cw_M_182 : Cond.methodLink "NumberTowerModel" 182 y_M_fetch ∈ jALL ∧ Cond.instanceMethod y_M_fetch ∈ jALL ∧ Cond.selects "NumberTowerModel" y_M_fetch y_M_fetch ∈ jALL ∧ Cond.code y_M_fetch b_M_fetch 4 (Option.some Jvm.ClassFile.FieldType.boolean) ∈ jALL ∧ Cond.initialized y_M_fetch.cls ∈ jALL := ⟨wd_1195, wd_1197, ws_58, wd_1198, wd_9⟩
theorem pf_M_149 (hk : k < N) (hF : F k = .inr (8, fs)) (hl0 : 5 < fs.length) (hb : narrow .boolean v = v ∧ fits .boolean v = true) (d : decode cc pc = .ok (.putfield 149, 3)) (kk : J l R nb "NumberTowerModel" cc nL ret D jCl tys A X Qx ad N kc ks (pc + 3) lv st (va_up F k (.inr (8, fs.set 5 v)))) : J l R nb "NumberTowerModel" cc nL ret D jCl tys A X Qx ad N kc ks pc lv (v :: .ref (ad k) :: st) F :=
  J_put (C := "NumberTowerModel") (T := F_M) (n := 30) in_M tt_M tt_M_ok n_M rfl 5 (by decide) wd_990 rfl rfl (ty := .boolean) (tt_M_ok 5 (by decide)) hk hF hl0 hb.1 hb.2 d kk
theorem cw_M_185 : Cond.methodLink "NumberTowerModel" 185 y_M_meet ∈ jALL ∧ Cond.instanceMethod y_M_meet ∈ jALL ∧ Cond.selects "NumberTowerModel" y_M_meet y_M_meet ∈ jALL ∧ Cond.code y_M_meet b_M_meet 5 (Option.none : Option Jvm.ClassFile.FieldType) ∈ jALL ∧ Cond.initialized y_M_meet.cls ∈ jALL := ⟨wd_1199, wd_1201, ws_59, wd_1202, wd_9⟩
theorem cw_M_188 : Cond.methodLink "NumberTowerModel" 188 y_M_product ∈ jALL ∧ Cond.instanceMethod y_M_product ∈ jALL ∧ Cond.selects "NumberTowerModel" y_M_product y_M_product ∈ jALL ∧ Cond.code y_M_product b_M_product 1 (Option.none : Option Jvm.ClassFile.FieldType) ∈ jALL ∧ Cond.initialized y_M_product.cls ∈ jALL := ⟨wd_1219, wd_1221, ws_64, wd_1222, wd_9⟩
theorem cw_M_191 : Cond.methodLink "NumberTowerModel" 191 y_M_rest ∈ jALL ∧ Cond.instanceMethod y_M_rest ∈ jALL ∧ Cond.selects "NumberTowerModel" y_M_rest y_M_rest ∈ jALL ∧ Cond.code y_M_rest b_M_rest 1 (Option.none : Option Jvm.ClassFile.FieldType) ∈ jALL ∧ Cond.initialized y_M_rest.cls ∈ jALL := ⟨wd_1235, wd_1237, ws_68, wd_1238, wd_9⟩
theorem cw_M_194 : Cond.methodLink "NumberTowerModel" 194 y_M_powered ∈ jALL ∧ Cond.instanceMethod y_M_powered ∈ jALL ∧ Cond.selects "NumberTowerModel" y_M_powered y_M_powered ∈ jALL ∧ Cond.code y_M_powered b_M_powered 4 (Option.some Jvm.ClassFile.FieldType.boolean) ∈ jALL ∧ Cond.initialized y_M_powered.cls ∈ jALL := ⟨wd_1239, wd_1241, ws_69, wd_1242, wd_9⟩
theorem cw_M_198 : Cond.methodLink "NumberTowerModel" 198 y_M_shift ∈ jALL ∧ Cond.instanceMethod y_M_shift ∈ jALL ∧ Cond.selects "NumberTowerModel" y_M_shift y_M_shift ∈ jALL ∧ Cond.code y_M_shift b_M_shift 2 (Option.none : Option Jvm.ClassFile.FieldType) ∈ jALL ∧ Cond.initialized y_M_shift.cls ∈ jALL := ⟨wd_1243, wd_1245, ws_70, wd_1246, wd_9⟩
theorem cw_M_201 : Cond.methodLink "NumberTowerModel" 201 y_M_mixed ∈ jALL ∧ Cond.instanceMethod y_M_mixed ∈ jALL ∧ Cond.selects "NumberTowerModel" y_M_mixed y_M_mixed ∈ jALL ∧ Cond.code y_M_mixed b_M_mixed 6 (Option.none : Option Jvm.ClassFile.FieldType) ∈ jALL ∧ Cond.initialized y_M_mixed.cls ∈ jALL := ⟨wd_1247, wd_1249, ws_71, wd_1250, wd_9⟩
theorem cw_M_204 : Cond.methodLink "NumberTowerModel" 204 y_M_bitsOf ∈ jALL ∧ Cond.instanceMethod y_M_bitsOf ∈ jALL ∧ Cond.selects "NumberTowerModel" y_M_bitsOf y_M_bitsOf ∈ jALL ∧ Cond.code y_M_bitsOf b_M_bitsOf 6 (Option.none : Option Jvm.ClassFile.FieldType) ∈ jALL ∧ Cond.initialized y_M_bitsOf.cls ∈ jALL := ⟨wd_1251, wd_1253, ws_72, wd_1254, wd_9⟩
theorem cw_M_208 : Cond.methodLink "NumberTowerModel" 208 y_M_tens ∈ jALL ∧ Cond.instanceMethod y_M_tens ∈ jALL ∧ Cond.selects "NumberTowerModel" y_M_tens y_M_tens ∈ jALL ∧ Cond.code y_M_tens b_M_tens 4 (Option.none : Option Jvm.ClassFile.FieldType) ∈ jALL ∧ Cond.initialized y_M_tens.cls ∈ jALL := ⟨wd_1263, wd_1265, ws_73, wd_1266, wd_9⟩
theorem cw_M_211 : Cond.methodLink "NumberTowerModel" 211 y_M_even ∈ jALL ∧ Cond.instanceMethod y_M_even ∈ jALL ∧ Cond.selects "NumberTowerModel" y_M_even y_M_even ∈ jALL ∧ Cond.code y_M_even b_M_even 4 (Option.none : Option Jvm.ClassFile.FieldType) ∈ jALL ∧ Cond.initialized y_M_even.cls ∈ jALL := ⟨wd_1271, wd_1273, ws_75, wd_1274, wd_9⟩
theorem cw_M_214 : Cond.methodLink "NumberTowerModel" 214 y_M_reduce ∈ jALL ∧ Cond.instanceMethod y_M_reduce ∈ jALL ∧ Cond.selects "NumberTowerModel" y_M_reduce y_M_reduce ∈ jALL ∧ Cond.code y_M_reduce b_M_reduce 3 (Option.none : Option Jvm.ClassFile.FieldType) ∈ jALL ∧ Cond.initialized y_M_reduce.cls ∈ jALL := ⟨wd_1287, wd_1289, ws_76, wd_1290, wd_9⟩
theorem cw_M_218 : Cond.methodLink "NumberTowerModel" 218 y_M_inverted ∈ jALL ∧ Cond.instanceMethod y_M_inverted ∈ jALL ∧ Cond.selects "NumberTowerModel" y_M_inverted y_M_inverted ∈ jALL ∧ Cond.code y_M_inverted b_M_inverted 1 (Option.some Jvm.ClassFile.FieldType.boolean) ∈ jALL ∧ Cond.initialized y_M_inverted.cls ∈ jALL := ⟨wd_1291, wd_1293, ws_77, wd_1294, wd_9⟩
theorem cw_M_224 : Cond.methodLink "NumberTowerModel" 224 y_M_twice ∈ jALL ∧ Cond.static y_M_twice ∈ jALL ∧ Cond.code y_M_twice b_M_twice 4 (Option.some Jvm.ClassFile.FieldType.long) ∈ jALL ∧ Cond.initialized y_M_twice.cls ∈ jALL := ⟨wd_1303, wd_1304, wd_1305, wd_9⟩
theorem cw_M_228 : Cond.methodLink "NumberTowerModel" 228 y_M_modulo ∈ jALL ∧ Cond.instanceMethod y_M_modulo ∈ jALL ∧ Cond.selects "NumberTowerModel" y_M_modulo y_M_modulo ∈ jALL ∧ Cond.code y_M_modulo b_M_modulo 5 (Option.some Jvm.ClassFile.FieldType.long) ∈ jALL ∧ Cond.initialized y_M_modulo.cls ∈ jALL := ⟨wd_1299, wd_1301, ws_78, wd_1302, wd_9⟩
theorem cw_M_231 : Cond.methodLink "NumberTowerModel" 231 y_M_multiplied ∈ jALL ∧ Cond.static y_M_multiplied ∈ jALL ∧ Cond.code y_M_multiplied b_M_multiplied 7 (Option.some Jvm.ClassFile.FieldType.long) ∈ jALL ∧ Cond.initialized y_M_multiplied.cls ∈ jALL := ⟨wd_1307, wd_1308, wd_1309, wd_9⟩
theorem gf_M_241 (hk : k < N) (hF : F k = .inr (8, fs)) (hv : fs[12]? = some v) (d : decode cc pc = .ok (.getfield 241, 3)) (kk : J l R nb "NumberTowerModel" cc nL ret D jCl tys A X Qx ad N kc ks (pc + 3) lv (v :: st) F) : J l R nb "NumberTowerModel" cc nL ret D jCl tys A X Qx ad N kc ks pc lv (.ref (ad k) :: st) F :=
  J_get (C := "NumberTowerModel") (T := F_M) (n := 30) in_M rfl 12 (by decide) wd_997 rfl hk hF hv d kk
theorem gf_M_27 (hk : k < N) (hF : F k = .inr (8, fs)) (hv : fs[11]? = some v) (d : decode cc pc = .ok (.getfield 27, 3)) (kk : J l R nb "NumberTowerModel" cc nL ret D jCl tys A X Qx ad N kc ks (pc + 3) lv (v :: st) F) : J l R nb "NumberTowerModel" cc nL ret D jCl tys A X Qx ad N kc ks pc lv (.ref (ad k) :: st) F :=
  J_get (C := "NumberTowerModel") (T := F_M) (n := 30) in_M rfl 11 (by decide) wd_996 rfl hk hF hv d kk
theorem pf_M_241 {x : Int32} (hk : k < N) (hF : F k = .inr (8, fs)) (hl0 : 12 < fs.length) (d : decode cc pc = .ok (.putfield 241, 3)) (kk : J l R nb "NumberTowerModel" cc nL ret D jCl tys A X Qx ad N kc ks (pc + 3) lv st (va_up F k (.inr (8, fs.set 12 (.int x))))) : J l R nb "NumberTowerModel" cc nL ret D jCl tys A X Qx ad N kc ks pc lv ((.int x) :: .ref (ad k) :: st) F :=
  J_put (C := "NumberTowerModel") (T := F_M) (n := 30) in_M tt_M tt_M_ok n_M rfl 12 (by decide) wd_997 rfl rfl (ty := .int) (tt_M_ok 12 (by decide)) hk hF hl0 rfl rfl d kk
theorem gf_M_244 (hk : k < N) (hF : F k = .inr (8, fs)) (hv : fs[19]? = some v) (d : decode cc pc = .ok (.getfield 244, 3)) (kk : J l R nb "NumberTowerModel" cc nL ret D jCl tys A X Qx ad N kc ks (pc + 3) lv (v :: st) F) : J l R nb "NumberTowerModel" cc nL ret D jCl tys A X Qx ad N kc ks pc lv (.ref (ad k) :: st) F :=
  J_get (C := "NumberTowerModel") (T := F_M) (n := 30) in_M rfl 19 (by decide) wd_1004 rfl hk hF hv d kk
theorem cw_M_247 : Cond.methodLink "NumberTowerModel" 247 y_M_here ∈ jALL ∧ Cond.instanceMethod y_M_here ∈ jALL ∧ Cond.selects "NumberTowerModel" y_M_here y_M_here ∈ jALL ∧ Cond.code y_M_here b_M_here 2 (Option.some Jvm.ClassFile.FieldType.int) ∈ jALL ∧ Cond.initialized y_M_here.cls ∈ jALL := ⟨wd_1329, wd_1331, ws_80, wd_1332, wd_9⟩
theorem pf_M_244 {x : Int32} (hk : k < N) (hF : F k = .inr (8, fs)) (hl0 : 19 < fs.length) (d : decode cc pc = .ok (.putfield 244, 3)) (kk : J l R nb "NumberTowerModel" cc nL ret D jCl tys A X Qx ad N kc ks (pc + 3) lv st (va_up F k (.inr (8, fs.set 19 (.int x))))) : J l R nb "NumberTowerModel" cc nL ret D jCl tys A X Qx ad N kc ks pc lv ((.int x) :: .ref (ad k) :: st) F :=
  J_put (C := "NumberTowerModel") (T := F_M) (n := 30) in_M tt_M tt_M_ok n_M rfl 19 (by decide) wd_1004 rfl rfl (ty := .int) (tt_M_ok 19 (by decide)) hk hF hl0 rfl rfl d kk
theorem pf_M_250 {x : Int32} (hk : k < N) (hF : F k = .inr (8, fs)) (hl0 : 20 < fs.length) (d : decode cc pc = .ok (.putfield 250, 3)) (kk : J l R nb "NumberTowerModel" cc nL ret D jCl tys A X Qx ad N kc ks (pc + 3) lv st (va_up F k (.inr (8, fs.set 20 (.int x))))) : J l R nb "NumberTowerModel" cc nL ret D jCl tys A X Qx ad N kc ks pc lv ((.int x) :: .ref (ad k) :: st) F :=
  J_put (C := "NumberTowerModel") (T := F_M) (n := 30) in_M tt_M tt_M_ok n_M rfl 20 (by decide) wd_1005 rfl rfl (ty := .int) (tt_M_ok 20 (by decide)) hk hF hl0 rfl rfl d kk
theorem cw_M_253 : Cond.methodLink "NumberTowerModel" 253 y_M_digitOf ∈ jALL ∧ Cond.static y_M_digitOf ∈ jALL ∧ Cond.code y_M_digitOf b_M_digitOf 3 (Option.some Jvm.ClassFile.FieldType.int) ∈ jALL ∧ Cond.initialized y_M_digitOf.cls ∈ jALL := ⟨wd_1337, wd_1338, wd_1339, wd_9⟩
theorem gf_M_250 (hk : k < N) (hF : F k = .inr (8, fs)) (hv : fs[20]? = some v) (d : decode cc pc = .ok (.getfield 250, 3)) (kk : J l R nb "NumberTowerModel" cc nL ret D jCl tys A X Qx ad N kc ks (pc + 3) lv (v :: st) F) : J l R nb "NumberTowerModel" cc nL ret D jCl tys A X Qx ad N kc ks pc lv (.ref (ad k) :: st) F :=
  J_get (C := "NumberTowerModel") (T := F_M) (n := 30) in_M rfl 20 (by decide) wd_1005 rfl hk hF hv d kk
theorem cw_M_256 : Cond.methodLink "NumberTowerModel" 256 y_M_digits ∈ jALL ∧ Cond.instanceMethod y_M_digits ∈ jALL ∧ Cond.selects "NumberTowerModel" y_M_digits y_M_digits ∈ jALL ∧ Cond.code y_M_digits b_M_digits 5 (Option.none : Option Jvm.ClassFile.FieldType) ∈ jALL ∧ Cond.initialized y_M_digits.cls ∈ jALL := ⟨wd_1333, wd_1335, ws_81, wd_1336, wd_9⟩
theorem cw_M_259 : Cond.methodLink "NumberTowerModel" 259 y_M_takes2 ∈ jALL ∧ Cond.instanceMethod y_M_takes2 ∈ jALL ∧ Cond.selects "NumberTowerModel" y_M_takes2 y_M_takes2 ∈ jALL ∧ Cond.code y_M_takes2 b_M_takes2 2 (Option.some Jvm.ClassFile.FieldType.boolean) ∈ jALL ∧ Cond.initialized y_M_takes2.cls ∈ jALL := ⟨wd_1340, wd_1342, ws_82, wd_1343, wd_9⟩
theorem cw_M_261 : Cond.methodLink "NumberTowerModel" 261 y_M_parsed ∈ jALL ∧ Cond.instanceMethod y_M_parsed ∈ jALL ∧ Cond.selects "NumberTowerModel" y_M_parsed y_M_parsed ∈ jALL ∧ Cond.code y_M_parsed b_M_parsed 7 (Option.some Jvm.ClassFile.FieldType.int) ∈ jALL ∧ Cond.initialized y_M_parsed.cls ∈ jALL := ⟨wd_1325, wd_1327, ws_79, wd_1328, wd_9⟩
theorem gf_M_36 (hk : k < N) (hF : F k = .inr (8, fs)) (hv : fs[17]? = some v) (d : decode cc pc = .ok (.getfield 36, 3)) (kk : J l R nb "NumberTowerModel" cc nL ret D jCl tys A X Qx ad N kc ks (pc + 3) lv (v :: st) F) : J l R nb "NumberTowerModel" cc nL ret D jCl tys A X Qx ad N kc ks pc lv (.ref (ad k) :: st) F :=
  J_get (C := "NumberTowerModel") (T := F_M) (n := 30) in_M rfl 17 (by decide) wd_1002 rfl hk hF hv d kk
theorem gf_M_265 (hk : k < N) (hF : F k = .inr (8, fs)) (hv : fs[18]? = some v) (d : decode cc pc = .ok (.getfield 265, 3)) (kk : J l R nb "NumberTowerModel" cc nL ret D jCl tys A X Qx ad N kc ks (pc + 3) lv (v :: st) F) : J l R nb "NumberTowerModel" cc nL ret D jCl tys A X Qx ad N kc ks pc lv (.ref (ad k) :: st) F :=
  J_get (C := "NumberTowerModel") (T := F_M) (n := 30) in_M rfl 18 (by decide) wd_1003 rfl hk hF hv d kk
theorem pf_M_265 {x : Int32} (hk : k < N) (hF : F k = .inr (8, fs)) (hl0 : 18 < fs.length) (d : decode cc pc = .ok (.putfield 265, 3)) (kk : J l R nb "NumberTowerModel" cc nL ret D jCl tys A X Qx ad N kc ks (pc + 3) lv st (va_up F k (.inr (8, fs.set 18 (.int x))))) : J l R nb "NumberTowerModel" cc nL ret D jCl tys A X Qx ad N kc ks pc lv ((.int x) :: .ref (ad k) :: st) F :=
  J_put (C := "NumberTowerModel") (T := F_M) (n := 30) in_M tt_M tt_M_ok n_M rfl 18 (by decide) wd_1003 rfl rfl (ty := .int) (tt_M_ok 18 (by decide)) hk hF hl0 rfl rfl d kk
theorem pf_M_268 {x : Int32} (hk : k < N) (hF : F k = .inr (8, fs)) (hl0 : 16 < fs.length) (d : decode cc pc = .ok (.putfield 268, 3)) (kk : J l R nb "NumberTowerModel" cc nL ret D jCl tys A X Qx ad N kc ks (pc + 3) lv st (va_up F k (.inr (8, fs.set 16 (.int x))))) : J l R nb "NumberTowerModel" cc nL ret D jCl tys A X Qx ad N kc ks pc lv ((.int x) :: .ref (ad k) :: st) F :=
  J_put (C := "NumberTowerModel") (T := F_M) (n := 30) in_M tt_M tt_M_ok n_M rfl 16 (by decide) wd_1001 rfl rfl (ty := .int) (tt_M_ok 16 (by decide)) hk hF hl0 rfl rfl d kk
theorem gf_M_268 (hk : k < N) (hF : F k = .inr (8, fs)) (hv : fs[16]? = some v) (d : decode cc pc = .ok (.getfield 268, 3)) (kk : J l R nb "NumberTowerModel" cc nL ret D jCl tys A X Qx ad N kc ks (pc + 3) lv (v :: st) F) : J l R nb "NumberTowerModel" cc nL ret D jCl tys A X Qx ad N kc ks pc lv (.ref (ad k) :: st) F :=
  J_get (C := "NumberTowerModel") (T := F_M) (n := 30) in_M rfl 16 (by decide) wd_1001 rfl hk hF hv d kk
theorem gf_M_33 (hk : k < N) (hF : F k = .inr (8, fs)) (hv : fs[15]? = some v) (d : decode cc pc = .ok (.getfield 33, 3)) (kk : J l R nb "NumberTowerModel" cc nL ret D jCl tys A X Qx ad N kc ks (pc + 3) lv (v :: st) F) : J l R nb "NumberTowerModel" cc nL ret D jCl tys A X Qx ad N kc ks pc lv (.ref (ad k) :: st) F :=
  J_get (C := "NumberTowerModel") (T := F_M) (n := 30) in_M rfl 15 (by decide) wd_1000 rfl hk hF hv d kk
theorem cw_M_271 : Cond.methodLink "NumberTowerModel" 271 y_M_shrink ∈ jALL ∧ Cond.instanceMethod y_M_shrink ∈ jALL ∧ Cond.selects "NumberTowerModel" y_M_shrink y_M_shrink ∈ jALL ∧ Cond.code y_M_shrink b_M_shrink 8 (Option.some Jvm.ClassFile.FieldType.int) ∈ jALL ∧ Cond.initialized y_M_shrink.cls ∈ jALL := ⟨wd_1381, wd_1383, ws_91, wd_1384, wd_9⟩
theorem cw_M_274 : Cond.methodLink "NumberTowerModel" 274 y_M_sign ∈ jALL ∧ Cond.instanceMethod y_M_sign ∈ jALL ∧ Cond.selects "NumberTowerModel" y_M_sign y_M_sign ∈ jALL ∧ Cond.code y_M_sign b_M_sign 3 (Option.some Jvm.ClassFile.FieldType.int) ∈ jALL ∧ Cond.initialized y_M_sign.cls ∈ jALL := ⟨wd_1389, wd_1391, ws_93, wd_1392, wd_9⟩
theorem cw_M_278 : Cond.methodLink "NumberTowerModel" 278 y_M_say ∈ jALL ∧ Cond.instanceMethod y_M_say ∈ jALL ∧ Cond.selects "NumberTowerModel" y_M_say y_M_say ∈ jALL ∧ Cond.code y_M_say b_M_say 2 (Option.none : Option Jvm.ClassFile.FieldType) ∈ jALL ∧ Cond.initialized y_M_say.cls ∈ jALL := ⟨wd_1348, wd_1350, ws_83, wd_1351, wd_9⟩
theorem cw_M_282 : Cond.methodLink "NumberTowerModel" 282 y_M_reaches ∈ jALL ∧ Cond.instanceMethod y_M_reaches ∈ jALL ∧ Cond.selects "NumberTowerModel" y_M_reaches y_M_reaches ∈ jALL ∧ Cond.code y_M_reaches b_M_reaches 2 (Option.some Jvm.ClassFile.FieldType.boolean) ∈ jALL ∧ Cond.initialized y_M_reaches.cls ∈ jALL := ⟨wd_1365, wd_1367, ws_87, wd_1368, wd_9⟩
theorem cw_M_285 : Cond.methodLink "NumberTowerModel" 285 y_M_exponent ∈ jALL ∧ Cond.instanceMethod y_M_exponent ∈ jALL ∧ Cond.selects "NumberTowerModel" y_M_exponent y_M_exponent ∈ jALL ∧ Cond.code y_M_exponent b_M_exponent 2 (Option.some Jvm.ClassFile.FieldType.int) ∈ jALL ∧ Cond.initialized y_M_exponent.cls ∈ jALL := ⟨wd_1360, wd_1362, ws_86, wd_1363, wd_9⟩
theorem cw_M_288 : Cond.methodLink "NumberTowerModel" 288 y_M_moved ∈ jALL ∧ Cond.instanceMethod y_M_moved ∈ jALL ∧ Cond.selects "NumberTowerModel" y_M_moved y_M_moved ∈ jALL ∧ Cond.code y_M_moved b_M_moved 2 (Option.none : Option Jvm.ClassFile.FieldType) ∈ jALL ∧ Cond.initialized y_M_moved.cls ∈ jALL := ⟨wd_1369, wd_1371, ws_88, wd_1372, wd_9⟩
theorem cw_M_291 : Cond.methodLink "NumberTowerModel" 291 y_M_leads ∈ jALL ∧ Cond.instanceMethod y_M_leads ∈ jALL ∧ Cond.selects "NumberTowerModel" y_M_leads y_M_leads ∈ jALL ∧ Cond.code y_M_leads b_M_leads 5 (Option.some Jvm.ClassFile.FieldType.boolean) ∈ jALL ∧ Cond.initialized y_M_leads.cls ∈ jALL := ⟨wd_1373, wd_1375, ws_89, wd_1376, wd_9⟩
theorem cw_M_294 : Cond.methodLink "NumberTowerModel" 294 y_M_spell ∈ jALL ∧ Cond.instanceMethod y_M_spell ∈ jALL ∧ Cond.selects "NumberTowerModel" y_M_spell y_M_spell ∈ jALL ∧ Cond.code y_M_spell b_M_spell 4 (Option.none : Option Jvm.ClassFile.FieldType) ∈ jALL ∧ Cond.initialized y_M_spell.cls ∈ jALL := ⟨wd_1377, wd_1379, ws_90, wd_1380, wd_9⟩
theorem cw_M_297 : Cond.methodLink "NumberTowerModel" 297 y_M_shortest ∈ jALL ∧ Cond.instanceMethod y_M_shortest ∈ jALL ∧ Cond.selects "NumberTowerModel" y_M_shortest y_M_shortest ∈ jALL ∧ Cond.code y_M_shortest b_M_shortest 8 (Option.some Jvm.ClassFile.FieldType.int) ∈ jALL ∧ Cond.initialized y_M_shortest.cls ∈ jALL := ⟨wd_1356, wd_1358, ws_85, wd_1359, wd_9⟩
theorem cw_M_300 : Cond.methodLink "NumberTowerModel" 300 y_M_sayDigits ∈ jALL ∧ Cond.instanceMethod y_M_sayDigits ∈ jALL ∧ Cond.selects "NumberTowerModel" y_M_sayDigits y_M_sayDigits ∈ jALL ∧ Cond.code y_M_sayDigits b_M_sayDigits 7 (Option.none : Option Jvm.ClassFile.FieldType) ∈ jALL ∧ Cond.initialized y_M_sayDigits.cls ∈ jALL := ⟨wd_1385, wd_1387, ws_92, wd_1388, wd_9⟩
theorem cw_M_304 : Cond.methodLink "NumberTowerModel" 304 y_M_sayExponent ∈ jALL ∧ Cond.instanceMethod y_M_sayExponent ∈ jALL ∧ Cond.selects "NumberTowerModel" y_M_sayExponent y_M_sayExponent ∈ jALL ∧ Cond.code y_M_sayExponent b_M_sayExponent 4 (Option.none : Option Jvm.ClassFile.FieldType) ∈ jALL ∧ Cond.initialized y_M_sayExponent.cls ∈ jALL := ⟨wd_1393, wd_1395, ws_94, wd_1396, wd_9⟩
theorem gf_M_30 (hk : k < N) (hF : F k = .inr (8, fs)) (hv : fs[13]? = some v) (d : decode cc pc = .ok (.getfield 30, 3)) (kk : J l R nb "NumberTowerModel" cc nL ret D jCl tys A X Qx ad N kc ks (pc + 3) lv (v :: st) F) : J l R nb "NumberTowerModel" cc nL ret D jCl tys A X Qx ad N kc ks pc lv (.ref (ad k) :: st) F :=
  J_get (C := "NumberTowerModel") (T := F_M) (n := 30) in_M rfl 13 (by decide) wd_998 rfl hk hF hv d kk
theorem pf_M_307 {x : Int32} (hk : k < N) (hF : F k = .inr (8, fs)) (hl0 : 14 < fs.length) (d : decode cc pc = .ok (.putfield 307, 3)) (kk : J l R nb "NumberTowerModel" cc nL ret D jCl tys A X Qx ad N kc ks (pc + 3) lv st (va_up F k (.inr (8, fs.set 14 (.int x))))) : J l R nb "NumberTowerModel" cc nL ret D jCl tys A X Qx ad N kc ks pc lv ((.int x) :: .ref (ad k) :: st) F :=
  J_put (C := "NumberTowerModel") (T := F_M) (n := 30) in_M tt_M tt_M_ok n_M rfl 14 (by decide) wd_999 rfl rfl (ty := .int) (tt_M_ok 14 (by decide)) hk hF hl0 rfl rfl d kk
theorem gf_M_307 (hk : k < N) (hF : F k = .inr (8, fs)) (hv : fs[14]? = some v) (d : decode cc pc = .ok (.getfield 307, 3)) (kk : J l R nb "NumberTowerModel" cc nL ret D jCl tys A X Qx ad N kc ks (pc + 3) lv (v :: st) F) : J l R nb "NumberTowerModel" cc nL ret D jCl tys A X Qx ad N kc ks pc lv (.ref (ad k) :: st) F :=
  J_get (C := "NumberTowerModel") (T := F_M) (n := 30) in_M rfl 14 (by decide) wd_999 rfl hk hF hv d kk
theorem cw_M_310 : Cond.methodLink "NumberTowerModel" 310 y_M_sayReal ∈ jALL ∧ Cond.instanceMethod y_M_sayReal ∈ jALL ∧ Cond.selects "NumberTowerModel" y_M_sayReal y_M_sayReal ∈ jALL ∧ Cond.code y_M_sayReal b_M_sayReal 8 (Option.none : Option Jvm.ClassFile.FieldType) ∈ jALL ∧ Cond.initialized y_M_sayReal.cls ∈ jALL := ⟨wd_1352, wd_1354, ws_84, wd_1355, wd_9⟩
theorem cw_M_313 : Cond.methodLink "NumberTowerModel" 313 y_M_shownSize ∈ jALL ∧ Cond.instanceMethod y_M_shownSize ∈ jALL ∧ Cond.selects "NumberTowerModel" y_M_shownSize y_M_shownSize ∈ jALL ∧ Cond.code y_M_shownSize b_M_shownSize 2 (Option.some Jvm.ClassFile.FieldType.int) ∈ jALL ∧ Cond.initialized y_M_shownSize.cls ∈ jALL := ⟨wd_1397, wd_1399, ws_95, wd_1400, wd_9⟩
theorem pf_M_316 {x : Int32} (hk : k < N) (hF : F k = .inr (8, fs)) (hl0 : 21 < fs.length) (d : decode cc pc = .ok (.putfield 316, 3)) (kk : J l R nb "NumberTowerModel" cc nL ret D jCl tys A X Qx ad N kc ks (pc + 3) lv st (va_up F k (.inr (8, fs.set 21 (.int x))))) : J l R nb "NumberTowerModel" cc nL ret D jCl tys A X Qx ad N kc ks pc lv ((.int x) :: .ref (ad k) :: st) F :=
  J_put (C := "NumberTowerModel") (T := F_M) (n := 30) in_M tt_M tt_M_ok n_M rfl 21 (by decide) wd_1006 rfl rfl (ty := .int) (tt_M_ok 21 (by decide)) hk hF hl0 rfl rfl d kk
theorem pf_M_319 {x : Int32} (hk : k < N) (hF : F k = .inr (8, fs)) (hl0 : 22 < fs.length) (d : decode cc pc = .ok (.putfield 319, 3)) (kk : J l R nb "NumberTowerModel" cc nL ret D jCl tys A X Qx ad N kc ks (pc + 3) lv st (va_up F k (.inr (8, fs.set 22 (.int x))))) : J l R nb "NumberTowerModel" cc nL ret D jCl tys A X Qx ad N kc ks pc lv ((.int x) :: .ref (ad k) :: st) F :=
  J_put (C := "NumberTowerModel") (T := F_M) (n := 30) in_M tt_M tt_M_ok n_M rfl 22 (by decide) wd_1007 rfl rfl (ty := .int) (tt_M_ok 22 (by decide)) hk hF hl0 rfl rfl d kk
theorem cw_M_322 : Cond.methodLink "NumberTowerModel" 322 y_M_isAlign ∈ jALL ∧ Cond.static y_M_isAlign ∈ jALL ∧ Cond.code y_M_isAlign b_M_isAlign 1 (Option.some Jvm.ClassFile.FieldType.boolean) ∈ jALL ∧ Cond.initialized y_M_isAlign.cls ∈ jALL := ⟨wd_1409, wd_1410, wd_1411, wd_9⟩
theorem pf_M_325 {x : Int32} (hk : k < N) (hF : F k = .inr (8, fs)) (hl0 : 23 < fs.length) (d : decode cc pc = .ok (.putfield 325, 3)) (kk : J l R nb "NumberTowerModel" cc nL ret D jCl tys A X Qx ad N kc ks (pc + 3) lv st (va_up F k (.inr (8, fs.set 23 (.int x))))) : J l R nb "NumberTowerModel" cc nL ret D jCl tys A X Qx ad N kc ks pc lv ((.int x) :: .ref (ad k) :: st) F :=
  J_put (C := "NumberTowerModel") (T := F_M) (n := 30) in_M tt_M tt_M_ok n_M rfl 23 (by decide) wd_1008 rfl rfl (ty := .int) (tt_M_ok 23 (by decide)) hk hF hl0 rfl rfl d kk
theorem gf_M_325 (hk : k < N) (hF : F k = .inr (8, fs)) (hv : fs[23]? = some v) (d : decode cc pc = .ok (.getfield 325, 3)) (kk : J l R nb "NumberTowerModel" cc nL ret D jCl tys A X Qx ad N kc ks (pc + 3) lv (v :: st) F) : J l R nb "NumberTowerModel" cc nL ret D jCl tys A X Qx ad N kc ks pc lv (.ref (ad k) :: st) F :=
  J_get (C := "NumberTowerModel") (T := F_M) (n := 30) in_M rfl 23 (by decide) wd_1008 rfl hk hF hv d kk
theorem pf_M_327 (hk : k < N) (hF : F k = .inr (8, fs)) (hl0 : 24 < fs.length) (hb : narrow .boolean v = v ∧ fits .boolean v = true) (d : decode cc pc = .ok (.putfield 327, 3)) (kk : J l R nb "NumberTowerModel" cc nL ret D jCl tys A X Qx ad N kc ks (pc + 3) lv st (va_up F k (.inr (8, fs.set 24 v)))) : J l R nb "NumberTowerModel" cc nL ret D jCl tys A X Qx ad N kc ks pc lv (v :: .ref (ad k) :: st) F :=
  J_put (C := "NumberTowerModel") (T := F_M) (n := 30) in_M tt_M tt_M_ok n_M rfl 24 (by decide) wd_1009 rfl rfl (ty := .boolean) (tt_M_ok 24 (by decide)) hk hF hl0 hb.1 hb.2 d kk
theorem pf_M_330 (hk : k < N) (hF : F k = .inr (8, fs)) (hl0 : 25 < fs.length) (hb : narrow .boolean v = v ∧ fits .boolean v = true) (d : decode cc pc = .ok (.putfield 330, 3)) (kk : J l R nb "NumberTowerModel" cc nL ret D jCl tys A X Qx ad N kc ks (pc + 3) lv st (va_up F k (.inr (8, fs.set 25 v)))) : J l R nb "NumberTowerModel" cc nL ret D jCl tys A X Qx ad N kc ks pc lv (v :: .ref (ad k) :: st) F :=
  J_put (C := "NumberTowerModel") (T := F_M) (n := 30) in_M tt_M tt_M_ok n_M rfl 25 (by decide) wd_1010 rfl rfl (ty := .boolean) (tt_M_ok 25 (by decide)) hk hF hl0 hb.1 hb.2 d kk
theorem cw_M_333 : Cond.methodLink "NumberTowerModel" 333 y_M_two ∈ jALL ∧ Cond.instanceMethod y_M_two ∈ jALL ∧ Cond.selects "NumberTowerModel" y_M_two y_M_two ∈ jALL ∧ Cond.code y_M_two b_M_two 3 (Option.some Jvm.ClassFile.FieldType.int) ∈ jALL ∧ Cond.initialized y_M_two.cls ∈ jALL := ⟨wd_1412, wd_1414, ws_97, wd_1415, wd_9⟩
theorem pf_M_336 {x : Int32} (hk : k < N) (hF : F k = .inr (8, fs)) (hl0 : 26 < fs.length) (d : decode cc pc = .ok (.putfield 336, 3)) (kk : J l R nb "NumberTowerModel" cc nL ret D jCl tys A X Qx ad N kc ks (pc + 3) lv st (va_up F k (.inr (8, fs.set 26 (.int x))))) : J l R nb "NumberTowerModel" cc nL ret D jCl tys A X Qx ad N kc ks pc lv ((.int x) :: .ref (ad k) :: st) F :=
  J_put (C := "NumberTowerModel") (T := F_M) (n := 30) in_M tt_M tt_M_ok n_M rfl 26 (by decide) wd_1011 rfl rfl (ty := .int) (tt_M_ok 26 (by decide)) hk hF hl0 rfl rfl d kk
theorem pf_M_339 {x : Int32} (hk : k < N) (hF : F k = .inr (8, fs)) (hl0 : 27 < fs.length) (d : decode cc pc = .ok (.putfield 339, 3)) (kk : J l R nb "NumberTowerModel" cc nL ret D jCl tys A X Qx ad N kc ks (pc + 3) lv st (va_up F k (.inr (8, fs.set 27 (.int x))))) : J l R nb "NumberTowerModel" cc nL ret D jCl tys A X Qx ad N kc ks pc lv ((.int x) :: .ref (ad k) :: st) F :=
  J_put (C := "NumberTowerModel") (T := F_M) (n := 30) in_M tt_M tt_M_ok n_M rfl 27 (by decide) wd_1012 rfl rfl (ty := .int) (tt_M_ok 27 (by decide)) hk hF hl0 rfl rfl d kk
theorem gf_M_339 (hk : k < N) (hF : F k = .inr (8, fs)) (hv : fs[27]? = some v) (d : decode cc pc = .ok (.getfield 339, 3)) (kk : J l R nb "NumberTowerModel" cc nL ret D jCl tys A X Qx ad N kc ks (pc + 3) lv (v :: st) F) : J l R nb "NumberTowerModel" cc nL ret D jCl tys A X Qx ad N kc ks pc lv (.ref (ad k) :: st) F :=
  J_get (C := "NumberTowerModel") (T := F_M) (n := 30) in_M rfl 27 (by decide) wd_1012 rfl hk hF hv d kk
theorem pf_M_342 {x : Int32} (hk : k < N) (hF : F k = .inr (8, fs)) (hl0 : 28 < fs.length) (d : decode cc pc = .ok (.putfield 342, 3)) (kk : J l R nb "NumberTowerModel" cc nL ret D jCl tys A X Qx ad N kc ks (pc + 3) lv st (va_up F k (.inr (8, fs.set 28 (.int x))))) : J l R nb "NumberTowerModel" cc nL ret D jCl tys A X Qx ad N kc ks pc lv ((.int x) :: .ref (ad k) :: st) F :=
  J_put (C := "NumberTowerModel") (T := F_M) (n := 30) in_M tt_M tt_M_ok n_M rfl 28 (by decide) wd_1013 rfl rfl (ty := .int) (tt_M_ok 28 (by decide)) hk hF hl0 rfl rfl d kk
theorem pf_M_345 {x : Int32} (hk : k < N) (hF : F k = .inr (8, fs)) (hl0 : 29 < fs.length) (d : decode cc pc = .ok (.putfield 345, 3)) (kk : J l R nb "NumberTowerModel" cc nL ret D jCl tys A X Qx ad N kc ks (pc + 3) lv st (va_up F k (.inr (8, fs.set 29 (.int x))))) : J l R nb "NumberTowerModel" cc nL ret D jCl tys A X Qx ad N kc ks pc lv ((.int x) :: .ref (ad k) :: st) F :=
  J_put (C := "NumberTowerModel") (T := F_M) (n := 30) in_M tt_M tt_M_ok n_M rfl 29 (by decide) wd_1014 rfl rfl (ty := .int) (tt_M_ok 29 (by decide)) hk hF hl0 rfl rfl d kk
theorem gf_M_345 (hk : k < N) (hF : F k = .inr (8, fs)) (hv : fs[29]? = some v) (d : decode cc pc = .ok (.getfield 345, 3)) (kk : J l R nb "NumberTowerModel" cc nL ret D jCl tys A X Qx ad N kc ks (pc + 3) lv (v :: st) F) : J l R nb "NumberTowerModel" cc nL ret D jCl tys A X Qx ad N kc ks pc lv (.ref (ad k) :: st) F :=
  J_get (C := "NumberTowerModel") (T := F_M) (n := 30) in_M rfl 29 (by decide) wd_1014 rfl hk hF hv d kk
theorem gf_M_336 (hk : k < N) (hF : F k = .inr (8, fs)) (hv : fs[26]? = some v) (d : decode cc pc = .ok (.getfield 336, 3)) (kk : J l R nb "NumberTowerModel" cc nL ret D jCl tys A X Qx ad N kc ks (pc + 3) lv (v :: st) F) : J l R nb "NumberTowerModel" cc nL ret D jCl tys A X Qx ad N kc ks pc lv (.ref (ad k) :: st) F :=
  J_get (C := "NumberTowerModel") (T := F_M) (n := 30) in_M rfl 26 (by decide) wd_1011 rfl hk hF hv d kk
theorem gf_M_342 (hk : k < N) (hF : F k = .inr (8, fs)) (hv : fs[28]? = some v) (d : decode cc pc = .ok (.getfield 342, 3)) (kk : J l R nb "NumberTowerModel" cc nL ret D jCl tys A X Qx ad N kc ks (pc + 3) lv (v :: st) F) : J l R nb "NumberTowerModel" cc nL ret D jCl tys A X Qx ad N kc ks pc lv (.ref (ad k) :: st) F :=
  J_get (C := "NumberTowerModel") (T := F_M) (n := 30) in_M rfl 28 (by decide) wd_1013 rfl hk hF hv d kk
theorem cw_M_348 : Cond.methodLink "NumberTowerModel" 348 y_M_rounded ∈ jALL ∧ Cond.instanceMethod y_M_rounded ∈ jALL ∧ Cond.selects "NumberTowerModel" y_M_rounded y_M_rounded ∈ jALL ∧ Cond.code y_M_rounded b_M_rounded 3 (Option.none : Option Jvm.ClassFile.FieldType) ∈ jALL ∧ Cond.initialized y_M_rounded.cls ∈ jALL := ⟨wd_1424, wd_1426, ws_100, wd_1427, wd_9⟩
theorem gf_M_327 (hk : k < N) (hF : F k = .inr (8, fs)) (hv : fs[24]? = some v) (d : decode cc pc = .ok (.getfield 327, 3)) (kk : J l R nb "NumberTowerModel" cc nL ret D jCl tys A X Qx ad N kc ks (pc + 3) lv (v :: st) F) : J l R nb "NumberTowerModel" cc nL ret D jCl tys A X Qx ad N kc ks pc lv (.ref (ad k) :: st) F :=
  J_get (C := "NumberTowerModel") (T := F_M) (n := 30) in_M rfl 24 (by decide) wd_1009 rfl hk hF hv d kk
theorem cw_M_351 : Cond.methodLink "NumberTowerModel" 351 y_M_floating ∈ jALL ∧ Cond.instanceMethod y_M_floating ∈ jALL ∧ Cond.selects "NumberTowerModel" y_M_floating y_M_floating ∈ jALL ∧ Cond.code y_M_floating b_M_floating 3 (Option.some Jvm.ClassFile.FieldType.int) ∈ jALL ∧ Cond.initialized y_M_floating.cls ∈ jALL := ⟨wd_1432, wd_1434, ws_102, wd_1435, wd_9⟩
theorem cw_M_354 : Cond.methodLink "NumberTowerModel" 354 y_M_cut ∈ jALL ∧ Cond.instanceMethod y_M_cut ∈ jALL ∧ Cond.selects "NumberTowerModel" y_M_cut y_M_cut ∈ jALL ∧ Cond.code y_M_cut b_M_cut 3 (Option.none : Option Jvm.ClassFile.FieldType) ∈ jALL ∧ Cond.initialized y_M_cut.cls ∈ jALL := ⟨wd_1436, wd_1438, ws_103, wd_1439, wd_9⟩
theorem cw_M_357 : Cond.methodLink "NumberTowerModel" 357 y_M_sayFloat ∈ jALL ∧ Cond.instanceMethod y_M_sayFloat ∈ jALL ∧ Cond.selects "NumberTowerModel" y_M_sayFloat y_M_sayFloat ∈ jALL ∧ Cond.code y_M_sayFloat b_M_sayFloat 6 (Option.none : Option Jvm.ClassFile.FieldType) ∈ jALL ∧ Cond.initialized y_M_sayFloat.cls ∈ jALL := ⟨wd_1428, wd_1430, ws_101, wd_1431, wd_9⟩
theorem cw_M_360 : Cond.methodLink "NumberTowerModel" 360 y_M_sayFixed ∈ jALL ∧ Cond.instanceMethod y_M_sayFixed ∈ jALL ∧ Cond.selects "NumberTowerModel" y_M_sayFixed y_M_sayFixed ∈ jALL ∧ Cond.code y_M_sayFixed b_M_sayFixed 2 (Option.none : Option Jvm.ClassFile.FieldType) ∈ jALL ∧ Cond.initialized y_M_sayFixed.cls ∈ jALL := ⟨wd_1420, wd_1422, ws_99, wd_1423, wd_9⟩
theorem cw_M_363 : Cond.methodLink "NumberTowerModel" 363 y_M_sayGeneral ∈ jALL ∧ Cond.instanceMethod y_M_sayGeneral ∈ jALL ∧ Cond.selects "NumberTowerModel" y_M_sayGeneral y_M_sayGeneral ∈ jALL ∧ Cond.code y_M_sayGeneral b_M_sayGeneral 5 (Option.none : Option Jvm.ClassFile.FieldType) ∈ jALL ∧ Cond.initialized y_M_sayGeneral.cls ∈ jALL := ⟨wd_1440, wd_1442, ws_104, wd_1443, wd_9⟩
theorem cw_M_366 : Cond.methodLink "NumberTowerModel" 366 y_M_spec ∈ jALL ∧ Cond.instanceMethod y_M_spec ∈ jALL ∧ Cond.selects "NumberTowerModel" y_M_spec y_M_spec ∈ jALL ∧ Cond.code y_M_spec b_M_spec 6 (Option.some Jvm.ClassFile.FieldType.boolean) ∈ jALL ∧ Cond.initialized y_M_spec.cls ∈ jALL := ⟨wd_1405, wd_1407, ws_96, wd_1408, wd_9⟩
theorem cw_M_369 : Cond.methodLink "NumberTowerModel" 369 y_M_body ∈ jALL ∧ Cond.instanceMethod y_M_body ∈ jALL ∧ Cond.selects "NumberTowerModel" y_M_body y_M_body ∈ jALL ∧ Cond.code y_M_body b_M_body 3 (Option.none : Option Jvm.ClassFile.FieldType) ∈ jALL ∧ Cond.initialized y_M_body.cls ∈ jALL := ⟨wd_1416, wd_1418, ws_98, wd_1419, wd_9⟩
theorem gf_M_316 (hk : k < N) (hF : F k = .inr (8, fs)) (hv : fs[21]? = some v) (d : decode cc pc = .ok (.getfield 316, 3)) (kk : J l R nb "NumberTowerModel" cc nL ret D jCl tys A X Qx ad N kc ks (pc + 3) lv (v :: st) F) : J l R nb "NumberTowerModel" cc nL ret D jCl tys A X Qx ad N kc ks pc lv (.ref (ad k) :: st) F :=
  J_get (C := "NumberTowerModel") (T := F_M) (n := 30) in_M rfl 21 (by decide) wd_1006 rfl hk hF hv d kk
theorem gf_M_330 (hk : k < N) (hF : F k = .inr (8, fs)) (hv : fs[25]? = some v) (d : decode cc pc = .ok (.getfield 330, 3)) (kk : J l R nb "NumberTowerModel" cc nL ret D jCl tys A X Qx ad N kc ks (pc + 3) lv (v :: st) F) : J l R nb "NumberTowerModel" cc nL ret D jCl tys A X Qx ad N kc ks pc lv (.ref (ad k) :: st) F :=
  J_get (C := "NumberTowerModel") (T := F_M) (n := 30) in_M rfl 25 (by decide) wd_1010 rfl hk hF hv d kk
theorem gf_M_319 (hk : k < N) (hF : F k = .inr (8, fs)) (hv : fs[22]? = some v) (d : decode cc pc = .ok (.getfield 319, 3)) (kk : J l R nb "NumberTowerModel" cc nL ret D jCl tys A X Qx ad N kc ks (pc + 3) lv (v :: st) F) : J l R nb "NumberTowerModel" cc nL ret D jCl tys A X Qx ad N kc ks pc lv (.ref (ad k) :: st) F :=
  J_get (C := "NumberTowerModel") (T := F_M) (n := 30) in_M rfl 22 (by decide) wd_1007 rfl hk hF hv d kk
theorem cw_M_372 : Cond.methodLink "NumberTowerModel" 372 y_M_pad ∈ jALL ∧ Cond.instanceMethod y_M_pad ∈ jALL ∧ Cond.selects "NumberTowerModel" y_M_pad y_M_pad ∈ jALL ∧ Cond.code y_M_pad b_M_pad 6 (Option.none : Option Jvm.ClassFile.FieldType) ∈ jALL ∧ Cond.initialized y_M_pad.cls ∈ jALL := ⟨wd_1444, wd_1446, ws_105, wd_1447, wd_9⟩
theorem cw_D_11 : Cond.methodLink "NumberTower$Desk" 11 y_U_init ∈ jALL ∧ Cond.instanceMethod y_U_init ∈ jALL ∧ Cond.code y_U_init b_U_init 1 (Option.none : Option Jvm.ClassFile.FieldType) ∈ jALL ∧ Cond.initialized y_U_init.cls ∈ jALL := ⟨wd_107, wd_32, wd_33, wd_2⟩
theorem pf_D_12 {x : Nat} (hk : k < N) (hF : F k = .inr (1, fs)) (hl0 : 0 < fs.length) (hown : "NumberTower$Desk" = (F_D 0).1) (hini : ∀ s me, X s me → me.name = "<init>") (d : decode cc pc = .ok (.putfield 12, 3)) (kk : J l R nb "NumberTower$Desk" cc nL ret D jCl tys A X Qx ad N kc ks (pc + 3) lv st (va_up F k (.inr (1, fs.set 0 (.ref x))))) : J l R nb "NumberTower$Desk" cc nL ret D jCl tys A X Qx ad N kc ks pc lv ((.ref x) :: .ref (ad k) :: st) F :=
  J_putF (C := "NumberTower$Desk") (T := F_D) (n := 11) in_D tt_D tt_D_ok n_D rfl 0 (by decide) wd_110 rfl rfl hown hini (ty := .object "NumberTower$Num") (tt_D_ok 0 (by decide)) hk hF hl0 rfl rfl d kk
theorem pf_D_18 {x : Nat} (hk : k < N) (hF : F k = .inr (1, fs)) (hl0 : 1 < fs.length) (hown : "NumberTower$Desk" = (F_D 1).1) (hini : ∀ s me, X s me → me.name = "<init>") (d : decode cc pc = .ok (.putfield 18, 3)) (kk : J l R nb "NumberTower$Desk" cc nL ret D jCl tys A X Qx ad N kc ks (pc + 3) lv st (va_up F k (.inr (1, fs.set 1 (.ref x))))) : J l R nb "NumberTower$Desk" cc nL ret D jCl tys A X Qx ad N kc ks pc lv ((.ref x) :: .ref (ad k) :: st) F :=
  J_putF (C := "NumberTower$Desk") (T := F_D) (n := 11) in_D tt_D tt_D_ok n_D rfl 1 (by decide) wd_112 rfl rfl hown hini (ty := .object "NumberTower$Num") (tt_D_ok 1 (by decide)) hk hF hl0 rfl rfl d kk
theorem pf_D_21 {x : Nat} (hk : k < N) (hF : F k = .inr (1, fs)) (hl0 : 2 < fs.length) (hown : "NumberTower$Desk" = (F_D 2).1) (hini : ∀ s me, X s me → me.name = "<init>") (d : decode cc pc = .ok (.putfield 21, 3)) (kk : J l R nb "NumberTower$Desk" cc nL ret D jCl tys A X Qx ad N kc ks (pc + 3) lv st (va_up F k (.inr (1, fs.set 2 (.ref x))))) : J l R nb "NumberTower$Desk" cc nL ret D jCl tys A X Qx ad N kc ks pc lv ((.ref x) :: .ref (ad k) :: st) F :=
  J_putF (C := "NumberTower$Desk") (T := F_D) (n := 11) in_D tt_D tt_D_ok n_D rfl 2 (by decide) wd_113 rfl rfl hown hini (ty := .object "NumberTower$Num") (tt_D_ok 2 (by decide)) hk hF hl0 rfl rfl d kk
theorem cw_D_26 : Cond.methodLink "NumberTower$Desk" 26 y_N_init ∈ jALL ∧ Cond.instanceMethod y_N_init ∈ jALL ∧ Cond.code y_N_init b_N_init 1 (Option.none : Option Jvm.ClassFile.FieldType) ∈ jALL ∧ Cond.initialized y_N_init.cls ∈ jALL := ⟨wd_109, wd_38, wd_39, wd_3⟩
theorem pf_D_27 {x : Nat} (hk : k < N) (hF : F k = .inr (1, fs)) (hl0 : 3 < fs.length) (hown : "NumberTower$Desk" = (F_D 3).1) (hini : ∀ s me, X s me → me.name = "<init>") (d : decode cc pc = .ok (.putfield 27, 3)) (kk : J l R nb "NumberTower$Desk" cc nL ret D jCl tys A X Qx ad N kc ks (pc + 3) lv st (va_up F k (.inr (1, fs.set 3 (.ref x))))) : J l R nb "NumberTower$Desk" cc nL ret D jCl tys A X Qx ad N kc ks pc lv ((.ref x) :: .ref (ad k) :: st) F :=
  J_putF (C := "NumberTower$Desk") (T := F_D) (n := 11) in_D tt_D tt_D_ok n_D rfl 3 (by decide) wd_114 rfl rfl hown hini (ty := .object "NumberTower$Natural") (tt_D_ok 3 (by decide)) hk hF hl0 rfl rfl d kk
theorem pf_D_31 {x : Nat} (hk : k < N) (hF : F k = .inr (1, fs)) (hl0 : 4 < fs.length) (hown : "NumberTower$Desk" = (F_D 4).1) (hini : ∀ s me, X s me → me.name = "<init>") (d : decode cc pc = .ok (.putfield 31, 3)) (kk : J l R nb "NumberTower$Desk" cc nL ret D jCl tys A X Qx ad N kc ks (pc + 3) lv st (va_up F k (.inr (1, fs.set 4 (.ref x))))) : J l R nb "NumberTower$Desk" cc nL ret D jCl tys A X Qx ad N kc ks pc lv ((.ref x) :: .ref (ad k) :: st) F :=
  J_putF (C := "NumberTower$Desk") (T := F_D) (n := 11) in_D tt_D tt_D_ok n_D rfl 4 (by decide) wd_115 rfl rfl hown hini (ty := .object "NumberTower$Natural") (tt_D_ok 4 (by decide)) hk hF hl0 rfl rfl d kk
theorem pf_D_34 {x : Nat} (hk : k < N) (hF : F k = .inr (1, fs)) (hl0 : 5 < fs.length) (hown : "NumberTower$Desk" = (F_D 5).1) (hini : ∀ s me, X s me → me.name = "<init>") (d : decode cc pc = .ok (.putfield 34, 3)) (kk : J l R nb "NumberTower$Desk" cc nL ret D jCl tys A X Qx ad N kc ks (pc + 3) lv st (va_up F k (.inr (1, fs.set 5 (.ref x))))) : J l R nb "NumberTower$Desk" cc nL ret D jCl tys A X Qx ad N kc ks pc lv ((.ref x) :: .ref (ad k) :: st) F :=
  J_putF (C := "NumberTower$Desk") (T := F_D) (n := 11) in_D tt_D tt_D_ok n_D rfl 5 (by decide) wd_116 rfl rfl hown hini (ty := .object "NumberTower$Natural") (tt_D_ok 5 (by decide)) hk hF hl0 rfl rfl d kk
theorem pf_D_37 {x : Nat} (hk : k < N) (hF : F k = .inr (1, fs)) (hl0 : 6 < fs.length) (hown : "NumberTower$Desk" = (F_D 6).1) (hini : ∀ s me, X s me → me.name = "<init>") (d : decode cc pc = .ok (.putfield 37, 3)) (kk : J l R nb "NumberTower$Desk" cc nL ret D jCl tys A X Qx ad N kc ks (pc + 3) lv st (va_up F k (.inr (1, fs.set 6 (.ref x))))) : J l R nb "NumberTower$Desk" cc nL ret D jCl tys A X Qx ad N kc ks pc lv ((.ref x) :: .ref (ad k) :: st) F :=
  J_putF (C := "NumberTower$Desk") (T := F_D) (n := 11) in_D tt_D tt_D_ok n_D rfl 6 (by decide) wd_117 rfl rfl hown hini (ty := .object "NumberTower$Natural") (tt_D_ok 6 (by decide)) hk hF hl0 rfl rfl d kk
theorem pf_D_40 {x : Nat} (hk : k < N) (hF : F k = .inr (1, fs)) (hl0 : 7 < fs.length) (hown : "NumberTower$Desk" = (F_D 7).1) (hini : ∀ s me, X s me → me.name = "<init>") (d : decode cc pc = .ok (.putfield 40, 3)) (kk : J l R nb "NumberTower$Desk" cc nL ret D jCl tys A X Qx ad N kc ks (pc + 3) lv st (va_up F k (.inr (1, fs.set 7 (.ref x))))) : J l R nb "NumberTower$Desk" cc nL ret D jCl tys A X Qx ad N kc ks pc lv ((.ref x) :: .ref (ad k) :: st) F :=
  J_putF (C := "NumberTower$Desk") (T := F_D) (n := 11) in_D tt_D tt_D_ok n_D rfl 7 (by decide) wd_118 rfl rfl hown hini (ty := .object "NumberTower$Natural") (tt_D_ok 7 (by decide)) hk hF hl0 rfl rfl d kk
theorem pf_D_43 {x : Nat} (hk : k < N) (hF : F k = .inr (1, fs)) (hl0 : 8 < fs.length) (hown : "NumberTower$Desk" = (F_D 8).1) (hini : ∀ s me, X s me → me.name = "<init>") (d : decode cc pc = .ok (.putfield 43, 3)) (kk : J l R nb "NumberTower$Desk" cc nL ret D jCl tys A X Qx ad N kc ks (pc + 3) lv st (va_up F k (.inr (1, fs.set 8 (.ref x))))) : J l R nb "NumberTower$Desk" cc nL ret D jCl tys A X Qx ad N kc ks pc lv ((.ref x) :: .ref (ad k) :: st) F :=
  J_putF (C := "NumberTower$Desk") (T := F_D) (n := 11) in_D tt_D tt_D_ok n_D rfl 8 (by decide) wd_119 rfl rfl hown hini (ty := .object "NumberTower$Natural") (tt_D_ok 8 (by decide)) hk hF hl0 rfl rfl d kk
theorem pf_D_46 {x : Nat} (hk : k < N) (hF : F k = .inr (1, fs)) (hl0 : 9 < fs.length) (hown : "NumberTower$Desk" = (F_D 9).1) (hini : ∀ s me, X s me → me.name = "<init>") (d : decode cc pc = .ok (.putfield 46, 3)) (kk : J l R nb "NumberTower$Desk" cc nL ret D jCl tys A X Qx ad N kc ks (pc + 3) lv st (va_up F k (.inr (1, fs.set 9 (.ref x))))) : J l R nb "NumberTower$Desk" cc nL ret D jCl tys A X Qx ad N kc ks pc lv ((.ref x) :: .ref (ad k) :: st) F :=
  J_putF (C := "NumberTower$Desk") (T := F_D) (n := 11) in_D tt_D tt_D_ok n_D rfl 9 (by decide) wd_120 rfl rfl hown hini (ty := .object "NumberTower$Natural") (tt_D_ok 9 (by decide)) hk hF hl0 rfl rfl d kk
theorem pf_D_49 {x : Nat} (hk : k < N) (hF : F k = .inr (1, fs)) (hl0 : 10 < fs.length) (hown : "NumberTower$Desk" = (F_D 10).1) (hini : ∀ s me, X s me → me.name = "<init>") (d : decode cc pc = .ok (.putfield 49, 3)) (kk : J l R nb "NumberTower$Desk" cc nL ret D jCl tys A X Qx ad N kc ks (pc + 3) lv st (va_up F k (.inr (1, fs.set 10 (.ref x))))) : J l R nb "NumberTower$Desk" cc nL ret D jCl tys A X Qx ad N kc ks pc lv ((.ref x) :: .ref (ad k) :: st) F :=
  J_putF (C := "NumberTower$Desk") (T := F_D) (n := 11) in_D tt_D tt_D_ok n_D rfl 10 (by decide) wd_121 rfl rfl hown hini (ty := .object "NumberTower$Natural") (tt_D_ok 10 (by decide)) hk hF hl0 rfl rfl d kk
theorem gf_D_52 (hk : k < N) (hF : F k = .inr (3, fs)) (hv : fs[0]? = some v) (d : decode cc pc = .ok (.getfield 52, 3)) (kk : J l R nb "NumberTower$Desk" cc nL ret D jCl tys A X Qx ad N kc ks (pc + 3) lv (v :: st) F) : J l R nb "NumberTower$Desk" cc nL ret D jCl tys A X Qx ad N kc ks pc lv (.ref (ad k) :: st) F :=
  J_get (C := "NumberTower$Num") (T := F_U) (n := 4) in_U rfl 0 (by decide) wd_54 rfl hk hF hv d kk
theorem cw_D_56 : Cond.methodLink "NumberTower$Desk" 56 y_JMath_max ∈ jALL ∧ Cond.static y_JMath_max ∈ jALL ∧ Cond.code y_JMath_max b_JMath_max 2 (Option.some Jvm.ClassFile.FieldType.int) ∈ jALL ∧ Cond.initialized y_JMath_max.cls ∈ jALL := ⟨wd_715, wd_442, wd_443, wd_18⟩
theorem gf_D_18 (hk : k < N) (hF : F k = .inr (1, fs)) (hv : fs[1]? = some v) (d : decode cc pc = .ok (.getfield 18, 3)) (kk : J l R nb "NumberTower$Desk" cc nL ret D jCl tys A X Qx ad N kc ks (pc + 3) lv (v :: st) F) : J l R nb "NumberTower$Desk" cc nL ret D jCl tys A X Qx ad N kc ks pc lv (.ref (ad k) :: st) F :=
  J_get (C := "NumberTower$Desk") (T := F_D) (n := 11) in_D rfl 1 (by decide) wd_112 rfl hk hF hv d kk
theorem cw_D_62 : Cond.methodLink "NumberTower$Desk" 62 y_U_become ∈ jALL ∧ Cond.instanceMethod y_U_become ∈ jALL ∧ Cond.selects "NumberTower$Num" y_U_become y_U_become ∈ jALL ∧ Cond.code y_U_become b_U_become 2 (Option.none : Option Jvm.ClassFile.FieldType) ∈ jALL ∧ Cond.initialized y_U_become.cls ∈ jALL := ⟨wd_681, wd_320, wd_321, wd_322, wd_2⟩
theorem gf_D_21 (hk : k < N) (hF : F k = .inr (1, fs)) (hv : fs[2]? = some v) (d : decode cc pc = .ok (.getfield 21, 3)) (kk : J l R nb "NumberTower$Desk" cc nL ret D jCl tys A X Qx ad N kc ks (pc + 3) lv (v :: st) F) : J l R nb "NumberTower$Desk" cc nL ret D jCl tys A X Qx ad N kc ks pc lv (.ref (ad k) :: st) F :=
  J_get (C := "NumberTower$Desk") (T := F_D) (n := 11) in_D rfl 2 (by decide) wd_113 rfl hk hF hv d kk
theorem cw_D_66 : Cond.methodLink "NumberTower$Desk" 66 y_D_makeNearestUnlessReal ∈ jALL ∧ Cond.instanceMethod y_D_makeNearestUnlessReal ∈ jALL ∧ Cond.selects "NumberTower$Desk" y_D_makeNearestUnlessReal y_D_makeNearestUnlessReal ∈ jALL ∧ Cond.code y_D_makeNearestUnlessReal b_D_makeNearestUnlessReal 2 (Option.none : Option Jvm.ClassFile.FieldType) ∈ jALL ∧ Cond.initialized y_D_makeNearestUnlessReal.cls ∈ jALL := ⟨wd_716, wd_718, ws_12, wd_719, wd_5⟩
theorem gf_D_69 (hk : k < N) (hF : F k = .inr (3, fs)) (hv : fs[1]? = some v) (d : decode cc pc = .ok (.getfield 69, 3)) (kk : J l R nb "NumberTower$Desk" cc nL ret D jCl tys A X Qx ad N kc ks (pc + 3) lv (v :: st) F) : J l R nb "NumberTower$Desk" cc nL ret D jCl tys A X Qx ad N kc ks pc lv (.ref (ad k) :: st) F :=
  J_get (C := "NumberTower$Num") (T := F_U) (n := 4) in_U rfl 1 (by decide) wd_60 rfl hk hF hv d kk
theorem cw_D_72 : Cond.methodLink "NumberTower$Desk" 72 y_D_addParts ∈ jALL ∧ Cond.instanceMethod y_D_addParts ∈ jALL ∧ Cond.selects "NumberTower$Desk" y_D_addParts y_D_addParts ∈ jALL ∧ Cond.code y_D_addParts b_D_addParts 2 (Option.none : Option Jvm.ClassFile.FieldType) ∈ jALL ∧ Cond.initialized y_D_addParts.cls ∈ jALL := ⟨wd_720, wd_722, ws_13, wd_723, wd_5⟩
theorem gf_D_76 (hk : k < N) (hF : F k = .inr (3, fs)) (hv : fs[2]? = some v) (d : decode cc pc = .ok (.getfield 76, 3)) (kk : J l R nb "NumberTower$Desk" cc nL ret D jCl tys A X Qx ad N kc ks (pc + 3) lv (v :: st) F) : J l R nb "NumberTower$Desk" cc nL ret D jCl tys A X Qx ad N kc ks pc lv (.ref (ad k) :: st) F :=
  J_get (C := "NumberTower$Num") (T := F_U) (n := 4) in_U rfl 2 (by decide) wd_65 rfl hk hF hv d kk
theorem gf_D_79 (hk : k < N) (hF : F k = .inr (3, fs)) (hv : fs[3]? = some v) (d : decode cc pc = .ok (.getfield 79, 3)) (kk : J l R nb "NumberTower$Desk" cc nL ret D jCl tys A X Qx ad N kc ks (pc + 3) lv (v :: st) F) : J l R nb "NumberTower$Desk" cc nL ret D jCl tys A X Qx ad N kc ks pc lv (.ref (ad k) :: st) F :=
  J_get (C := "NumberTower$Num") (T := F_U) (n := 4) in_U rfl 3 (by decide) wd_70 rfl hk hF hv d kk
theorem cw_D_82 : Cond.methodLink "NumberTower$Desk" 82 y_D_setParts ∈ jALL ∧ Cond.instanceMethod y_D_setParts ∈ jALL ∧ Cond.selects "NumberTower$Desk" y_D_setParts y_D_setParts ∈ jALL ∧ Cond.code y_D_setParts b_D_setParts 5 (Option.none : Option Jvm.ClassFile.FieldType) ∈ jALL ∧ Cond.initialized y_D_setParts.cls ∈ jALL := ⟨wd_683, wd_685, ws_11, wd_686, wd_5⟩
theorem cw_D_86 : Cond.methodLink "NumberTower$Desk" 86 y_D_floorAndRest ∈ jALL ∧ Cond.instanceMethod y_D_floorAndRest ∈ jALL ∧ Cond.selects "NumberTower$Desk" y_D_floorAndRest y_D_floorAndRest ∈ jALL ∧ Cond.code y_D_floorAndRest b_D_floorAndRest 1 (Option.none : Option Jvm.ClassFile.FieldType) ∈ jALL ∧ Cond.initialized y_D_floorAndRest.cls ∈ jALL := ⟨wd_728, wd_730, ws_15, wd_731, wd_5⟩
theorem gf_D_12 (hk : k < N) (hF : F k = .inr (1, fs)) (hv : fs[0]? = some v) (d : decode cc pc = .ok (.getfield 12, 3)) (kk : J l R nb "NumberTower$Desk" cc nL ret D jCl tys A X Qx ad N kc ks (pc + 3) lv (v :: st) F) : J l R nb "NumberTower$Desk" cc nL ret D jCl tys A X Qx ad N kc ks pc lv (.ref (ad k) :: st) F :=
  J_get (C := "NumberTower$Desk") (T := F_D) (n := 11) in_D rfl 0 (by decide) wd_110 rfl hk hF hv d kk
theorem gf_D_27 (hk : k < N) (hF : F k = .inr (1, fs)) (hv : fs[3]? = some v) (d : decode cc pc = .ok (.getfield 27, 3)) (kk : J l R nb "NumberTower$Desk" cc nL ret D jCl tys A X Qx ad N kc ks (pc + 3) lv (v :: st) F) : J l R nb "NumberTower$Desk" cc nL ret D jCl tys A X Qx ad N kc ks pc lv (.ref (ad k) :: st) F :=
  J_get (C := "NumberTower$Desk") (T := F_D) (n := 11) in_D rfl 3 (by decide) wd_114 rfl hk hF hv d kk
theorem cw_D_89 : Cond.methodLink "NumberTower$Desk" 89 y_N_copyFrom ∈ jALL ∧ Cond.instanceMethod y_N_copyFrom ∈ jALL ∧ Cond.selects "NumberTower$Natural" y_N_copyFrom y_N_copyFrom ∈ jALL ∧ Cond.code y_N_copyFrom b_N_copyFrom 2 (Option.none : Option Jvm.ClassFile.FieldType) ∈ jALL ∧ Cond.initialized y_N_copyFrom.cls ∈ jALL := ⟨wd_398, wd_324, wd_325, wd_326, wd_3⟩
theorem cw_D_93 : Cond.methodLink "NumberTower$Desk" 93 y_N_set ∈ jALL ∧ Cond.instanceMethod y_N_set ∈ jALL ∧ Cond.selects "NumberTower$Natural" y_N_set y_N_set ∈ jALL ∧ Cond.code y_N_set b_N_set 3 (Option.none : Option Jvm.ClassFile.FieldType) ∈ jALL ∧ Cond.initialized y_N_set.cls ∈ jALL := ⟨wd_397, wd_300, wd_301, wd_302, wd_3⟩
theorem gf_D_31 (hk : k < N) (hF : F k = .inr (1, fs)) (hv : fs[4]? = some v) (d : decode cc pc = .ok (.getfield 31, 3)) (kk : J l R nb "NumberTower$Desk" cc nL ret D jCl tys A X Qx ad N kc ks (pc + 3) lv (v :: st) F) : J l R nb "NumberTower$Desk" cc nL ret D jCl tys A X Qx ad N kc ks pc lv (.ref (ad k) :: st) F :=
  J_get (C := "NumberTower$Desk") (T := F_D) (n := 11) in_D rfl 4 (by decide) wd_115 rfl hk hF hv d kk
theorem cw_D_97 : Cond.methodLink "NumberTower$Desk" 97 y_N_setProduct ∈ jALL ∧ Cond.instanceMethod y_N_setProduct ∈ jALL ∧ Cond.selects "NumberTower$Natural" y_N_setProduct y_N_setProduct ∈ jALL ∧ Cond.code y_N_setProduct b_N_setProduct 11 (Option.none : Option Jvm.ClassFile.FieldType) ∈ jALL ∧ Cond.initialized y_N_setProduct.cls ∈ jALL := ⟨wd_380, wd_381, wd_382, wd_383, wd_3⟩
theorem pf_D_69 {x : Int32} (hk : k < N) (hF : F k = .inr (3, fs)) (hl0 : 1 < fs.length) (d : decode cc pc = .ok (.putfield 69, 3)) (kk : J l R nb "NumberTower$Desk" cc nL ret D jCl tys A X Qx ad N kc ks (pc + 3) lv st (va_up F k (.inr (3, fs.set 1 (.int x))))) : J l R nb "NumberTower$Desk" cc nL ret D jCl tys A X Qx ad N kc ks pc lv ((.int x) :: .ref (ad k) :: st) F :=
  J_put (C := "NumberTower$Num") (T := F_U) (n := 4) in_U tt_U tt_U_ok n_U rfl 1 (by decide) wd_60 rfl rfl (ty := .int) (tt_U_ok 1 (by decide)) hk hF hl0 rfl rfl d kk
theorem cw_D_101 : Cond.methodLink "NumberTower$Desk" 101 y_D_settle ∈ jALL ∧ Cond.instanceMethod y_D_settle ∈ jALL ∧ Cond.selects "NumberTower$Desk" y_D_settle y_D_settle ∈ jALL ∧ Cond.code y_D_settle b_D_settle 2 (Option.none : Option Jvm.ClassFile.FieldType) ∈ jALL ∧ Cond.initialized y_D_settle.cls ∈ jALL := ⟨wd_636, wd_638, ws_8, wd_639, wd_5⟩
theorem gf_D_34 (hk : k < N) (hF : F k = .inr (1, fs)) (hv : fs[5]? = some v) (d : decode cc pc = .ok (.getfield 34, 3)) (kk : J l R nb "NumberTower$Desk" cc nL ret D jCl tys A X Qx ad N kc ks (pc + 3) lv (v :: st) F) : J l R nb "NumberTower$Desk" cc nL ret D jCl tys A X Qx ad N kc ks pc lv (.ref (ad k) :: st) F :=
  J_get (C := "NumberTower$Desk") (T := F_D) (n := 11) in_D rfl 5 (by decide) wd_116 rfl hk hF hv d kk
theorem cw_D_104 : Cond.methodLink "NumberTower$Desk" 104 y_N_add ∈ jALL ∧ Cond.instanceMethod y_N_add ∈ jALL ∧ Cond.selects "NumberTower$Natural" y_N_add y_N_add ∈ jALL ∧ Cond.code y_N_add b_N_add 6 (Option.none : Option Jvm.ClassFile.FieldType) ∈ jALL ∧ Cond.initialized y_N_add.cls ∈ jALL := ⟨wd_437, wd_438, wd_439, wd_440, wd_3⟩
theorem cw_D_107 : Cond.methodLink "NumberTower$Desk" 107 y_D_subtractAmounts ∈ jALL ∧ Cond.instanceMethod y_D_subtractAmounts ∈ jALL ∧ Cond.selects "NumberTower$Desk" y_D_subtractAmounts y_D_subtractAmounts ∈ jALL ∧ Cond.code y_D_subtractAmounts b_D_subtractAmounts 2 (Option.none : Option Jvm.ClassFile.FieldType) ∈ jALL ∧ Cond.initialized y_D_subtractAmounts.cls ∈ jALL := ⟨wd_724, wd_726, ws_14, wd_727, wd_5⟩
theorem cw_D_110 : Cond.methodLink "NumberTower$Desk" 110 y_N_order ∈ jALL ∧ Cond.instanceMethod y_N_order ∈ jALL ∧ Cond.selects "NumberTower$Natural" y_N_order y_N_order ∈ jALL ∧ Cond.code y_N_order b_N_order 3 (Option.some Jvm.ClassFile.FieldType.int) ∈ jALL ∧ Cond.initialized y_N_order.cls ∈ jALL := ⟨wd_384, wd_385, wd_386, wd_387, wd_3⟩
theorem cw_D_114 : Cond.methodLink "NumberTower$Desk" 114 y_N_subtract ∈ jALL ∧ Cond.instanceMethod y_N_subtract ∈ jALL ∧ Cond.selects "NumberTower$Natural" y_N_subtract y_N_subtract ∈ jALL ∧ Cond.code y_N_subtract b_N_subtract 5 (Option.none : Option Jvm.ClassFile.FieldType) ∈ jALL ∧ Cond.initialized y_N_subtract.cls ∈ jALL := ⟨wd_448, wd_449, wd_450, wd_451, wd_3⟩
theorem cw_D_117 : Cond.methodLink "NumberTower$Desk" 117 y_N_divide ∈ jALL ∧ Cond.instanceMethod y_N_divide ∈ jALL ∧ Cond.selects "NumberTower$Natural" y_N_divide y_N_divide ∈ jALL ∧ Cond.code y_N_divide b_N_divide 7 (Option.none : Option Jvm.ClassFile.FieldType) ∈ jALL ∧ Cond.initialized y_N_divide.cls ∈ jALL := ⟨wd_399, wd_400, wd_401, wd_402, wd_3⟩
theorem cw_D_120 : Cond.methodLink "NumberTower$Desk" 120 y_N_isZero ∈ jALL ∧ Cond.instanceMethod y_N_isZero ∈ jALL ∧ Cond.selects "NumberTower$Natural" y_N_isZero y_N_isZero ∈ jALL ∧ Cond.code y_N_isZero b_N_isZero 1 (Option.some Jvm.ClassFile.FieldType.boolean) ∈ jALL ∧ Cond.initialized y_N_isZero.cls ∈ jALL := ⟨wd_436, wd_358, wd_359, wd_360, wd_3⟩
theorem cw_D_124 : Cond.methodLink "NumberTower$Desk" 124 y_N_addSmall ∈ jALL ∧ Cond.instanceMethod y_N_addSmall ∈ jALL ∧ Cond.selects "NumberTower$Natural" y_N_addSmall y_N_addSmall ∈ jALL ∧ Cond.code y_N_addSmall b_N_addSmall 5 (Option.none : Option Jvm.ClassFile.FieldType) ∈ jALL ∧ Cond.initialized y_N_addSmall.cls ∈ jALL := ⟨wd_697, wd_698, wd_699, wd_700, wd_3⟩
theorem cw_D_127 : Cond.methodLink "NumberTower$Desk" 127 y_U_setWhole ∈ jALL ∧ Cond.instanceMethod y_U_setWhole ∈ jALL ∧ Cond.selects "NumberTower$Num" y_U_setWhole y_U_setWhole ∈ jALL ∧ Cond.code y_U_setWhole b_U_setWhole 3 (Option.none : Option Jvm.ClassFile.FieldType) ∈ jALL ∧ Cond.initialized y_U_setWhole.cls ∈ jALL := ⟨wd_682, wd_293, wd_294, wd_295, wd_2⟩
theorem pf_D_52 {x : Int32} (hk : k < N) (hF : F k = .inr (3, fs)) (hl0 : 0 < fs.length) (d : decode cc pc = .ok (.putfield 52, 3)) (kk : J l R nb "NumberTower$Desk" cc nL ret D jCl tys A X Qx ad N kc ks (pc + 3) lv st (va_up F k (.inr (3, fs.set 0 (.int x))))) : J l R nb "NumberTower$Desk" cc nL ret D jCl tys A X Qx ad N kc ks pc lv ((.int x) :: .ref (ad k) :: st) F :=
  J_put (C := "NumberTower$Num") (T := F_U) (n := 4) in_U tt_U tt_U_ok n_U rfl 0 (by decide) wd_54 rfl rfl (ty := .int) (tt_U_ok 0 (by decide)) hk hF hl0 rfl rfl d kk
theorem cw_D_130 : Cond.methodLink "NumberTower$Desk" 130 y_D_refuseBeyond ∈ jALL ∧ Cond.static y_D_refuseBeyond ∈ jALL ∧ Cond.code y_D_refuseBeyond b_D_refuseBeyond 1 (Option.none : Option Jvm.ClassFile.FieldType) ∈ jALL ∧ Cond.initialized y_D_refuseBeyond.cls ∈ jALL := ⟨wd_653, wd_654, wd_655, wd_5⟩
theorem cw_D_133 : Cond.methodLink "NumberTower$Desk" 133 y_D_loadForBits ∈ jALL ∧ Cond.static y_D_loadForBits ∈ jALL ∧ Cond.code y_D_loadForBits b_D_loadForBits 2 (Option.some Jvm.ClassFile.FieldType.int) ∈ jALL ∧ Cond.initialized y_D_loadForBits.cls ∈ jALL := ⟨wd_705, wd_706, wd_707, wd_5⟩
theorem cw_D_137 : Cond.methodLink "NumberTower$Desk" 137 y_D_mixBits ∈ jALL ∧ Cond.static y_D_mixBits ∈ jALL ∧ Cond.code y_D_mixBits b_D_mixBits 3 (Option.some Jvm.ClassFile.FieldType.int) ∈ jALL ∧ Cond.initialized y_D_mixBits.cls ∈ jALL := ⟨wd_708, wd_709, wd_710, wd_5⟩
theorem gf_D_141 (hk : k < N) (hF : F k = .inr (2, fs)) (hv : fs[0]? = some v) (d : decode cc pc = .ok (.getfield 141, 3)) (kk : J l R nb "NumberTower$Desk" cc nL ret D jCl tys A X Qx ad N kc ks (pc + 3) lv (v :: st) F) : J l R nb "NumberTower$Desk" cc nL ret D jCl tys A X Qx ad N kc ks pc lv (.ref (ad k) :: st) F :=
  J_get (C := "NumberTower$Natural") (T := F_N) (n := 2) in_N rfl 0 (by decide) wd_43 rfl hk hF hv d kk
theorem cw_D_145 : Cond.methodLink "NumberTower$Desk" 145 y_N_trim ∈ jALL ∧ Cond.instanceMethod y_N_trim ∈ jALL ∧ Cond.selects "NumberTower$Natural" y_N_trim y_N_trim ∈ jALL ∧ Cond.code y_N_trim b_N_trim 4 (Option.none : Option Jvm.ClassFile.FieldType) ∈ jALL ∧ Cond.initialized y_N_trim.cls ∈ jALL := ⟨wd_696, wd_312, wd_313, wd_314, wd_3⟩
theorem cw_D_148 : Cond.methodLink "NumberTower$Desk" 148 y_D_lessOne ∈ jALL ∧ Cond.static y_D_lessOne ∈ jALL ∧ Cond.code y_D_lessOne b_D_lessOne 3 (Option.none : Option Jvm.ClassFile.FieldType) ∈ jALL ∧ Cond.initialized y_D_lessOne.cls ∈ jALL := ⟨wd_692, wd_693, wd_694, wd_5⟩
theorem gf_D_152 (hk : k < N) (hF : F k = .inr (2, fs)) (hv : fs[1]? = some v) (d : decode cc pc = .ok (.getfield 152, 3)) (kk : J l R nb "NumberTower$Desk" cc nL ret D jCl tys A X Qx ad N kc ks (pc + 3) lv (v :: st) F) : J l R nb "NumberTower$Desk" cc nL ret D jCl tys A X Qx ad N kc ks pc lv (.ref (ad k) :: st) F :=
  J_get (C := "NumberTower$Natural") (T := F_N) (n := 2) in_N rfl 1 (by decide) wd_46 rfl hk hF hv d kk
theorem cw_D_155 : Cond.methodLink "NumberTower$Desk" 155 y_N_shiftUp ∈ jALL ∧ Cond.instanceMethod y_N_shiftUp ∈ jALL ∧ Cond.selects "NumberTower$Natural" y_N_shiftUp y_N_shiftUp ∈ jALL ∧ Cond.code y_N_shiftUp b_N_shiftUp 11 (Option.none : Option Jvm.ClassFile.FieldType) ∈ jALL ∧ Cond.initialized y_N_shiftUp.cls ∈ jALL := ⟨wd_646, wd_354, wd_355, wd_356, wd_3⟩
theorem cw_D_158 : Cond.methodLink "NumberTower$Desk" 158 y_N_shiftDown ∈ jALL ∧ Cond.instanceMethod y_N_shiftDown ∈ jALL ∧ Cond.selects "NumberTower$Natural" y_N_shiftDown y_N_shiftDown ∈ jALL ∧ Cond.code y_N_shiftDown b_N_shiftDown 10 (Option.none : Option Jvm.ClassFile.FieldType) ∈ jALL ∧ Cond.initialized y_N_shiftDown.cls ∈ jALL := ⟨wd_691, wd_427, wd_428, wd_429, wd_3⟩
theorem gf_D_49 (hk : k < N) (hF : F k = .inr (1, fs)) (hv : fs[10]? = some v) (d : decode cc pc = .ok (.getfield 49, 3)) (kk : J l R nb "NumberTower$Desk" cc nL ret D jCl tys A X Qx ad N kc ks (pc + 3) lv (v :: st) F) : J l R nb "NumberTower$Desk" cc nL ret D jCl tys A X Qx ad N kc ks pc lv (.ref (ad k) :: st) F :=
  J_get (C := "NumberTower$Desk") (T := F_D) (n := 11) in_D rfl 10 (by decide) wd_121 rfl hk hF hv d kk
theorem gf_D_46 (hk : k < N) (hF : F k = .inr (1, fs)) (hv : fs[9]? = some v) (d : decode cc pc = .ok (.getfield 46, 3)) (kk : J l R nb "NumberTower$Desk" cc nL ret D jCl tys A X Qx ad N kc ks (pc + 3) lv (v :: st) F) : J l R nb "NumberTower$Desk" cc nL ret D jCl tys A X Qx ad N kc ks pc lv (.ref (ad k) :: st) F :=
  J_get (C := "NumberTower$Desk") (T := F_D) (n := 11) in_D rfl 9 (by decide) wd_120 rfl hk hF hv d kk
theorem cw_D_161 : Cond.methodLink "NumberTower$Desk" 161 y_D_invertBase ∈ jALL ∧ Cond.instanceMethod y_D_invertBase ∈ jALL ∧ Cond.selects "NumberTower$Desk" y_D_invertBase y_D_invertBase ∈ jALL ∧ Cond.code y_D_invertBase b_D_invertBase 8 (Option.some Jvm.ClassFile.FieldType.boolean) ∈ jALL ∧ Cond.initialized y_D_invertBase.cls ∈ jALL := ⟨wd_431, wd_433, ws_3, wd_434, wd_5⟩
theorem cw_D_164 : Cond.methodLink "NumberTower$Desk" 164 y_JMath_abs ∈ jALL ∧ Cond.static y_JMath_abs ∈ jALL ∧ Cond.code y_JMath_abs b_JMath_abs 1 (Option.some Jvm.ClassFile.FieldType.int) ∈ jALL ∧ Cond.initialized y_JMath_abs.cls ∈ jALL := ⟨wd_744, wd_745, wd_746, wd_18⟩
theorem cw_D_168 : Cond.methodLink "NumberTower$Desk" 168 y_D_multiplyModulo ∈ jALL ∧ Cond.instanceMethod y_D_multiplyModulo ∈ jALL ∧ Cond.selects "NumberTower$Desk" y_D_multiplyModulo y_D_multiplyModulo ∈ jALL ∧ Cond.code y_D_multiplyModulo b_D_multiplyModulo 2 (Option.none : Option Jvm.ClassFile.FieldType) ∈ jALL ∧ Cond.initialized y_D_multiplyModulo.cls ∈ jALL := ⟨wd_747, wd_749, ws_16, wd_750, wd_5⟩
theorem gf_D_37 (hk : k < N) (hF : F k = .inr (1, fs)) (hv : fs[6]? = some v) (d : decode cc pc = .ok (.getfield 37, 3)) (kk : J l R nb "NumberTower$Desk" cc nL ret D jCl tys A X Qx ad N kc ks (pc + 3) lv (v :: st) F) : J l R nb "NumberTower$Desk" cc nL ret D jCl tys A X Qx ad N kc ks pc lv (.ref (ad k) :: st) F :=
  J_get (C := "NumberTower$Desk") (T := F_D) (n := 11) in_D rfl 6 (by decide) wd_117 rfl hk hF hv d kk
theorem gf_D_40 (hk : k < N) (hF : F k = .inr (1, fs)) (hv : fs[7]? = some v) (d : decode cc pc = .ok (.getfield 40, 3)) (kk : J l R nb "NumberTower$Desk" cc nL ret D jCl tys A X Qx ad N kc ks (pc + 3) lv (v :: st) F) : J l R nb "NumberTower$Desk" cc nL ret D jCl tys A X Qx ad N kc ks pc lv (.ref (ad k) :: st) F :=
  J_get (C := "NumberTower$Desk") (T := F_D) (n := 11) in_D rfl 7 (by decide) wd_118 rfl hk hF hv d kk
theorem cw_D_171 : Cond.methodLink "NumberTower$Desk" 171 y_N_clear ∈ jALL ∧ Cond.instanceMethod y_N_clear ∈ jALL ∧ Cond.selects "NumberTower$Natural" y_N_clear y_N_clear ∈ jALL ∧ Cond.code y_N_clear b_N_clear 1 (Option.none : Option Jvm.ClassFile.FieldType) ∈ jALL ∧ Cond.initialized y_N_clear.cls ∈ jALL := ⟨wd_435, wd_304, wd_305, wd_306, wd_3⟩
theorem gf_D_43 (hk : k < N) (hF : F k = .inr (1, fs)) (hv : fs[8]? = some v) (d : decode cc pc = .ok (.getfield 43, 3)) (kk : J l R nb "NumberTower$Desk" cc nL ret D jCl tys A X Qx ad N kc ks (pc + 3) lv (v :: st) F) : J l R nb "NumberTower$Desk" cc nL ret D jCl tys A X Qx ad N kc ks pc lv (.ref (ad k) :: st) F :=
  J_get (C := "NumberTower$Desk") (T := F_D) (n := 11) in_D rfl 8 (by decide) wd_119 rfl hk hF hv d kk
theorem cw_D_174 : Cond.methodLink "NumberTower$Desk" 174 y_N_isOne ∈ jALL ∧ Cond.instanceMethod y_N_isOne ∈ jALL ∧ Cond.selects "NumberTower$Natural" y_N_isOne y_N_isOne ∈ jALL ∧ Cond.code y_N_isOne b_N_isOne 1 (Option.some Jvm.ClassFile.FieldType.boolean) ∈ jALL ∧ Cond.initialized y_N_isOne.cls ∈ jALL := ⟨wd_444, wd_445, wd_446, wd_447, wd_3⟩
theorem cw_D_177 : Cond.methodLink "NumberTower$Desk" 177 y_D_makeNearest ∈ jALL ∧ Cond.instanceMethod y_D_makeNearest ∈ jALL ∧ Cond.selects "NumberTower$Desk" y_D_makeNearest y_D_makeNearest ∈ jALL ∧ Cond.code y_D_makeNearest b_D_makeNearest 14 (Option.none : Option Jvm.ClassFile.FieldType) ∈ jALL ∧ Cond.initialized y_D_makeNearest.cls ∈ jALL := ⟨wd_640, wd_642, ws_9, wd_643, wd_5⟩
theorem cw_D_180 : Cond.methodLink "NumberTower$Desk" 180 y_JMath_min ∈ jALL ∧ Cond.static y_JMath_min ∈ jALL ∧ Cond.code y_JMath_min b_JMath_min 2 (Option.some Jvm.ClassFile.FieldType.int) ∈ jALL ∧ Cond.initialized y_JMath_min.cls ∈ jALL := ⟨wd_776, wd_362, wd_363, wd_18⟩
theorem cw_D_183 : Cond.methodLink "NumberTower$Desk" 183 y_N_scaleTens ∈ jALL ∧ Cond.instanceMethod y_N_scaleTens ∈ jALL ∧ Cond.selects "NumberTower$Natural" y_N_scaleTens y_N_scaleTens ∈ jALL ∧ Cond.code y_N_scaleTens b_N_scaleTens 4 (Option.none : Option Jvm.ClassFile.FieldType) ∈ jALL ∧ Cond.initialized y_N_scaleTens.cls ∈ jALL := ⟨wd_630, wd_631, wd_632, wd_633, wd_3⟩
theorem cw_D_186 : Cond.methodLink "NumberTower$Desk" 186 y_N_roundBy ∈ jALL ∧ Cond.instanceMethod y_N_roundBy ∈ jALL ∧ Cond.selects "NumberTower$Natural" y_N_roundBy y_N_roundBy ∈ jALL ∧ Cond.code y_N_roundBy b_N_roundBy 4 (Option.none : Option Jvm.ClassFile.FieldType) ∈ jALL ∧ Cond.initialized y_N_roundBy.cls ∈ jALL := ⟨wd_777, wd_778, wd_779, wd_780, wd_3⟩
theorem cw_D_189 : Cond.methodLink "NumberTower$Desk" 189 y_N_bits ∈ jALL ∧ Cond.instanceMethod y_N_bits ∈ jALL ∧ Cond.selects "NumberTower$Natural" y_N_bits y_N_bits ∈ jALL ∧ Cond.code y_N_bits b_N_bits 1 (Option.some Jvm.ClassFile.FieldType.int) ∈ jALL ∧ Cond.initialized y_N_bits.cls ∈ jALL := ⟨wd_645, wd_410, wd_411, wd_412, wd_3⟩
theorem cw_D_197 : Cond.methodLink "NumberTower$Desk" 197 y_N_toLong ∈ jALL ∧ Cond.instanceMethod y_N_toLong ∈ jALL ∧ Cond.selects "NumberTower$Natural" y_N_toLong y_N_toLong ∈ jALL ∧ Cond.code y_N_toLong b_N_toLong 1 (Option.some Jvm.ClassFile.FieldType.long) ∈ jALL ∧ Cond.initialized y_N_toLong.cls ∈ jALL := ⟨wd_452, wd_453, wd_454, wd_455, wd_3⟩
theorem cw_D_209 : Cond.methodLink "NumberTower$Desk" 209 y_JISE_init ∈ jALL ∧ Cond.instanceMethod y_JISE_init ∈ jALL ∧ Cond.code y_JISE_init b_JISE_init 2 (Option.none : Option Jvm.ClassFile.FieldType) ∈ jALL ∧ Cond.initialized y_JISE_init.cls ∈ jALL := ⟨wd_624, wd_625, wd_626, wd_17⟩
theorem cw_D_212 : Cond.methodLink "NumberTower$Desk" 212 y_D_reduceOut ∈ jALL ∧ Cond.instanceMethod y_D_reduceOut ∈ jALL ∧ Cond.selects "NumberTower$Desk" y_D_reduceOut y_D_reduceOut ∈ jALL ∧ Cond.code y_D_reduceOut b_D_reduceOut 5 (Option.none : Option Jvm.ClassFile.FieldType) ∈ jALL ∧ Cond.initialized y_D_reduceOut.cls ∈ jALL := ⟨wd_649, wd_651, ws_10, wd_652, wd_5⟩
theorem cw_D_215 : Cond.methodLink "NumberTower$Desk" 215 y_U_setBinary ∈ jALL ∧ Cond.instanceMethod y_U_setBinary ∈ jALL ∧ Cond.selects "NumberTower$Num" y_U_setBinary y_U_setBinary ∈ jALL ∧ Cond.code y_U_setBinary b_U_setBinary 6 (Option.none : Option Jvm.ClassFile.FieldType) ∈ jALL ∧ Cond.initialized y_U_setBinary.cls ∈ jALL := ⟨wd_644, wd_343, wd_344, wd_345, wd_2⟩
theorem cw_D_219 : Cond.methodLink "NumberTower$Desk" 219 y_N_bitsOf ∈ jALL ∧ Cond.static y_N_bitsOf ∈ jALL ∧ Cond.code y_N_bitsOf b_N_bitsOf 4 (Option.some Jvm.ClassFile.FieldType.int) ∈ jALL ∧ Cond.initialized y_N_bitsOf.cls ∈ jALL := ⟨wd_647, wd_414, wd_415, wd_3⟩
theorem pf_N_9 {x : Nat} (hk : k < N) (hF : F k = .inr (2, fs)) (hl0 : 0 < fs.length) (hown : "NumberTower$Natural" = (F_N 0).1) (hini : ∀ s me, X s me → me.name = "<init>") (d : decode cc pc = .ok (.putfield 9, 3)) (kk : J l R nb "NumberTower$Natural" cc nL ret D jCl tys A X Qx ad N kc ks (pc + 3) lv st (va_up F k (.inr (2, fs.set 0 (.ref x))))) : J l R nb "NumberTower$Natural" cc nL ret D jCl tys A X Qx ad N kc ks pc lv ((.ref x) :: .ref (ad k) :: st) F :=
  J_putF (C := "NumberTower$Natural") (T := F_N) (n := 2) in_N tt_N tt_N_ok n_N rfl 0 (by decide) wd_41 rfl rfl hown hini (ty := .array .int) (tt_N_ok 0 (by decide)) hk hF hl0 rfl rfl d kk
theorem gf_N_9 (hk : k < N) (hF : F k = .inr (2, fs)) (hv : fs[0]? = some v) (d : decode cc pc = .ok (.getfield 9, 3)) (kk : J l R nb "NumberTower$Natural" cc nL ret D jCl tys A X Qx ad N kc ks (pc + 3) lv (v :: st) F) : J l R nb "NumberTower$Natural" cc nL ret D jCl tys A X Qx ad N kc ks pc lv (.ref (ad k) :: st) F :=
  J_get (C := "NumberTower$Natural") (T := F_N) (n := 2) in_N rfl 0 (by decide) wd_41 rfl hk hF hv d kk
theorem cw_N_13 : Cond.methodLink "NumberTower$Natural" 13 y_JArrays_fill ∈ jALL ∧ Cond.static y_JArrays_fill ∈ jALL ∧ Cond.code y_JArrays_fill b_JArrays_fill 4 (Option.none : Option Jvm.ClassFile.FieldType) ∈ jALL ∧ Cond.initialized y_JArrays_fill.cls ∈ jALL := ⟨wd_307, wd_308, wd_309, wd_11⟩
theorem pf_N_19 {x : Int32} (hk : k < N) (hF : F k = .inr (2, fs)) (hl0 : 1 < fs.length) (d : decode cc pc = .ok (.putfield 19, 3)) (kk : J l R nb "NumberTower$Natural" cc nL ret D jCl tys A X Qx ad N kc ks (pc + 3) lv st (va_up F k (.inr (2, fs.set 1 (.int x))))) : J l R nb "NumberTower$Natural" cc nL ret D jCl tys A X Qx ad N kc ks pc lv ((.int x) :: .ref (ad k) :: st) F :=
  J_put (C := "NumberTower$Natural") (T := F_N) (n := 2) in_N tt_N tt_N_ok n_N rfl 1 (by decide) wd_44 rfl rfl (ty := .int) (tt_N_ok 1 (by decide)) hk hF hl0 rfl rfl d kk
theorem cw_N_23 : Cond.methodLink "NumberTower$Natural" 23 y_N_clear ∈ jALL ∧ Cond.instanceMethod y_N_clear ∈ jALL ∧ Cond.selects "NumberTower$Natural" y_N_clear y_N_clear ∈ jALL ∧ Cond.code y_N_clear b_N_clear 1 (Option.none : Option Jvm.ClassFile.FieldType) ∈ jALL ∧ Cond.initialized y_N_clear.cls ∈ jALL := ⟨wd_303, wd_304, wd_305, wd_306, wd_3⟩
theorem cw_N_28 : Cond.methodLink "NumberTower$Natural" 28 y_N_trim ∈ jALL ∧ Cond.instanceMethod y_N_trim ∈ jALL ∧ Cond.selects "NumberTower$Natural" y_N_trim y_N_trim ∈ jALL ∧ Cond.code y_N_trim b_N_trim 4 (Option.none : Option Jvm.ClassFile.FieldType) ∈ jALL ∧ Cond.initialized y_N_trim.cls ∈ jALL := ⟨wd_311, wd_312, wd_313, wd_314, wd_3⟩
theorem gf_N_19 (hk : k < N) (hF : F k = .inr (2, fs)) (hv : fs[1]? = some v) (d : decode cc pc = .ok (.getfield 19, 3)) (kk : J l R nb "NumberTower$Natural" cc nL ret D jCl tys A X Qx ad N kc ks (pc + 3) lv (v :: st) F) : J l R nb "NumberTower$Natural" cc nL ret D jCl tys A X Qx ad N kc ks pc lv (.ref (ad k) :: st) F :=
  J_get (C := "NumberTower$Natural") (T := F_N) (n := 2) in_N rfl 1 (by decide) wd_44 rfl hk hF hv d kk
theorem cw_N_38 : Cond.methodLink "NumberTower$Natural" 38 y_N_sixtyBits ∈ jALL ∧ Cond.instanceMethod y_N_sixtyBits ∈ jALL ∧ Cond.selects "NumberTower$Natural" y_N_sixtyBits y_N_sixtyBits ∈ jALL ∧ Cond.code y_N_sixtyBits b_N_sixtyBits 3 (Option.some Jvm.ClassFile.FieldType.long) ∈ jALL ∧ Cond.initialized y_N_sixtyBits.cls ∈ jALL := ⟨wd_404, wd_405, wd_406, wd_407, wd_3⟩
theorem cw_N_44 : Cond.methodLink "NumberTower$Natural" 44 y_N_bitsOf ∈ jALL ∧ Cond.static y_N_bitsOf ∈ jALL ∧ Cond.code y_N_bitsOf b_N_bitsOf 4 (Option.some Jvm.ClassFile.FieldType.int) ∈ jALL ∧ Cond.initialized y_N_bitsOf.cls ∈ jALL := ⟨wd_413, wd_414, wd_415, wd_3⟩
theorem cw_N_48 : Cond.methodLink "NumberTower$Natural" 48 y_JLong_bitCount ∈ jALL ∧ Cond.static y_JLong_bitCount ∈ jALL ∧ Cond.code y_JLong_bitCount b_JLong_bitCount 2 (Option.some Jvm.ClassFile.FieldType.int) ∈ jALL ∧ Cond.initialized y_JLong_bitCount.cls ∈ jALL := ⟨wd_416, wd_348, wd_349, wd_10⟩
theorem cw_N_53 : Cond.methodLink "NumberTower$Natural" 53 y_JMath_min ∈ jALL ∧ Cond.static y_JMath_min ∈ jALL ∧ Cond.code y_JMath_min b_JMath_min 2 (Option.some Jvm.ClassFile.FieldType.int) ∈ jALL ∧ Cond.initialized y_JMath_min.cls ∈ jALL := ⟨wd_361, wd_362, wd_363, wd_18⟩
theorem cw_N_59 : Cond.methodLink "NumberTower$Natural" 59 y_JMath_max ∈ jALL ∧ Cond.static y_JMath_max ∈ jALL ∧ Cond.code y_JMath_max b_JMath_max 2 (Option.some Jvm.ClassFile.FieldType.int) ∈ jALL ∧ Cond.initialized y_JMath_max.cls ∈ jALL := ⟨wd_441, wd_442, wd_443, wd_18⟩
theorem cw_N_64 : Cond.methodLink "NumberTower$Natural" 64 y_N_scale ∈ jALL ∧ Cond.instanceMethod y_N_scale ∈ jALL ∧ Cond.selects "NumberTower$Natural" y_N_scale y_N_scale ∈ jALL ∧ Cond.code y_N_scale b_N_scale 9 (Option.none : Option Jvm.ClassFile.FieldType) ∈ jALL ∧ Cond.initialized y_N_scale.cls ∈ jALL := ⟨wd_635, wd_513, wd_514, wd_515, wd_3⟩
theorem cw_N_68 : Cond.methodLink "NumberTower$Natural" 68 y_N_isZero ∈ jALL ∧ Cond.instanceMethod y_N_isZero ∈ jALL ∧ Cond.selects "NumberTower$Natural" y_N_isZero y_N_isZero ∈ jALL ∧ Cond.code y_N_isZero b_N_isZero 1 (Option.some Jvm.ClassFile.FieldType.boolean) ∈ jALL ∧ Cond.initialized y_N_isZero.cls ∈ jALL := ⟨wd_357, wd_358, wd_359, wd_360, wd_3⟩
theorem cw_N_72 : Cond.methodLink "NumberTower$Natural" 72 y_N_order ∈ jALL ∧ Cond.instanceMethod y_N_order ∈ jALL ∧ Cond.selects "NumberTower$Natural" y_N_order y_N_order ∈ jALL ∧ Cond.code y_N_order b_N_order 3 (Option.some Jvm.ClassFile.FieldType.int) ∈ jALL ∧ Cond.initialized y_N_order.cls ∈ jALL := ⟨wd_403, wd_385, wd_386, wd_387, wd_3⟩
theorem cw_N_76 : Cond.methodLink "NumberTower$Natural" 76 y_N_set ∈ jALL ∧ Cond.instanceMethod y_N_set ∈ jALL ∧ Cond.selects "NumberTower$Natural" y_N_set y_N_set ∈ jALL ∧ Cond.code y_N_set b_N_set 3 (Option.none : Option Jvm.ClassFile.FieldType) ∈ jALL ∧ Cond.initialized y_N_set.cls ∈ jALL := ⟨wd_408, wd_300, wd_301, wd_302, wd_3⟩
theorem cw_N_80 : Cond.methodLink "NumberTower$Natural" 80 y_N_bits ∈ jALL ∧ Cond.instanceMethod y_N_bits ∈ jALL ∧ Cond.selects "NumberTower$Natural" y_N_bits y_N_bits ∈ jALL ∧ Cond.code y_N_bits b_N_bits 1 (Option.some Jvm.ClassFile.FieldType.int) ∈ jALL ∧ Cond.initialized y_N_bits.cls ∈ jALL := ⟨wd_409, wd_410, wd_411, wd_412, wd_3⟩
theorem cw_N_84 : Cond.methodLink "NumberTower$Natural" 84 y_N_shiftUp ∈ jALL ∧ Cond.instanceMethod y_N_shiftUp ∈ jALL ∧ Cond.selects "NumberTower$Natural" y_N_shiftUp y_N_shiftUp ∈ jALL ∧ Cond.code y_N_shiftUp b_N_shiftUp 11 (Option.none : Option Jvm.ClassFile.FieldType) ∈ jALL ∧ Cond.initialized y_N_shiftUp.cls ∈ jALL := ⟨wd_417, wd_354, wd_355, wd_356, wd_3⟩
theorem cw_N_87 : Cond.methodLink "NumberTower$Natural" 87 y_N_takeAway ∈ jALL ∧ Cond.instanceMethod y_N_takeAway ∈ jALL ∧ Cond.selects "NumberTower$Natural" y_N_takeAway y_N_takeAway ∈ jALL ∧ Cond.code y_N_takeAway b_N_takeAway 15 (Option.some Jvm.ClassFile.FieldType.int) ∈ jALL ∧ Cond.initialized y_N_takeAway.cls ∈ jALL := ⟨wd_418, wd_420, ws_2, wd_421, wd_3⟩
theorem cw_N_91 : Cond.methodLink "NumberTower$Natural" 91 y_N_shiftDown ∈ jALL ∧ Cond.instanceMethod y_N_shiftDown ∈ jALL ∧ Cond.selects "NumberTower$Natural" y_N_shiftDown y_N_shiftDown ∈ jALL ∧ Cond.code y_N_shiftDown b_N_shiftDown 10 (Option.none : Option Jvm.ClassFile.FieldType) ∈ jALL ∧ Cond.initialized y_N_shiftDown.cls ∈ jALL := ⟨wd_426, wd_427, wd_428, wd_429, wd_3⟩
theorem cw_N_94 : Cond.methodLink "NumberTower$Natural" 94 y_JMath_min2 ∈ jALL ∧ Cond.static y_JMath_min2 ∈ jALL ∧ Cond.code y_JMath_min2 b_JMath_min2 4 (Option.some Jvm.ClassFile.FieldType.long) ∈ jALL ∧ Cond.initialized y_JMath_min2.cls ∈ jALL := ⟨wd_422, wd_423, wd_424, wd_18⟩
theorem cw_N_97 : Cond.methodLink "NumberTower$Natural" 97 y_N_isOdd ∈ jALL ∧ Cond.instanceMethod y_N_isOdd ∈ jALL ∧ Cond.selects "NumberTower$Natural" y_N_isOdd y_N_isOdd ∈ jALL ∧ Cond.code y_N_isOdd b_N_isOdd 1 (Option.some Jvm.ClassFile.FieldType.boolean) ∈ jALL ∧ Cond.initialized y_N_isOdd.cls ∈ jALL := ⟨wd_781, wd_782, wd_783, wd_784, wd_3⟩
theorem cw_N_100 : Cond.methodLink "NumberTower$Natural" 100 y_N_addSmall ∈ jALL ∧ Cond.instanceMethod y_N_addSmall ∈ jALL ∧ Cond.selects "NumberTower$Natural" y_N_addSmall y_N_addSmall ∈ jALL ∧ Cond.code y_N_addSmall b_N_addSmall 5 (Option.none : Option Jvm.ClassFile.FieldType) ∈ jALL ∧ Cond.initialized y_N_addSmall.cls ∈ jALL := ⟨wd_785, wd_698, wd_699, wd_700, wd_3⟩
theorem pf_U_9 {x : Int32} (hk : k < N) (hF : F k = .inr (3, fs)) (hl0 : 0 < fs.length) (d : decode cc pc = .ok (.putfield 9, 3)) (kk : J l R nb "NumberTower$Num" cc nL ret D jCl tys A X Qx ad N kc ks (pc + 3) lv st (va_up F k (.inr (3, fs.set 0 (.int x))))) : J l R nb "NumberTower$Num" cc nL ret D jCl tys A X Qx ad N kc ks pc lv ((.int x) :: .ref (ad k) :: st) F :=
  J_put (C := "NumberTower$Num") (T := F_U) (n := 4) in_U tt_U tt_U_ok n_U rfl 0 (by decide) wd_53 rfl rfl (ty := .int) (tt_U_ok 0 (by decide)) hk hF hl0 rfl rfl d kk
theorem cw_U_17 : Cond.methodLink "NumberTower$Num" 17 y_N_init ∈ jALL ∧ Cond.instanceMethod y_N_init ∈ jALL ∧ Cond.code y_N_init b_N_init 1 (Option.none : Option Jvm.ClassFile.FieldType) ∈ jALL ∧ Cond.initialized y_N_init.cls ∈ jALL := ⟨wd_37, wd_38, wd_39, wd_3⟩
theorem pf_U_18 {x : Nat} (hk : k < N) (hF : F k = .inr (3, fs)) (hl0 : 2 < fs.length) (hown : "NumberTower$Num" = (F_U 2).1) (hini : ∀ s me, X s me → me.name = "<init>") (d : decode cc pc = .ok (.putfield 18, 3)) (kk : J l R nb "NumberTower$Num" cc nL ret D jCl tys A X Qx ad N kc ks (pc + 3) lv st (va_up F k (.inr (3, fs.set 2 (.ref x))))) : J l R nb "NumberTower$Num" cc nL ret D jCl tys A X Qx ad N kc ks pc lv ((.ref x) :: .ref (ad k) :: st) F :=
  J_putF (C := "NumberTower$Num") (T := F_U) (n := 4) in_U tt_U tt_U_ok n_U rfl 2 (by decide) wd_63 rfl rfl hown hini (ty := .object "NumberTower$Natural") (tt_U_ok 2 (by decide)) hk hF hl0 rfl rfl d kk
theorem pf_U_22 {x : Nat} (hk : k < N) (hF : F k = .inr (3, fs)) (hl0 : 3 < fs.length) (hown : "NumberTower$Num" = (F_U 3).1) (hini : ∀ s me, X s me → me.name = "<init>") (d : decode cc pc = .ok (.putfield 22, 3)) (kk : J l R nb "NumberTower$Num" cc nL ret D jCl tys A X Qx ad N kc ks (pc + 3) lv st (va_up F k (.inr (3, fs.set 3 (.ref x))))) : J l R nb "NumberTower$Num" cc nL ret D jCl tys A X Qx ad N kc ks pc lv ((.ref x) :: .ref (ad k) :: st) F :=
  J_putF (C := "NumberTower$Num") (T := F_U) (n := 4) in_U tt_U tt_U_ok n_U rfl 3 (by decide) wd_68 rfl rfl hown hini (ty := .object "NumberTower$Natural") (tt_U_ok 3 (by decide)) hk hF hl0 rfl rfl d kk
theorem gf_U_9 (hk : k < N) (hF : F k = .inr (3, fs)) (hv : fs[0]? = some v) (d : decode cc pc = .ok (.getfield 9, 3)) (kk : J l R nb "NumberTower$Num" cc nL ret D jCl tys A X Qx ad N kc ks (pc + 3) lv (v :: st) F) : J l R nb "NumberTower$Num" cc nL ret D jCl tys A X Qx ad N kc ks pc lv (.ref (ad k) :: st) F :=
  J_get (C := "NumberTower$Num") (T := F_U) (n := 4) in_U rfl 0 (by decide) wd_53 rfl hk hF hv d kk
theorem gf_U_25 (hk : k < N) (hF : F k = .inr (3, fs)) (hv : fs[1]? = some v) (d : decode cc pc = .ok (.getfield 25, 3)) (kk : J l R nb "NumberTower$Num" cc nL ret D jCl tys A X Qx ad N kc ks (pc + 3) lv (v :: st) F) : J l R nb "NumberTower$Num" cc nL ret D jCl tys A X Qx ad N kc ks pc lv (.ref (ad k) :: st) F :=
  J_get (C := "NumberTower$Num") (T := F_U) (n := 4) in_U rfl 1 (by decide) wd_61 rfl hk hF hv d kk
theorem pf_U_25 {x : Int32} (hk : k < N) (hF : F k = .inr (3, fs)) (hl0 : 1 < fs.length) (d : decode cc pc = .ok (.putfield 25, 3)) (kk : J l R nb "NumberTower$Num" cc nL ret D jCl tys A X Qx ad N kc ks (pc + 3) lv st (va_up F k (.inr (3, fs.set 1 (.int x))))) : J l R nb "NumberTower$Num" cc nL ret D jCl tys A X Qx ad N kc ks pc lv ((.int x) :: .ref (ad k) :: st) F :=
  J_put (C := "NumberTower$Num") (T := F_U) (n := 4) in_U tt_U tt_U_ok n_U rfl 1 (by decide) wd_61 rfl rfl (ty := .int) (tt_U_ok 1 (by decide)) hk hF hl0 rfl rfl d kk
theorem gf_U_18 (hk : k < N) (hF : F k = .inr (3, fs)) (hv : fs[2]? = some v) (d : decode cc pc = .ok (.getfield 18, 3)) (kk : J l R nb "NumberTower$Num" cc nL ret D jCl tys A X Qx ad N kc ks (pc + 3) lv (v :: st) F) : J l R nb "NumberTower$Num" cc nL ret D jCl tys A X Qx ad N kc ks pc lv (.ref (ad k) :: st) F :=
  J_get (C := "NumberTower$Num") (T := F_U) (n := 4) in_U rfl 2 (by decide) wd_63 rfl hk hF hv d kk
theorem cw_U_28 : Cond.methodLink "NumberTower$Num" 28 y_N_copyFrom ∈ jALL ∧ Cond.instanceMethod y_N_copyFrom ∈ jALL ∧ Cond.selects "NumberTower$Natural" y_N_copyFrom y_N_copyFrom ∈ jALL ∧ Cond.code y_N_copyFrom b_N_copyFrom 2 (Option.none : Option Jvm.ClassFile.FieldType) ∈ jALL ∧ Cond.initialized y_N_copyFrom.cls ∈ jALL := ⟨wd_323, wd_324, wd_325, wd_326, wd_3⟩
theorem gf_U_22 (hk : k < N) (hF : F k = .inr (3, fs)) (hv : fs[3]? = some v) (d : decode cc pc = .ok (.getfield 22, 3)) (kk : J l R nb "NumberTower$Num" cc nL ret D jCl tys A X Qx ad N kc ks (pc + 3) lv (v :: st) F) : J l R nb "NumberTower$Num" cc nL ret D jCl tys A X Qx ad N kc ks pc lv (.ref (ad k) :: st) F :=
  J_get (C := "NumberTower$Num") (T := F_U) (n := 4) in_U rfl 3 (by decide) wd_68 rfl hk hF hv d kk
theorem cw_U_32 : Cond.methodLink "NumberTower$Num" 32 y_JLong_compare ∈ jALL ∧ Cond.static y_JLong_compare ∈ jALL ∧ Cond.code y_JLong_compare b_JLong_compare 4 (Option.some Jvm.ClassFile.FieldType.int) ∈ jALL ∧ Cond.initialized y_JLong_compare.cls ∈ jALL := ⟨wd_296, wd_297, wd_298, wd_10⟩
theorem cw_U_38 : Cond.methodLink "NumberTower$Num" 38 y_N_set ∈ jALL ∧ Cond.instanceMethod y_N_set ∈ jALL ∧ Cond.selects "NumberTower$Natural" y_N_set y_N_set ∈ jALL ∧ Cond.code y_N_set b_N_set 3 (Option.none : Option Jvm.ClassFile.FieldType) ∈ jALL ∧ Cond.initialized y_N_set.cls ∈ jALL := ⟨wd_299, wd_300, wd_301, wd_302, wd_3⟩
theorem cw_U_48 : Cond.methodLink "NumberTower$Num" 48 y_U_setBinary ∈ jALL ∧ Cond.instanceMethod y_U_setBinary ∈ jALL ∧ Cond.selects "NumberTower$Num" y_U_setBinary y_U_setBinary ∈ jALL ∧ Cond.code y_U_setBinary b_U_setBinary 6 (Option.none : Option Jvm.ClassFile.FieldType) ∈ jALL ∧ Cond.initialized y_U_setBinary.cls ∈ jALL := ⟨wd_342, wd_343, wd_344, wd_345, wd_2⟩
theorem cw_U_52 : Cond.methodLink "NumberTower$Num" 52 y_N_clear ∈ jALL ∧ Cond.instanceMethod y_N_clear ∈ jALL ∧ Cond.selects "NumberTower$Natural" y_N_clear y_N_clear ∈ jALL ∧ Cond.code y_N_clear b_N_clear 1 (Option.none : Option Jvm.ClassFile.FieldType) ∈ jALL ∧ Cond.initialized y_N_clear.cls ∈ jALL := ⟨wd_346, wd_304, wd_305, wd_306, wd_3⟩
theorem cw_U_55 : Cond.methodLink "NumberTower$Num" 55 y_JLong_bitCount ∈ jALL ∧ Cond.static y_JLong_bitCount ∈ jALL ∧ Cond.code y_JLong_bitCount b_JLong_bitCount 2 (Option.some Jvm.ClassFile.FieldType.int) ∈ jALL ∧ Cond.initialized y_JLong_bitCount.cls ∈ jALL := ⟨wd_347, wd_348, wd_349, wd_10⟩
theorem cw_U_59 : Cond.methodLink "NumberTower$Num" 59 y_N_shiftUp ∈ jALL ∧ Cond.instanceMethod y_N_shiftUp ∈ jALL ∧ Cond.selects "NumberTower$Natural" y_N_shiftUp y_N_shiftUp ∈ jALL ∧ Cond.code y_N_shiftUp b_N_shiftUp 11 (Option.none : Option Jvm.ClassFile.FieldType) ∈ jALL ∧ Cond.initialized y_N_shiftUp.cls ∈ jALL := ⟨wd_353, wd_354, wd_355, wd_356, wd_3⟩
theorem gf_U_63 (hk : k < N) (hF : F k = .inr (2, fs)) (hv : fs[1]? = some v) (d : decode cc pc = .ok (.getfield 63, 3)) (kk : J l R nb "NumberTower$Num" cc nL ret D jCl tys A X Qx ad N kc ks (pc + 3) lv (v :: st) F) : J l R nb "NumberTower$Num" cc nL ret D jCl tys A X Qx ad N kc ks pc lv (.ref (ad k) :: st) F :=
  J_get (C := "NumberTower$Natural") (T := F_N) (n := 2) in_N rfl 1 (by decide) wd_45 rfl hk hF hv d kk
theorem cw_U_66 : Cond.methodLink "NumberTower$Num" 66 y_U_small ∈ jALL ∧ Cond.instanceMethod y_U_small ∈ jALL ∧ Cond.selects "NumberTower$Num" y_U_small y_U_small ∈ jALL ∧ Cond.code y_U_small b_U_small 1 (Option.some Jvm.ClassFile.FieldType.int) ∈ jALL ∧ Cond.initialized y_U_small.cls ∈ jALL := ⟨wd_670, wd_671, wd_672, wd_673, wd_2⟩
theorem gf_U_70 (hk : k < N) (hF : F k = .inr (2, fs)) (hv : fs[0]? = some v) (d : decode cc pc = .ok (.getfield 70, 3)) (kk : J l R nb "NumberTower$Num" cc nL ret D jCl tys A X Qx ad N kc ks (pc + 3) lv (v :: st) F) : J l R nb "NumberTower$Num" cc nL ret D jCl tys A X Qx ad N kc ks pc lv (.ref (ad k) :: st) F :=
  J_get (C := "NumberTower$Natural") (T := F_N) (n := 2) in_N rfl 0 (by decide) wd_42 rfl hk hF hv d kk
theorem cw_U_74 : Cond.methodLink "NumberTower$Num" 74 y_N_toDouble ∈ jALL ∧ Cond.instanceMethod y_N_toDouble ∈ jALL ∧ Cond.selects "NumberTower$Natural" y_N_toDouble y_N_toDouble ∈ jALL ∧ Cond.code y_N_toDouble b_N_toDouble 4 (Option.some Jvm.ClassFile.FieldType.double) ∈ jALL ∧ Cond.initialized y_N_toDouble.cls ∈ jALL := ⟨wd_478, wd_479, wd_480, wd_481, wd_3⟩
theorem cw_P_11 : Cond.methodLink "NumberTower$Pen" 11 y_T_init ∈ jALL ∧ Cond.instanceMethod y_T_init ∈ jALL ∧ Cond.code y_T_init b_T_init 1 (Option.none : Option Jvm.ClassFile.FieldType) ∈ jALL ∧ Cond.initialized y_T_init.cls ∈ jALL := ⟨wd_218, wd_85, wd_86, wd_4⟩
theorem pf_P_12 {x : Nat} (hk : k < N) (hF : F k = .inr (4, fs)) (hl0 : 0 < fs.length) (hown : "NumberTower$Pen" = (F_P 0).1) (hini : ∀ s me, X s me → me.name = "<init>") (d : decode cc pc = .ok (.putfield 12, 3)) (kk : J l R nb "NumberTower$Pen" cc nL ret D jCl tys A X Qx ad N kc ks (pc + 3) lv st (va_up F k (.inr (4, fs.set 0 (.ref x))))) : J l R nb "NumberTower$Pen" cc nL ret D jCl tys A X Qx ad N kc ks pc lv ((.ref x) :: .ref (ad k) :: st) F :=
  J_putF (C := "NumberTower$Pen") (T := F_P) (n := 8) in_P tt_P tt_P_ok n_P rfl 0 (by decide) wd_221 rfl rfl hown hini (ty := .object "NumberTower$Text") (tt_P_ok 0 (by decide)) hk hF hl0 rfl rfl d kk
theorem pf_P_18 {x : Nat} (hk : k < N) (hF : F k = .inr (4, fs)) (hl0 : 1 < fs.length) (hown : "NumberTower$Pen" = (F_P 1).1) (hini : ∀ s me, X s me → me.name = "<init>") (d : decode cc pc = .ok (.putfield 18, 3)) (kk : J l R nb "NumberTower$Pen" cc nL ret D jCl tys A X Qx ad N kc ks (pc + 3) lv st (va_up F k (.inr (4, fs.set 1 (.ref x))))) : J l R nb "NumberTower$Pen" cc nL ret D jCl tys A X Qx ad N kc ks pc lv ((.ref x) :: .ref (ad k) :: st) F :=
  J_putF (C := "NumberTower$Pen") (T := F_P) (n := 8) in_P tt_P tt_P_ok n_P rfl 1 (by decide) wd_223 rfl rfl hown hini (ty := .object "NumberTower$Text") (tt_P_ok 1 (by decide)) hk hF hl0 rfl rfl d kk
theorem pf_P_21 {x : Nat} (hk : k < N) (hF : F k = .inr (4, fs)) (hl0 : 2 < fs.length) (hown : "NumberTower$Pen" = (F_P 2).1) (hini : ∀ s me, X s me → me.name = "<init>") (d : decode cc pc = .ok (.putfield 21, 3)) (kk : J l R nb "NumberTower$Pen" cc nL ret D jCl tys A X Qx ad N kc ks (pc + 3) lv st (va_up F k (.inr (4, fs.set 2 (.ref x))))) : J l R nb "NumberTower$Pen" cc nL ret D jCl tys A X Qx ad N kc ks pc lv ((.ref x) :: .ref (ad k) :: st) F :=
  J_putF (C := "NumberTower$Pen") (T := F_P) (n := 8) in_P tt_P tt_P_ok n_P rfl 2 (by decide) wd_224 rfl rfl hown hini (ty := .object "NumberTower$Text") (tt_P_ok 2 (by decide)) hk hF hl0 rfl rfl d kk
theorem pf_P_24 {x : Nat} (hk : k < N) (hF : F k = .inr (4, fs)) (hl0 : 3 < fs.length) (hown : "NumberTower$Pen" = (F_P 3).1) (hini : ∀ s me, X s me → me.name = "<init>") (d : decode cc pc = .ok (.putfield 24, 3)) (kk : J l R nb "NumberTower$Pen" cc nL ret D jCl tys A X Qx ad N kc ks (pc + 3) lv st (va_up F k (.inr (4, fs.set 3 (.ref x))))) : J l R nb "NumberTower$Pen" cc nL ret D jCl tys A X Qx ad N kc ks pc lv ((.ref x) :: .ref (ad k) :: st) F :=
  J_putF (C := "NumberTower$Pen") (T := F_P) (n := 8) in_P tt_P tt_P_ok n_P rfl 3 (by decide) wd_225 rfl rfl hown hini (ty := .object "NumberTower$Text") (tt_P_ok 3 (by decide)) hk hF hl0 rfl rfl d kk
theorem cw_P_29 : Cond.methodLink "NumberTower$Pen" 29 y_N_init ∈ jALL ∧ Cond.instanceMethod y_N_init ∈ jALL ∧ Cond.code y_N_init b_N_init 1 (Option.none : Option Jvm.ClassFile.FieldType) ∈ jALL ∧ Cond.initialized y_N_init.cls ∈ jALL := ⟨wd_220, wd_38, wd_39, wd_3⟩
theorem pf_P_30 {x : Nat} (hk : k < N) (hF : F k = .inr (4, fs)) (hl0 : 4 < fs.length) (hown : "NumberTower$Pen" = (F_P 4).1) (hini : ∀ s me, X s me → me.name = "<init>") (d : decode cc pc = .ok (.putfield 30, 3)) (kk : J l R nb "NumberTower$Pen" cc nL ret D jCl tys A X Qx ad N kc ks (pc + 3) lv st (va_up F k (.inr (4, fs.set 4 (.ref x))))) : J l R nb "NumberTower$Pen" cc nL ret D jCl tys A X Qx ad N kc ks pc lv ((.ref x) :: .ref (ad k) :: st) F :=
  J_putF (C := "NumberTower$Pen") (T := F_P) (n := 8) in_P tt_P tt_P_ok n_P rfl 4 (by decide) wd_226 rfl rfl hown hini (ty := .object "NumberTower$Natural") (tt_P_ok 4 (by decide)) hk hF hl0 rfl rfl d kk
theorem pf_P_34 {x : Nat} (hk : k < N) (hF : F k = .inr (4, fs)) (hl0 : 5 < fs.length) (hown : "NumberTower$Pen" = (F_P 5).1) (hini : ∀ s me, X s me → me.name = "<init>") (d : decode cc pc = .ok (.putfield 34, 3)) (kk : J l R nb "NumberTower$Pen" cc nL ret D jCl tys A X Qx ad N kc ks (pc + 3) lv st (va_up F k (.inr (4, fs.set 5 (.ref x))))) : J l R nb "NumberTower$Pen" cc nL ret D jCl tys A X Qx ad N kc ks pc lv ((.ref x) :: .ref (ad k) :: st) F :=
  J_putF (C := "NumberTower$Pen") (T := F_P) (n := 8) in_P tt_P tt_P_ok n_P rfl 5 (by decide) wd_227 rfl rfl hown hini (ty := .object "NumberTower$Natural") (tt_P_ok 5 (by decide)) hk hF hl0 rfl rfl d kk
theorem pf_P_37 {x : Nat} (hk : k < N) (hF : F k = .inr (4, fs)) (hl0 : 6 < fs.length) (hown : "NumberTower$Pen" = (F_P 6).1) (hini : ∀ s me, X s me → me.name = "<init>") (d : decode cc pc = .ok (.putfield 37, 3)) (kk : J l R nb "NumberTower$Pen" cc nL ret D jCl tys A X Qx ad N kc ks (pc + 3) lv st (va_up F k (.inr (4, fs.set 6 (.ref x))))) : J l R nb "NumberTower$Pen" cc nL ret D jCl tys A X Qx ad N kc ks pc lv ((.ref x) :: .ref (ad k) :: st) F :=
  J_putF (C := "NumberTower$Pen") (T := F_P) (n := 8) in_P tt_P tt_P_ok n_P rfl 6 (by decide) wd_228 rfl rfl hown hini (ty := .object "NumberTower$Natural") (tt_P_ok 6 (by decide)) hk hF hl0 rfl rfl d kk
theorem gf_P_12 (hk : k < N) (hF : F k = .inr (4, fs)) (hv : fs[0]? = some v) (d : decode cc pc = .ok (.getfield 12, 3)) (kk : J l R nb "NumberTower$Pen" cc nL ret D jCl tys A X Qx ad N kc ks (pc + 3) lv (v :: st) F) : J l R nb "NumberTower$Pen" cc nL ret D jCl tys A X Qx ad N kc ks pc lv (.ref (ad k) :: st) F :=
  J_get (C := "NumberTower$Pen") (T := F_P) (n := 8) in_P rfl 0 (by decide) wd_221 rfl hk hF hv d kk
theorem cw_P_40 : Cond.methodLink "NumberTower$Pen" 40 y_T_clear ∈ jALL ∧ Cond.instanceMethod y_T_clear ∈ jALL ∧ Cond.selects "NumberTower$Text" y_T_clear y_T_clear ∈ jALL ∧ Cond.code y_T_clear b_T_clear 1 (Option.none : Option Jvm.ClassFile.FieldType) ∈ jALL ∧ Cond.initialized y_T_clear.cls ∈ jALL := ⟨wd_822, wd_282, wd_283, wd_284, wd_4⟩
theorem gf_P_43 (hk : k < N) (hF : F k = .inr (3, fs)) (hv : fs[1]? = some v) (d : decode cc pc = .ok (.getfield 43, 3)) (kk : J l R nb "NumberTower$Pen" cc nL ret D jCl tys A X Qx ad N kc ks (pc + 3) lv (v :: st) F) : J l R nb "NumberTower$Pen" cc nL ret D jCl tys A X Qx ad N kc ks pc lv (.ref (ad k) :: st) F :=
  J_get (C := "NumberTower$Num") (T := F_U) (n := 4) in_U rfl 1 (by decide) wd_58 rfl hk hF hv d kk
theorem cw_P_49 : Cond.methodLink "NumberTower$Pen" 49 y_T_put ∈ jALL ∧ Cond.instanceMethod y_T_put ∈ jALL ∧ Cond.selects "NumberTower$Text" y_T_put y_T_put ∈ jALL ∧ Cond.code y_T_put b_T_put 2 (Option.none : Option Jvm.ClassFile.FieldType) ∈ jALL ∧ Cond.initialized y_T_put.cls ∈ jALL := ⟨wd_823, wd_274, wd_275, wd_276, wd_4⟩
theorem gf_P_53 (hk : k < N) (hF : F k = .inr (3, fs)) (hv : fs[0]? = some v) (d : decode cc pc = .ok (.getfield 53, 3)) (kk : J l R nb "NumberTower$Pen" cc nL ret D jCl tys A X Qx ad N kc ks (pc + 3) lv (v :: st) F) : J l R nb "NumberTower$Pen" cc nL ret D jCl tys A X Qx ad N kc ks pc lv (.ref (ad k) :: st) F :=
  J_get (C := "NumberTower$Num") (T := F_U) (n := 4) in_U rfl 0 (by decide) wd_55 rfl hk hF hv d kk
theorem cw_P_56 : Cond.methodLink "NumberTower$Pen" 56 y_P_setZero ∈ jALL ∧ Cond.instanceMethod y_P_setZero ∈ jALL ∧ Cond.selects "NumberTower$Pen" y_P_setZero y_P_setZero ∈ jALL ∧ Cond.code y_P_setZero b_P_setZero 1 (Option.some Jvm.ClassFile.FieldType.int) ∈ jALL ∧ Cond.initialized y_P_setZero.cls ∈ jALL := ⟨wd_824, wd_826, ws_18, wd_827, wd_8⟩
theorem cw_P_60 : Cond.methodLink "NumberTower$Pen" 60 y_P_setShortestDigits ∈ jALL ∧ Cond.instanceMethod y_P_setShortestDigits ∈ jALL ∧ Cond.selects "NumberTower$Pen" y_P_setShortestDigits y_P_setShortestDigits ∈ jALL ∧ Cond.code y_P_setShortestDigits b_P_setShortestDigits 18 (Option.some Jvm.ClassFile.FieldType.int) ∈ jALL ∧ Cond.initialized y_P_setShortestDigits.cls ∈ jALL := ⟨wd_828, wd_830, ws_19, wd_831, wd_8⟩
theorem cw_P_64 : Cond.methodLink "NumberTower$Pen" 64 y_P_layReal ∈ jALL ∧ Cond.instanceMethod y_P_layReal ∈ jALL ∧ Cond.selects "NumberTower$Pen" y_P_layReal y_P_layReal ∈ jALL ∧ Cond.code y_P_layReal b_P_layReal 2 (Option.none : Option Jvm.ClassFile.FieldType) ∈ jALL ∧ Cond.initialized y_P_layReal.cls ∈ jALL := ⟨wd_881, wd_883, ws_22, wd_884, wd_8⟩
theorem gf_P_67 (hk : k < N) (hF : F k = .inr (3, fs)) (hv : fs[2]? = some v) (d : decode cc pc = .ok (.getfield 67, 3)) (kk : J l R nb "NumberTower$Pen" cc nL ret D jCl tys A X Qx ad N kc ks (pc + 3) lv (v :: st) F) : J l R nb "NumberTower$Pen" cc nL ret D jCl tys A X Qx ad N kc ks pc lv (.ref (ad k) :: st) F :=
  J_get (C := "NumberTower$Num") (T := F_U) (n := 4) in_U rfl 2 (by decide) wd_64 rfl hk hF hv d kk
theorem cw_P_70 : Cond.methodLink "NumberTower$Pen" 70 y_P_showPart ∈ jALL ∧ Cond.instanceMethod y_P_showPart ∈ jALL ∧ Cond.selects "NumberTower$Pen" y_P_showPart y_P_showPart ∈ jALL ∧ Cond.code y_P_showPart b_P_showPart 2 (Option.none : Option Jvm.ClassFile.FieldType) ∈ jALL ∧ Cond.initialized y_P_showPart.cls ∈ jALL := ⟨wd_899, wd_901, ws_23, wd_902, wd_8⟩
theorem gf_P_74 (hk : k < N) (hF : F k = .inr (3, fs)) (hv : fs[3]? = some v) (d : decode cc pc = .ok (.getfield 74, 3)) (kk : J l R nb "NumberTower$Pen" cc nL ret D jCl tys A X Qx ad N kc ks (pc + 3) lv (v :: st) F) : J l R nb "NumberTower$Pen" cc nL ret D jCl tys A X Qx ad N kc ks pc lv (.ref (ad k) :: st) F :=
  J_get (C := "NumberTower$Num") (T := F_U) (n := 4) in_U rfl 3 (by decide) wd_69 rfl hk hF hv d kk
theorem cw_P_77 : Cond.methodLink "NumberTower$Pen" 77 y_N_isOne ∈ jALL ∧ Cond.instanceMethod y_N_isOne ∈ jALL ∧ Cond.selects "NumberTower$Natural" y_N_isOne y_N_isOne ∈ jALL ∧ Cond.code y_N_isOne b_N_isOne 1 (Option.some Jvm.ClassFile.FieldType.boolean) ∈ jALL ∧ Cond.initialized y_N_isOne.cls ∈ jALL := ⟨wd_903, wd_445, wd_446, wd_447, wd_3⟩
theorem gf_P_30 (hk : k < N) (hF : F k = .inr (4, fs)) (hv : fs[4]? = some v) (d : decode cc pc = .ok (.getfield 30, 3)) (kk : J l R nb "NumberTower$Pen" cc nL ret D jCl tys A X Qx ad N kc ks (pc + 3) lv (v :: st) F) : J l R nb "NumberTower$Pen" cc nL ret D jCl tys A X Qx ad N kc ks pc lv (.ref (ad k) :: st) F :=
  J_get (C := "NumberTower$Pen") (T := F_P) (n := 8) in_P rfl 4 (by decide) wd_226 rfl hk hF hv d kk
theorem cw_P_81 : Cond.methodLink "NumberTower$Pen" 81 y_N_copyFrom ∈ jALL ∧ Cond.instanceMethod y_N_copyFrom ∈ jALL ∧ Cond.selects "NumberTower$Natural" y_N_copyFrom y_N_copyFrom ∈ jALL ∧ Cond.code y_N_copyFrom b_N_copyFrom 2 (Option.none : Option Jvm.ClassFile.FieldType) ∈ jALL ∧ Cond.initialized y_N_copyFrom.cls ∈ jALL := ⟨wd_833, wd_324, wd_325, wd_326, wd_3⟩
theorem cw_P_84 : Cond.methodLink "NumberTower$Pen" 84 y_P_setDigits ∈ jALL ∧ Cond.instanceMethod y_P_setDigits ∈ jALL ∧ Cond.selects "NumberTower$Pen" y_P_setDigits y_P_setDigits ∈ jALL ∧ Cond.code y_P_setDigits b_P_setDigits 6 (Option.none : Option Jvm.ClassFile.FieldType) ∈ jALL ∧ Cond.initialized y_P_setDigits.cls ∈ jALL := ⟨wd_863, wd_865, ws_21, wd_866, wd_8⟩
theorem gf_P_24 (hk : k < N) (hF : F k = .inr (4, fs)) (hv : fs[3]? = some v) (d : decode cc pc = .ok (.getfield 24, 3)) (kk : J l R nb "NumberTower$Pen" cc nL ret D jCl tys A X Qx ad N kc ks (pc + 3) lv (v :: st) F) : J l R nb "NumberTower$Pen" cc nL ret D jCl tys A X Qx ad N kc ks pc lv (.ref (ad k) :: st) F :=
  J_get (C := "NumberTower$Pen") (T := F_P) (n := 8) in_P rfl 3 (by decide) wd_225 rfl hk hF hv d kk
theorem gf_P_88 (hk : k < N) (hF : F k = .inr (7, fs)) (hv : fs[1]? = some v) (d : decode cc pc = .ok (.getfield 88, 3)) (kk : J l R nb "NumberTower$Pen" cc nL ret D jCl tys A X Qx ad N kc ks (pc + 3) lv (v :: st) F) : J l R nb "NumberTower$Pen" cc nL ret D jCl tys A X Qx ad N kc ks pc lv (.ref (ad k) :: st) F :=
  J_get (C := "NumberTower$Text") (T := F_T) (n := 2) in_T rfl 1 (by decide) wd_93 rfl hk hF hv d kk
theorem cw_P_91 : Cond.methodLink "NumberTower$Pen" 91 y_T_putFrom ∈ jALL ∧ Cond.instanceMethod y_T_putFrom ∈ jALL ∧ Cond.selects "NumberTower$Text" y_T_putFrom y_T_putFrom ∈ jALL ∧ Cond.code y_T_putFrom b_T_putFrom 5 (Option.none : Option Jvm.ClassFile.FieldType) ∈ jALL ∧ Cond.initialized y_T_putFrom.cls ∈ jALL := ⟨wd_886, wd_887, wd_888, wd_889, wd_4⟩
theorem cw_P_95 : Cond.methodLink "NumberTower$Pen" 95 y_N_isZero ∈ jALL ∧ Cond.instanceMethod y_N_isZero ∈ jALL ∧ Cond.selects "NumberTower$Natural" y_N_isZero y_N_isZero ∈ jALL ∧ Cond.code y_N_isZero b_N_isZero 1 (Option.some Jvm.ClassFile.FieldType.boolean) ∈ jALL ∧ Cond.initialized y_N_isZero.cls ∈ jALL := ⟨wd_851, wd_358, wd_359, wd_360, wd_3⟩
theorem cw_P_98 : Cond.methodLink "NumberTower$Pen" 98 y_N_divideSmall ∈ jALL ∧ Cond.instanceMethod y_N_divideSmall ∈ jALL ∧ Cond.selects "NumberTower$Natural" y_N_divideSmall y_N_divideSmall ∈ jALL ∧ Cond.code y_N_divideSmall b_N_divideSmall 7 (Option.some Jvm.ClassFile.FieldType.int) ∈ jALL ∧ Cond.initialized y_N_divideSmall.cls ∈ jALL := ⟨wd_867, wd_868, wd_869, wd_870, wd_3⟩
theorem cw_P_102 : Cond.methodLink "NumberTower$Pen" 102 y_T_reverse ∈ jALL ∧ Cond.instanceMethod y_T_reverse ∈ jALL ∧ Cond.selects "NumberTower$Text" y_T_reverse y_T_reverse ∈ jALL ∧ Cond.code y_T_reverse b_T_reverse 4 (Option.none : Option Jvm.ClassFile.FieldType) ∈ jALL ∧ Cond.initialized y_T_reverse.cls ∈ jALL := ⟨wd_871, wd_872, wd_873, wd_874, wd_4⟩
theorem cw_P_105 : Cond.methodLink "NumberTower$Pen" 105 y_T_at ∈ jALL ∧ Cond.instanceMethod y_T_at ∈ jALL ∧ Cond.selects "NumberTower$Text" y_T_at y_T_at ∈ jALL ∧ Cond.code y_T_at b_T_at 2 (Option.some Jvm.ClassFile.FieldType.int) ∈ jALL ∧ Cond.initialized y_T_at.cls ∈ jALL := ⟨wd_885, wd_463, wd_464, wd_465, wd_4⟩
theorem cw_P_108 : Cond.methodLink "NumberTower$Pen" 108 y_P_putExponent ∈ jALL ∧ Cond.static y_P_putExponent ∈ jALL ∧ Cond.code y_P_putExponent b_P_putExponent 4 (Option.none : Option Jvm.ClassFile.FieldType) ∈ jALL ∧ Cond.initialized y_P_putExponent.cls ∈ jALL := ⟨wd_891, wd_892, wd_893, wd_8⟩
theorem cw_P_111 : Cond.methodLink "NumberTower$Pen" 111 y_T_putMany ∈ jALL ∧ Cond.instanceMethod y_T_putMany ∈ jALL ∧ Cond.selects "NumberTower$Text" y_T_putMany y_T_putMany ∈ jALL ∧ Cond.code y_T_putMany b_T_putMany 4 (Option.none : Option Jvm.ClassFile.FieldType) ∈ jALL ∧ Cond.initialized y_T_putMany.cls ∈ jALL := ⟨wd_895, wd_896, wd_897, wd_898, wd_4⟩
theorem cw_P_115 : Cond.methodLink "NumberTower$Pen" 115 y_JMath_abs ∈ jALL ∧ Cond.static y_JMath_abs ∈ jALL ∧ Cond.code y_JMath_abs b_JMath_abs 1 (Option.some Jvm.ClassFile.FieldType.int) ∈ jALL ∧ Cond.initialized y_JMath_abs.cls ∈ jALL := ⟨wd_894, wd_745, wd_746, wd_18⟩
theorem cw_P_120 : Cond.methodLink "NumberTower$Pen" 120 y_N_bits ∈ jALL ∧ Cond.instanceMethod y_N_bits ∈ jALL ∧ Cond.selects "NumberTower$Natural" y_N_bits y_N_bits ∈ jALL ∧ Cond.code y_N_bits b_N_bits 1 (Option.some Jvm.ClassFile.FieldType.int) ∈ jALL ∧ Cond.initialized y_N_bits.cls ∈ jALL := ⟨wd_832, wd_410, wd_411, wd_412, wd_3⟩
theorem cw_P_123 : Cond.methodLink "NumberTower$Pen" 123 y_N_shiftUp ∈ jALL ∧ Cond.instanceMethod y_N_shiftUp ∈ jALL ∧ Cond.selects "NumberTower$Natural" y_N_shiftUp y_N_shiftUp ∈ jALL ∧ Cond.code y_N_shiftUp b_N_shiftUp 11 (Option.none : Option Jvm.ClassFile.FieldType) ∈ jALL ∧ Cond.initialized y_N_shiftUp.cls ∈ jALL := ⟨wd_834, wd_354, wd_355, wd_356, wd_3⟩
theorem cw_P_126 : Cond.methodLink "NumberTower$Pen" 126 y_N_shiftDown ∈ jALL ∧ Cond.instanceMethod y_N_shiftDown ∈ jALL ∧ Cond.selects "NumberTower$Natural" y_N_shiftDown y_N_shiftDown ∈ jALL ∧ Cond.code y_N_shiftDown b_N_shiftDown 10 (Option.none : Option Jvm.ClassFile.FieldType) ∈ jALL ∧ Cond.initialized y_N_shiftDown.cls ∈ jALL := ⟨wd_835, wd_427, wd_428, wd_429, wd_3⟩
theorem cw_P_129 : Cond.methodLink "NumberTower$Pen" 129 y_N_toLong ∈ jALL ∧ Cond.instanceMethod y_N_toLong ∈ jALL ∧ Cond.selects "NumberTower$Natural" y_N_toLong y_N_toLong ∈ jALL ∧ Cond.code y_N_toLong b_N_toLong 1 (Option.some Jvm.ClassFile.FieldType.long) ∈ jALL ∧ Cond.initialized y_N_toLong.cls ∈ jALL := ⟨wd_836, wd_453, wd_454, wd_455, wd_3⟩
theorem cw_P_133 : Cond.methodLink "NumberTower$Pen" 133 y_P_leastExponent ∈ jALL ∧ Cond.static y_P_leastExponent ∈ jALL ∧ Cond.code y_P_leastExponent b_P_leastExponent 1 (Option.some Jvm.ClassFile.FieldType.int) ∈ jALL ∧ Cond.initialized y_P_leastExponent.cls ∈ jALL := ⟨wd_837, wd_838, wd_839, wd_8⟩
theorem cw_P_136 : Cond.methodLink "NumberTower$Pen" 136 y_P_scaledFloor ∈ jALL ∧ Cond.instanceMethod y_P_scaledFloor ∈ jALL ∧ Cond.selects "NumberTower$Pen" y_P_scaledFloor y_P_scaledFloor ∈ jALL ∧ Cond.code y_P_scaledFloor b_P_scaledFloor 5 (Option.some Jvm.ClassFile.FieldType.long) ∈ jALL ∧ Cond.initialized y_P_scaledFloor.cls ∈ jALL := ⟨wd_844, wd_846, ws_20, wd_847, wd_8⟩
theorem gf_P_142 (hk : k < N) (hF : F k = .inr (4, fs)) (hv : fs[7]? = some v) (d : decode cc pc = .ok (.getfield 142, 3)) (kk : J l R nb "NumberTower$Pen" cc nL ret D jCl tys A X Qx ad N kc ks (pc + 3) lv (v :: st) F) : J l R nb "NumberTower$Pen" cc nL ret D jCl tys A X Qx ad N kc ks pc lv (.ref (ad k) :: st) F :=
  J_get (C := "NumberTower$Pen") (T := F_P) (n := 8) in_P rfl 7 (by decide) wd_229 rfl hk hF hv d kk
theorem cw_P_152 : Cond.methodLink "NumberTower$Pen" 152 y_P_shortestBetween ∈ jALL ∧ Cond.static y_P_shortestBetween ∈ jALL ∧ Cond.code y_P_shortestBetween b_P_shortestBetween 14 (Option.some Jvm.ClassFile.FieldType.long) ∈ jALL ∧ Cond.initialized y_P_shortestBetween.cls ∈ jALL := ⟨wd_856, wd_857, wd_858, wd_8⟩
theorem cw_P_156 : Cond.methodLink "NumberTower$Pen" 156 y_N_set ∈ jALL ∧ Cond.instanceMethod y_N_set ∈ jALL ∧ Cond.selects "NumberTower$Natural" y_N_set y_N_set ∈ jALL ∧ Cond.code y_N_set b_N_set 3 (Option.none : Option Jvm.ClassFile.FieldType) ∈ jALL ∧ Cond.initialized y_N_set.cls ∈ jALL := ⟨wd_848, wd_300, wd_301, wd_302, wd_3⟩
theorem cw_P_160 : Cond.methodLink "NumberTower$Pen" 160 y_T_dropZeros ∈ jALL ∧ Cond.instanceMethod y_T_dropZeros ∈ jALL ∧ Cond.selects "NumberTower$Text" y_T_dropZeros y_T_dropZeros ∈ jALL ∧ Cond.code y_T_dropZeros b_T_dropZeros 4 (Option.some Jvm.ClassFile.FieldType.int) ∈ jALL ∧ Cond.initialized y_T_dropZeros.cls ∈ jALL := ⟨wd_876, wd_877, wd_878, wd_879, wd_4⟩
theorem cw_P_164 : Cond.methodLink "NumberTower$Pen" 164 y_JMath_floorDiv ∈ jALL ∧ Cond.static y_JMath_floorDiv ∈ jALL ∧ Cond.code y_JMath_floorDiv b_JMath_floorDiv 3 (Option.some Jvm.ClassFile.FieldType.int) ∈ jALL ∧ Cond.initialized y_JMath_floorDiv.cls ∈ jALL := ⟨wd_841, wd_842, wd_843, wd_18⟩
theorem gf_P_34 (hk : k < N) (hF : F k = .inr (4, fs)) (hv : fs[5]? = some v) (d : decode cc pc = .ok (.getfield 34, 3)) (kk : J l R nb "NumberTower$Pen" cc nL ret D jCl tys A X Qx ad N kc ks (pc + 3) lv (v :: st) F) : J l R nb "NumberTower$Pen" cc nL ret D jCl tys A X Qx ad N kc ks pc lv (.ref (ad k) :: st) F :=
  J_get (C := "NumberTower$Pen") (T := F_P) (n := 8) in_P rfl 5 (by decide) wd_227 rfl hk hF hv d kk
theorem cw_P_168 : Cond.methodLink "NumberTower$Pen" 168 y_N_scaleTens ∈ jALL ∧ Cond.instanceMethod y_N_scaleTens ∈ jALL ∧ Cond.selects "NumberTower$Natural" y_N_scaleTens y_N_scaleTens ∈ jALL ∧ Cond.code y_N_scaleTens b_N_scaleTens 4 (Option.none : Option Jvm.ClassFile.FieldType) ∈ jALL ∧ Cond.initialized y_N_scaleTens.cls ∈ jALL := ⟨wd_849, wd_631, wd_632, wd_633, wd_3⟩
theorem gf_P_37 (hk : k < N) (hF : F k = .inr (4, fs)) (hv : fs[6]? = some v) (d : decode cc pc = .ok (.getfield 37, 3)) (kk : J l R nb "NumberTower$Pen" cc nL ret D jCl tys A X Qx ad N kc ks (pc + 3) lv (v :: st) F) : J l R nb "NumberTower$Pen" cc nL ret D jCl tys A X Qx ad N kc ks pc lv (.ref (ad k) :: st) F :=
  J_get (C := "NumberTower$Pen") (T := F_P) (n := 8) in_P rfl 6 (by decide) wd_228 rfl hk hF hv d kk
theorem cw_P_171 : Cond.methodLink "NumberTower$Pen" 171 y_N_divide ∈ jALL ∧ Cond.instanceMethod y_N_divide ∈ jALL ∧ Cond.selects "NumberTower$Natural" y_N_divide y_N_divide ∈ jALL ∧ Cond.code y_N_divide b_N_divide 7 (Option.none : Option Jvm.ClassFile.FieldType) ∈ jALL ∧ Cond.initialized y_N_divide.cls ∈ jALL := ⟨wd_850, wd_400, wd_401, wd_402, wd_3⟩
theorem pf_P_142 (hk : k < N) (hF : F k = .inr (4, fs)) (hl0 : 7 < fs.length) (hb : narrow .boolean v = v ∧ fits .boolean v = true) (d : decode cc pc = .ok (.putfield 142, 3)) (kk : J l R nb "NumberTower$Pen" cc nL ret D jCl tys A X Qx ad N kc ks (pc + 3) lv st (va_up F k (.inr (4, fs.set 7 v)))) : J l R nb "NumberTower$Pen" cc nL ret D jCl tys A X Qx ad N kc ks pc lv (v :: .ref (ad k) :: st) F :=
  J_put (C := "NumberTower$Pen") (T := F_P) (n := 8) in_P tt_P tt_P_ok n_P rfl 7 (by decide) wd_229 rfl rfl (ty := .boolean) (tt_P_ok 7 (by decide)) hk hF hl0 hb.1 hb.2 d kk
theorem cw_P_177 : Cond.methodLink "NumberTower$Pen" 177 y_P_nearerOf ∈ jALL ∧ Cond.static y_P_nearerOf ∈ jALL ∧ Cond.code y_P_nearerOf b_P_nearerOf 9 (Option.some Jvm.ClassFile.FieldType.long) ∈ jALL ∧ Cond.initialized y_P_nearerOf.cls ∈ jALL := ⟨wd_860, wd_861, wd_862, wd_8⟩
theorem gf_P_18 (hk : k < N) (hF : F k = .inr (4, fs)) (hv : fs[1]? = some v) (d : decode cc pc = .ok (.getfield 18, 3)) (kk : J l R nb "NumberTower$Pen" cc nL ret D jCl tys A X Qx ad N kc ks (pc + 3) lv (v :: st) F) : J l R nb "NumberTower$Pen" cc nL ret D jCl tys A X Qx ad N kc ks pc lv (.ref (ad k) :: st) F :=
  J_get (C := "NumberTower$Pen") (T := F_P) (n := 8) in_P rfl 1 (by decide) wd_223 rfl hk hF hv d kk
theorem gf_P_21 (hk : k < N) (hF : F k = .inr (4, fs)) (hv : fs[2]? = some v) (d : decode cc pc = .ok (.getfield 21, 3)) (kk : J l R nb "NumberTower$Pen" cc nL ret D jCl tys A X Qx ad N kc ks (pc + 3) lv (v :: st) F) : J l R nb "NumberTower$Pen" cc nL ret D jCl tys A X Qx ad N kc ks pc lv (.ref (ad k) :: st) F :=
  J_get (C := "NumberTower$Pen") (T := F_P) (n := 8) in_P rfl 2 (by decide) wd_224 rfl hk hF hv d kk
theorem gf_P_180 (hk : k < N) (hF : F k = .inr (6, fs)) (hv : fs[4]? = some v) (d : decode cc pc = .ok (.getfield 180, 3)) (kk : J l R nb "NumberTower$Pen" cc nL ret D jCl tys A X Qx ad N kc ks (pc + 3) lv (v :: st) F) : J l R nb "NumberTower$Pen" cc nL ret D jCl tys A X Qx ad N kc ks pc lv (.ref (ad k) :: st) F :=
  J_get (C := "NumberTower$Spec") (T := F_S) (n := 11) in_S rfl 4 (by decide) wd_175 rfl hk hF hv d kk
theorem gf_P_185 (hk : k < N) (hF : F k = .inr (6, fs)) (hv : fs[9]? = some v) (d : decode cc pc = .ok (.getfield 185, 3)) (kk : J l R nb "NumberTower$Pen" cc nL ret D jCl tys A X Qx ad N kc ks (pc + 3) lv (v :: st) F) : J l R nb "NumberTower$Pen" cc nL ret D jCl tys A X Qx ad N kc ks pc lv (.ref (ad k) :: st) F :=
  J_get (C := "NumberTower$Spec") (T := F_S) (n := 11) in_S rfl 9 (by decide) wd_185 rfl hk hF hv d kk
theorem gf_P_188 (hk : k < N) (hF : F k = .inr (6, fs)) (hv : fs[10]? = some v) (d : decode cc pc = .ok (.getfield 188, 3)) (kk : J l R nb "NumberTower$Pen" cc nL ret D jCl tys A X Qx ad N kc ks (pc + 3) lv (v :: st) F) : J l R nb "NumberTower$Pen" cc nL ret D jCl tys A X Qx ad N kc ks pc lv (.ref (ad k) :: st) F :=
  J_get (C := "NumberTower$Spec") (T := F_S) (n := 11) in_S rfl 10 (by decide) wd_187 rfl hk hF hv d kk
theorem cw_P_191 : Cond.methodLink "NumberTower$Pen" 191 y_P_roundScaled ∈ jALL ∧ Cond.instanceMethod y_P_roundScaled ∈ jALL ∧ Cond.selects "NumberTower$Pen" y_P_roundScaled y_P_roundScaled ∈ jALL ∧ Cond.code y_P_roundScaled b_P_roundScaled 3 (Option.none : Option Jvm.ClassFile.FieldType) ∈ jALL ∧ Cond.initialized y_P_roundScaled.cls ∈ jALL := ⟨wd_945, wd_947, ws_28, wd_948, wd_8⟩
theorem cw_P_195 : Cond.methodLink "NumberTower$Pen" 195 y_P_putFixed ∈ jALL ∧ Cond.instanceMethod y_P_putFixed ∈ jALL ∧ Cond.selects "NumberTower$Pen" y_P_putFixed y_P_putFixed ∈ jALL ∧ Cond.code y_P_putFixed b_P_putFixed 4 (Option.none : Option Jvm.ClassFile.FieldType) ∈ jALL ∧ Cond.initialized y_P_putFixed.cls ∈ jALL := ⟨wd_950, wd_952, ws_29, wd_953, wd_8⟩
theorem cw_P_199 : Cond.methodLink "NumberTower$Pen" 199 y_P_setScientificDigits ∈ jALL ∧ Cond.instanceMethod y_P_setScientificDigits ∈ jALL ∧ Cond.selects "NumberTower$Pen" y_P_setScientificDigits y_P_setScientificDigits ∈ jALL ∧ Cond.code y_P_setScientificDigits b_P_setScientificDigits 5 (Option.some Jvm.ClassFile.FieldType.int) ∈ jALL ∧ Cond.initialized y_P_setScientificDigits.cls ∈ jALL := ⟨wd_958, wd_960, ws_31, wd_961, wd_8⟩
theorem cw_P_203 : Cond.methodLink "NumberTower$Pen" 203 y_P_putScientific ∈ jALL ∧ Cond.instanceMethod y_P_putScientific ∈ jALL ∧ Cond.selects "NumberTower$Pen" y_P_putScientific y_P_putScientific ∈ jALL ∧ Cond.code y_P_putScientific b_P_putScientific 3 (Option.none : Option Jvm.ClassFile.FieldType) ∈ jALL ∧ Cond.initialized y_P_putScientific.cls ∈ jALL := ⟨wd_962, wd_964, ws_32, wd_965, wd_8⟩
theorem cw_P_206 : Cond.methodLink "NumberTower$Pen" 206 y_JMath_max ∈ jALL ∧ Cond.static y_JMath_max ∈ jALL ∧ Cond.code y_JMath_max b_JMath_max 2 (Option.some Jvm.ClassFile.FieldType.int) ∈ jALL ∧ Cond.initialized y_JMath_max.cls ∈ jALL := ⟨wd_966, wd_442, wd_443, wd_18⟩
theorem cw_P_209 : Cond.methodLink "NumberTower$Pen" 209 y_P_putGeneral ∈ jALL ∧ Cond.instanceMethod y_P_putGeneral ∈ jALL ∧ Cond.selects "NumberTower$Pen" y_P_putGeneral y_P_putGeneral ∈ jALL ∧ Cond.code y_P_putGeneral b_P_putGeneral 6 (Option.none : Option Jvm.ClassFile.FieldType) ∈ jALL ∧ Cond.initialized y_P_putGeneral.cls ∈ jALL := ⟨wd_967, wd_969, ws_33, wd_970, wd_8⟩
theorem cw_P_213 : Cond.methodLink "NumberTower$Pen" 213 y_P_putWhole ∈ jALL ∧ Cond.instanceMethod y_P_putWhole ∈ jALL ∧ Cond.selects "NumberTower$Pen" y_P_putWhole y_P_putWhole ∈ jALL ∧ Cond.code y_P_putWhole b_P_putWhole 4 (Option.none : Option Jvm.ClassFile.FieldType) ∈ jALL ∧ Cond.initialized y_P_putWhole.cls ∈ jALL := ⟨wd_971, wd_973, ws_34, wd_974, wd_8⟩
theorem cw_P_217 : Cond.methodLink "NumberTower$Pen" 217 y_P_laySheet ∈ jALL ∧ Cond.instanceMethod y_P_laySheet ∈ jALL ∧ Cond.selects "NumberTower$Pen" y_P_laySheet y_P_laySheet ∈ jALL ∧ Cond.code y_P_laySheet b_P_laySheet 7 (Option.none : Option Jvm.ClassFile.FieldType) ∈ jALL ∧ Cond.initialized y_P_laySheet.cls ∈ jALL := ⟨wd_975, wd_977, ws_35, wd_978, wd_8⟩
theorem gf_P_221 (hk : k < N) (hF : F k = .inr (6, fs)) (hv : fs[8]? = some v) (d : decode cc pc = .ok (.getfield 221, 3)) (kk : J l R nb "NumberTower$Pen" cc nL ret D jCl tys A X Qx ad N kc ks (pc + 3) lv (v :: st) F) : J l R nb "NumberTower$Pen" cc nL ret D jCl tys A X Qx ad N kc ks pc lv (.ref (ad k) :: st) F :=
  J_get (C := "NumberTower$Spec") (T := F_S) (n := 11) in_S rfl 8 (by decide) wd_183 rfl hk hF hv d kk
theorem cw_P_224 : Cond.methodLink "NumberTower$Pen" 224 y_P_putGroups ∈ jALL ∧ Cond.instanceMethod y_P_putGroups ∈ jALL ∧ Cond.selects "NumberTower$Pen" y_P_putGroups y_P_putGroups ∈ jALL ∧ Cond.code y_P_putGroups b_P_putGroups 5 (Option.none : Option Jvm.ClassFile.FieldType) ∈ jALL ∧ Cond.initialized y_P_putGroups.cls ∈ jALL := ⟨wd_954, wd_956, ws_30, wd_957, wd_8⟩
theorem gf_P_227 (hk : k < N) (hF : F k = .inr (6, fs)) (hv : fs[5]? = some v) (d : decode cc pc = .ok (.getfield 227, 3)) (kk : J l R nb "NumberTower$Pen" cc nL ret D jCl tys A X Qx ad N kc ks (pc + 3) lv (v :: st) F) : J l R nb "NumberTower$Pen" cc nL ret D jCl tys A X Qx ad N kc ks pc lv (.ref (ad k) :: st) F :=
  J_get (C := "NumberTower$Spec") (T := F_S) (n := 11) in_S rfl 5 (by decide) wd_177 rfl hk hF hv d kk
theorem cw_P_230 : Cond.methodLink "NumberTower$Pen" 230 y_N_roundBy ∈ jALL ∧ Cond.instanceMethod y_N_roundBy ∈ jALL ∧ Cond.selects "NumberTower$Natural" y_N_roundBy y_N_roundBy ∈ jALL ∧ Cond.code y_N_roundBy b_N_roundBy 4 (Option.none : Option Jvm.ClassFile.FieldType) ∈ jALL ∧ Cond.initialized y_N_roundBy.cls ∈ jALL := ⟨wd_949, wd_778, wd_779, wd_780, wd_3⟩
theorem gf_P_233 (hk : k < N) (hF : F k = .inr (6, fs)) (hv : fs[7]? = some v) (d : decode cc pc = .ok (.getfield 233, 3)) (kk : J l R nb "NumberTower$Pen" cc nL ret D jCl tys A X Qx ad N kc ks (pc + 3) lv (v :: st) F) : J l R nb "NumberTower$Pen" cc nL ret D jCl tys A X Qx ad N kc ks pc lv (.ref (ad k) :: st) F :=
  J_get (C := "NumberTower$Spec") (T := F_S) (n := 11) in_S rfl 7 (by decide) wd_181 rfl hk hF hv d kk
theorem gf_P_236 (hk : k < N) (hF : F k = .inr (6, fs)) (hv : fs[3]? = some v) (d : decode cc pc = .ok (.getfield 236, 3)) (kk : J l R nb "NumberTower$Pen" cc nL ret D jCl tys A X Qx ad N kc ks (pc + 3) lv (v :: st) F) : J l R nb "NumberTower$Pen" cc nL ret D jCl tys A X Qx ad N kc ks pc lv (.ref (ad k) :: st) F :=
  J_get (C := "NumberTower$Spec") (T := F_S) (n := 11) in_S rfl 3 (by decide) wd_173 rfl hk hF hv d kk
theorem gf_P_239 (hk : k < N) (hF : F k = .inr (6, fs)) (hv : fs[6]? = some v) (d : decode cc pc = .ok (.getfield 239, 3)) (kk : J l R nb "NumberTower$Pen" cc nL ret D jCl tys A X Qx ad N kc ks (pc + 3) lv (v :: st) F) : J l R nb "NumberTower$Pen" cc nL ret D jCl tys A X Qx ad N kc ks pc lv (.ref (ad k) :: st) F :=
  J_get (C := "NumberTower$Spec") (T := F_S) (n := 11) in_S rfl 6 (by decide) wd_179 rfl hk hF hv d kk
theorem gf_P_242 (hk : k < N) (hF : F k = .inr (6, fs)) (hv : fs[2]? = some v) (d : decode cc pc = .ok (.getfield 242, 3)) (kk : J l R nb "NumberTower$Pen" cc nL ret D jCl tys A X Qx ad N kc ks (pc + 3) lv (v :: st) F) : J l R nb "NumberTower$Pen" cc nL ret D jCl tys A X Qx ad N kc ks pc lv (.ref (ad k) :: st) F :=
  J_get (C := "NumberTower$Spec") (T := F_S) (n := 11) in_S rfl 2 (by decide) wd_171 rfl hk hF hv d kk
theorem pf_R_9 {x : Nat} (hk : k < N) (hF : F k = .inr (5, fs)) (hl0 : 0 < fs.length) (hown : "NumberTower$Reader" = (F_R 0).1) (hini : ∀ s me, X s me → me.name = "<init>") (d : decode cc pc = .ok (.putfield 9, 3)) (kk : J l R nb "NumberTower$Reader" cc nL ret D jCl tys A X Qx ad N kc ks (pc + 3) lv st (va_up F k (.inr (5, fs.set 0 (.ref x))))) : J l R nb "NumberTower$Reader" cc nL ret D jCl tys A X Qx ad N kc ks pc lv ((.ref x) :: .ref (ad k) :: st) F :=
  J_putF (C := "NumberTower$Reader") (T := F_R) (n := 3) in_R tt_R tt_R_ok n_R rfl 0 (by decide) wd_151 rfl rfl hown hini (ty := .object "NumberTower$Text") (tt_R_ok 0 (by decide)) hk hF hl0 rfl rfl d kk
theorem pf_R_15 {x : Int32} (hk : k < N) (hF : F k = .inr (5, fs)) (hl0 : 1 < fs.length) (d : decode cc pc = .ok (.putfield 15, 3)) (kk : J l R nb "NumberTower$Reader" cc nL ret D jCl tys A X Qx ad N kc ks (pc + 3) lv st (va_up F k (.inr (5, fs.set 1 (.int x))))) : J l R nb "NumberTower$Reader" cc nL ret D jCl tys A X Qx ad N kc ks pc lv ((.int x) :: .ref (ad k) :: st) F :=
  J_put (C := "NumberTower$Reader") (T := F_R) (n := 3) in_R tt_R tt_R_ok n_R rfl 1 (by decide) wd_152 rfl rfl (ty := .int) (tt_R_ok 1 (by decide)) hk hF hl0 rfl rfl d kk
theorem pf_R_19 {x : Int32} (hk : k < N) (hF : F k = .inr (5, fs)) (hl0 : 2 < fs.length) (d : decode cc pc = .ok (.putfield 19, 3)) (kk : J l R nb "NumberTower$Reader" cc nL ret D jCl tys A X Qx ad N kc ks (pc + 3) lv st (va_up F k (.inr (5, fs.set 2 (.int x))))) : J l R nb "NumberTower$Reader" cc nL ret D jCl tys A X Qx ad N kc ks pc lv ((.int x) :: .ref (ad k) :: st) F :=
  J_put (C := "NumberTower$Reader") (T := F_R) (n := 3) in_R tt_R tt_R_ok n_R rfl 2 (by decide) wd_153 rfl rfl (ty := .int) (tt_R_ok 2 (by decide)) hk hF hl0 rfl rfl d kk
theorem cw_R_22 : Cond.methodLink "NumberTower$Reader" 22 y_U_setWhole ∈ jALL ∧ Cond.instanceMethod y_U_setWhole ∈ jALL ∧ Cond.selects "NumberTower$Num" y_U_setWhole y_U_setWhole ∈ jALL ∧ Cond.code y_U_setWhole b_U_setWhole 3 (Option.none : Option Jvm.ClassFile.FieldType) ∈ jALL ∧ Cond.initialized y_U_setWhole.cls ∈ jALL := ⟨wd_503, wd_293, wd_294, wd_295, wd_2⟩
theorem gf_R_9 (hk : k < N) (hF : F k = .inr (5, fs)) (hv : fs[0]? = some v) (d : decode cc pc = .ok (.getfield 9, 3)) (kk : J l R nb "NumberTower$Reader" cc nL ret D jCl tys A X Qx ad N kc ks (pc + 3) lv (v :: st) F) : J l R nb "NumberTower$Reader" cc nL ret D jCl tys A X Qx ad N kc ks pc lv (.ref (ad k) :: st) F :=
  J_get (C := "NumberTower$Reader") (T := F_R) (n := 3) in_R rfl 0 (by decide) wd_151 rfl hk hF hv d kk
theorem cw_R_28 : Cond.methodLink "NumberTower$Reader" 28 y_T_at ∈ jALL ∧ Cond.instanceMethod y_T_at ∈ jALL ∧ Cond.selects "NumberTower$Text" y_T_at y_T_at ∈ jALL ∧ Cond.code y_T_at b_T_at 2 (Option.some Jvm.ClassFile.FieldType.int) ∈ jALL ∧ Cond.initialized y_T_at.cls ∈ jALL := ⟨wd_504, wd_463, wd_464, wd_465, wd_4⟩
theorem pf_R_33 {x : Int32} (hk : k < N) (hF : F k = .inr (3, fs)) (hl0 : 1 < fs.length) (d : decode cc pc = .ok (.putfield 33, 3)) (kk : J l R nb "NumberTower$Reader" cc nL ret D jCl tys A X Qx ad N kc ks (pc + 3) lv st (va_up F k (.inr (3, fs.set 1 (.int x))))) : J l R nb "NumberTower$Reader" cc nL ret D jCl tys A X Qx ad N kc ks pc lv ((.int x) :: .ref (ad k) :: st) F :=
  J_put (C := "NumberTower$Num") (T := F_U) (n := 4) in_U tt_U tt_U_ok n_U rfl 1 (by decide) wd_59 rfl rfl (ty := .int) (tt_U_ok 1 (by decide)) hk hF hl0 rfl rfl d kk
theorem gf_R_15 (hk : k < N) (hF : F k = .inr (5, fs)) (hv : fs[1]? = some v) (d : decode cc pc = .ok (.getfield 15, 3)) (kk : J l R nb "NumberTower$Reader" cc nL ret D jCl tys A X Qx ad N kc ks (pc + 3) lv (v :: st) F) : J l R nb "NumberTower$Reader" cc nL ret D jCl tys A X Qx ad N kc ks pc lv (.ref (ad k) :: st) F :=
  J_get (C := "NumberTower$Reader") (T := F_R) (n := 3) in_R rfl 1 (by decide) wd_152 rfl hk hF hv d kk
theorem gf_R_36 (hk : k < N) (hF : F k = .inr (3, fs)) (hv : fs[2]? = some v) (d : decode cc pc = .ok (.getfield 36, 3)) (kk : J l R nb "NumberTower$Reader" cc nL ret D jCl tys A X Qx ad N kc ks (pc + 3) lv (v :: st) F) : J l R nb "NumberTower$Reader" cc nL ret D jCl tys A X Qx ad N kc ks pc lv (.ref (ad k) :: st) F :=
  J_get (C := "NumberTower$Num") (T := F_U) (n := 4) in_U rfl 2 (by decide) wd_66 rfl hk hF hv d kk
theorem cw_R_40 : Cond.methodLink "NumberTower$Reader" 40 y_R_parseDigits ∈ jALL ∧ Cond.instanceMethod y_R_parseDigits ∈ jALL ∧ Cond.selects "NumberTower$Reader" y_R_parseDigits y_R_parseDigits ∈ jALL ∧ Cond.code y_R_parseDigits b_R_parseDigits 6 (Option.some Jvm.ClassFile.FieldType.int) ∈ jALL ∧ Cond.initialized y_R_parseDigits.cls ∈ jALL := ⟨wd_505, wd_507, ws_4, wd_508, wd_6⟩
theorem cw_R_44 : Cond.methodLink "NumberTower$Reader" 44 y_R_parseDecimal ∈ jALL ∧ Cond.instanceMethod y_R_parseDecimal ∈ jALL ∧ Cond.selects "NumberTower$Reader" y_R_parseDecimal y_R_parseDecimal ∈ jALL ∧ Cond.code y_R_parseDecimal b_R_parseDecimal 6 (Option.some Jvm.ClassFile.FieldType.boolean) ∈ jALL ∧ Cond.initialized y_R_parseDecimal.cls ∈ jALL := ⟨wd_516, wd_518, ws_5, wd_519, wd_6⟩
theorem gf_R_48 (hk : k < N) (hF : F k = .inr (7, fs)) (hv : fs[1]? = some v) (d : decode cc pc = .ok (.getfield 48, 3)) (kk : J l R nb "NumberTower$Reader" cc nL ret D jCl tys A X Qx ad N kc ks (pc + 3) lv (v :: st) F) : J l R nb "NumberTower$Reader" cc nL ret D jCl tys A X Qx ad N kc ks pc lv (.ref (ad k) :: st) F :=
  J_get (C := "NumberTower$Text") (T := F_T) (n := 2) in_T rfl 1 (by decide) wd_92 rfl hk hF hv d kk
theorem pf_R_51 {x : Int32} (hk : k < N) (hF : F k = .inr (3, fs)) (hl0 : 0 < fs.length) (d : decode cc pc = .ok (.putfield 51, 3)) (kk : J l R nb "NumberTower$Reader" cc nL ret D jCl tys A X Qx ad N kc ks (pc + 3) lv st (va_up F k (.inr (3, fs.set 0 (.int x))))) : J l R nb "NumberTower$Reader" cc nL ret D jCl tys A X Qx ad N kc ks pc lv ((.int x) :: .ref (ad k) :: st) F :=
  J_put (C := "NumberTower$Num") (T := F_U) (n := 4) in_U tt_U tt_U_ok n_U rfl 0 (by decide) wd_56 rfl rfl (ty := .int) (tt_U_ok 0 (by decide)) hk hF hl0 rfl rfl d kk
theorem gf_R_54 (hk : k < N) (hF : F k = .inr (3, fs)) (hv : fs[3]? = some v) (d : decode cc pc = .ok (.getfield 54, 3)) (kk : J l R nb "NumberTower$Reader" cc nL ret D jCl tys A X Qx ad N kc ks (pc + 3) lv (v :: st) F) : J l R nb "NumberTower$Reader" cc nL ret D jCl tys A X Qx ad N kc ks pc lv (.ref (ad k) :: st) F :=
  J_get (C := "NumberTower$Num") (T := F_U) (n := 4) in_U rfl 3 (by decide) wd_71 rfl hk hF hv d kk
theorem cw_R_57 : Cond.methodLink "NumberTower$Reader" 57 y_N_clear ∈ jALL ∧ Cond.instanceMethod y_N_clear ∈ jALL ∧ Cond.selects "NumberTower$Natural" y_N_clear y_N_clear ∈ jALL ∧ Cond.code y_N_clear b_N_clear 1 (Option.none : Option Jvm.ClassFile.FieldType) ∈ jALL ∧ Cond.initialized y_N_clear.cls ∈ jALL := ⟨wd_520, wd_304, wd_305, wd_306, wd_3⟩
theorem cw_R_62 : Cond.methodLink "NumberTower$Reader" 62 y_R_parseTens ∈ jALL ∧ Cond.instanceMethod y_R_parseTens ∈ jALL ∧ Cond.selects "NumberTower$Reader" y_R_parseTens y_R_parseTens ∈ jALL ∧ Cond.code y_R_parseTens b_R_parseTens 5 (Option.some Jvm.ClassFile.FieldType.boolean) ∈ jALL ∧ Cond.initialized y_R_parseTens.cls ∈ jALL := ⟨wd_521, wd_523, ws_6, wd_524, wd_6⟩
theorem gf_R_19 (hk : k < N) (hF : F k = .inr (5, fs)) (hv : fs[2]? = some v) (d : decode cc pc = .ok (.getfield 19, 3)) (kk : J l R nb "NumberTower$Reader" cc nL ret D jCl tys A X Qx ad N kc ks (pc + 3) lv (v :: st) F) : J l R nb "NumberTower$Reader" cc nL ret D jCl tys A X Qx ad N kc ks pc lv (.ref (ad k) :: st) F :=
  J_get (C := "NumberTower$Reader") (T := F_R) (n := 3) in_R rfl 2 (by decide) wd_153 rfl hk hF hv d kk
theorem cw_R_66 : Cond.methodLink "NumberTower$Reader" 66 y_R_digitOf ∈ jALL ∧ Cond.static y_R_digitOf ∈ jALL ∧ Cond.code y_R_digitOf b_R_digitOf 3 (Option.some Jvm.ClassFile.FieldType.int) ∈ jALL ∧ Cond.initialized y_R_digitOf.cls ∈ jALL := ⟨wd_509, wd_510, wd_511, wd_6⟩
theorem cw_R_70 : Cond.methodLink "NumberTower$Reader" 70 y_N_scale ∈ jALL ∧ Cond.instanceMethod y_N_scale ∈ jALL ∧ Cond.selects "NumberTower$Natural" y_N_scale y_N_scale ∈ jALL ∧ Cond.code y_N_scale b_N_scale 9 (Option.none : Option Jvm.ClassFile.FieldType) ∈ jALL ∧ Cond.initialized y_N_scale.cls ∈ jALL := ⟨wd_512, wd_513, wd_514, wd_515, wd_3⟩
theorem pf_S_9 {x : Nat} (hk : k < N) (hF : F k = .inr (6, fs)) (hl0 : 0 < fs.length) (hown : "NumberTower$Spec" = (F_S 0).1) (hini : ∀ s me, X s me → me.name = "<init>") (d : decode cc pc = .ok (.putfield 9, 3)) (kk : J l R nb "NumberTower$Spec" cc nL ret D jCl tys A X Qx ad N kc ks (pc + 3) lv st (va_up F k (.inr (6, fs.set 0 (.ref x))))) : J l R nb "NumberTower$Spec" cc nL ret D jCl tys A X Qx ad N kc ks pc lv ((.ref x) :: .ref (ad k) :: st) F :=
  J_putF (C := "NumberTower$Spec") (T := F_S) (n := 11) in_S tt_S tt_S_ok n_S rfl 0 (by decide) wd_168 rfl rfl hown hini (ty := .object "NumberTower$Text") (tt_S_ok 0 (by decide)) hk hF hl0 rfl rfl d kk
theorem pf_S_15 {x : Int32} (hk : k < N) (hF : F k = .inr (6, fs)) (hl0 : 1 < fs.length) (d : decode cc pc = .ok (.putfield 15, 3)) (kk : J l R nb "NumberTower$Spec" cc nL ret D jCl tys A X Qx ad N kc ks (pc + 3) lv st (va_up F k (.inr (6, fs.set 1 (.int x))))) : J l R nb "NumberTower$Spec" cc nL ret D jCl tys A X Qx ad N kc ks pc lv ((.int x) :: .ref (ad k) :: st) F :=
  J_put (C := "NumberTower$Spec") (T := F_S) (n := 11) in_S tt_S tt_S_ok n_S rfl 1 (by decide) wd_169 rfl rfl (ty := .int) (tt_S_ok 1 (by decide)) hk hF hl0 rfl rfl d kk
theorem cw_S_19 : Cond.methodLink "NumberTower$Spec" 19 y_S_parseAlign ∈ jALL ∧ Cond.instanceMethod y_S_parseAlign ∈ jALL ∧ Cond.selects "NumberTower$Spec" y_S_parseAlign y_S_parseAlign ∈ jALL ∧ Cond.code y_S_parseAlign b_S_parseAlign 1 (Option.none : Option Jvm.ClassFile.FieldType) ∈ jALL ∧ Cond.initialized y_S_parseAlign.cls ∈ jALL := ⟨wd_915, wd_917, ws_24, wd_918, wd_7⟩
theorem cw_S_22 : Cond.methodLink "NumberTower$Spec" 22 y_S_take ∈ jALL ∧ Cond.instanceMethod y_S_take ∈ jALL ∧ Cond.selects "NumberTower$Spec" y_S_take y_S_take ∈ jALL ∧ Cond.code y_S_take b_S_take 2 (Option.some Jvm.ClassFile.FieldType.boolean) ∈ jALL ∧ Cond.initialized y_S_take.cls ∈ jALL := ⟨wd_923, wd_925, ws_25, wd_926, wd_7⟩
theorem pf_S_26 {x : Int32} (hk : k < N) (hF : F k = .inr (6, fs)) (hl0 : 4 < fs.length) (d : decode cc pc = .ok (.putfield 26, 3)) (kk : J l R nb "NumberTower$Spec" cc nL ret D jCl tys A X Qx ad N kc ks (pc + 3) lv st (va_up F k (.inr (6, fs.set 4 (.int x))))) : J l R nb "NumberTower$Spec" cc nL ret D jCl tys A X Qx ad N kc ks pc lv ((.int x) :: .ref (ad k) :: st) F :=
  J_put (C := "NumberTower$Spec") (T := F_S) (n := 11) in_S tt_S tt_S_ok n_S rfl 4 (by decide) wd_174 rfl rfl (ty := .int) (tt_S_ok 4 (by decide)) hk hF hl0 rfl rfl d kk
theorem pf_S_29 (hk : k < N) (hF : F k = .inr (6, fs)) (hl0 : 5 < fs.length) (hb : narrow .boolean v = v ∧ fits .boolean v = true) (d : decode cc pc = .ok (.putfield 29, 3)) (kk : J l R nb "NumberTower$Spec" cc nL ret D jCl tys A X Qx ad N kc ks (pc + 3) lv st (va_up F k (.inr (6, fs.set 5 v)))) : J l R nb "NumberTower$Spec" cc nL ret D jCl tys A X Qx ad N kc ks pc lv (v :: .ref (ad k) :: st) F :=
  J_put (C := "NumberTower$Spec") (T := F_S) (n := 11) in_S tt_S tt_S_ok n_S rfl 5 (by decide) wd_176 rfl rfl (ty := .boolean) (tt_S_ok 5 (by decide)) hk hF hl0 hb.1 hb.2 d kk
theorem pf_S_33 (hk : k < N) (hF : F k = .inr (6, fs)) (hl0 : 6 < fs.length) (hb : narrow .boolean v = v ∧ fits .boolean v = true) (d : decode cc pc = .ok (.putfield 33, 3)) (kk : J l R nb "NumberTower$Spec" cc nL ret D jCl tys A X Qx ad N kc ks (pc + 3) lv st (va_up F k (.inr (6, fs.set 6 v)))) : J l R nb "NumberTower$Spec" cc nL ret D jCl tys A X Qx ad N kc ks pc lv (v :: .ref (ad k) :: st) F :=
  J_put (C := "NumberTower$Spec") (T := F_S) (n := 11) in_S tt_S tt_S_ok n_S rfl 6 (by decide) wd_178 rfl rfl (ty := .boolean) (tt_S_ok 6 (by decide)) hk hF hl0 hb.1 hb.2 d kk
theorem gf_S_9 (hk : k < N) (hF : F k = .inr (6, fs)) (hv : fs[0]? = some v) (d : decode cc pc = .ok (.getfield 9, 3)) (kk : J l R nb "NumberTower$Spec" cc nL ret D jCl tys A X Qx ad N kc ks (pc + 3) lv (v :: st) F) : J l R nb "NumberTower$Spec" cc nL ret D jCl tys A X Qx ad N kc ks pc lv (.ref (ad k) :: st) F :=
  J_get (C := "NumberTower$Spec") (T := F_S) (n := 11) in_S rfl 0 (by decide) wd_168 rfl hk hF hv d kk
theorem gf_S_15 (hk : k < N) (hF : F k = .inr (6, fs)) (hv : fs[1]? = some v) (d : decode cc pc = .ok (.getfield 15, 3)) (kk : J l R nb "NumberTower$Spec" cc nL ret D jCl tys A X Qx ad N kc ks (pc + 3) lv (v :: st) F) : J l R nb "NumberTower$Spec" cc nL ret D jCl tys A X Qx ad N kc ks pc lv (.ref (ad k) :: st) F :=
  J_get (C := "NumberTower$Spec") (T := F_S) (n := 11) in_S rfl 1 (by decide) wd_169 rfl hk hF hv d kk
theorem cw_S_36 : Cond.methodLink "NumberTower$Spec" 36 y_T_at ∈ jALL ∧ Cond.instanceMethod y_T_at ∈ jALL ∧ Cond.selects "NumberTower$Text" y_T_at y_T_at ∈ jALL ∧ Cond.code y_T_at b_T_at 2 (Option.some Jvm.ClassFile.FieldType.int) ∈ jALL ∧ Cond.initialized y_T_at.cls ∈ jALL := ⟨wd_919, wd_463, wd_464, wd_465, wd_4⟩
theorem cw_S_41 : Cond.methodLink "NumberTower$Spec" 41 y_S_parseNumber ∈ jALL ∧ Cond.instanceMethod y_S_parseNumber ∈ jALL ∧ Cond.selects "NumberTower$Spec" y_S_parseNumber y_S_parseNumber ∈ jALL ∧ Cond.code y_S_parseNumber b_S_parseNumber 3 (Option.some Jvm.ClassFile.FieldType.int) ∈ jALL ∧ Cond.initialized y_S_parseNumber.cls ∈ jALL := ⟨wd_927, wd_929, ws_26, wd_930, wd_7⟩
theorem cw_S_45 : Cond.methodLink "NumberTower$Spec" 45 y_JMath_max ∈ jALL ∧ Cond.static y_JMath_max ∈ jALL ∧ Cond.code y_JMath_max b_JMath_max 2 (Option.some Jvm.ClassFile.FieldType.int) ∈ jALL ∧ Cond.initialized y_JMath_max.cls ∈ jALL := ⟨wd_931, wd_442, wd_443, wd_18⟩
theorem pf_S_51 {x : Int32} (hk : k < N) (hF : F k = .inr (6, fs)) (hl0 : 7 < fs.length) (d : decode cc pc = .ok (.putfield 51, 3)) (kk : J l R nb "NumberTower$Spec" cc nL ret D jCl tys A X Qx ad N kc ks (pc + 3) lv st (va_up F k (.inr (6, fs.set 7 (.int x))))) : J l R nb "NumberTower$Spec" cc nL ret D jCl tys A X Qx ad N kc ks pc lv ((.int x) :: .ref (ad k) :: st) F :=
  J_put (C := "NumberTower$Spec") (T := F_S) (n := 11) in_S tt_S tt_S_ok n_S rfl 7 (by decide) wd_180 rfl rfl (ty := .int) (tt_S_ok 7 (by decide)) hk hF hl0 rfl rfl d kk
theorem pf_S_54 {x : Int32} (hk : k < N) (hF : F k = .inr (6, fs)) (hl0 : 8 < fs.length) (d : decode cc pc = .ok (.putfield 54, 3)) (kk : J l R nb "NumberTower$Spec" cc nL ret D jCl tys A X Qx ad N kc ks (pc + 3) lv st (va_up F k (.inr (6, fs.set 8 (.int x))))) : J l R nb "NumberTower$Spec" cc nL ret D jCl tys A X Qx ad N kc ks pc lv ((.int x) :: .ref (ad k) :: st) F :=
  J_put (C := "NumberTower$Spec") (T := F_S) (n := 11) in_S tt_S tt_S_ok n_S rfl 8 (by decide) wd_182 rfl rfl (ty := .int) (tt_S_ok 8 (by decide)) hk hF hl0 rfl rfl d kk
theorem pf_S_57 {x : Int32} (hk : k < N) (hF : F k = .inr (6, fs)) (hl0 : 9 < fs.length) (d : decode cc pc = .ok (.putfield 57, 3)) (kk : J l R nb "NumberTower$Spec" cc nL ret D jCl tys A X Qx ad N kc ks (pc + 3) lv st (va_up F k (.inr (6, fs.set 9 (.int x))))) : J l R nb "NumberTower$Spec" cc nL ret D jCl tys A X Qx ad N kc ks pc lv ((.int x) :: .ref (ad k) :: st) F :=
  J_put (C := "NumberTower$Spec") (T := F_S) (n := 11) in_S tt_S tt_S_ok n_S rfl 9 (by decide) wd_184 rfl rfl (ty := .int) (tt_S_ok 9 (by decide)) hk hF hl0 rfl rfl d kk
theorem gf_S_57 (hk : k < N) (hF : F k = .inr (6, fs)) (hv : fs[9]? = some v) (d : decode cc pc = .ok (.getfield 57, 3)) (kk : J l R nb "NumberTower$Spec" cc nL ret D jCl tys A X Qx ad N kc ks (pc + 3) lv (v :: st) F) : J l R nb "NumberTower$Spec" cc nL ret D jCl tys A X Qx ad N kc ks pc lv (.ref (ad k) :: st) F :=
  J_get (C := "NumberTower$Spec") (T := F_S) (n := 11) in_S rfl 9 (by decide) wd_184 rfl hk hF hv d kk
theorem cw_S_60 : Cond.methodLink "NumberTower$Spec" 60 y_S_parseType ∈ jALL ∧ Cond.instanceMethod y_S_parseType ∈ jALL ∧ Cond.selects "NumberTower$Spec" y_S_parseType y_S_parseType ∈ jALL ∧ Cond.code y_S_parseType b_S_parseType 1 (Option.none : Option Jvm.ClassFile.FieldType) ∈ jALL ∧ Cond.initialized y_S_parseType.cls ∈ jALL := ⟨wd_932, wd_934, ws_27, wd_935, wd_7⟩
theorem gf_S_51 (hk : k < N) (hF : F k = .inr (6, fs)) (hv : fs[7]? = some v) (d : decode cc pc = .ok (.getfield 51, 3)) (kk : J l R nb "NumberTower$Spec" cc nL ret D jCl tys A X Qx ad N kc ks (pc + 3) lv (v :: st) F) : J l R nb "NumberTower$Spec" cc nL ret D jCl tys A X Qx ad N kc ks pc lv (.ref (ad k) :: st) F :=
  J_get (C := "NumberTower$Spec") (T := F_S) (n := 11) in_S rfl 7 (by decide) wd_180 rfl hk hF hv d kk
theorem gf_S_63 (hk : k < N) (hF : F k = .inr (7, fs)) (hv : fs[1]? = some v) (d : decode cc pc = .ok (.getfield 63, 3)) (kk : J l R nb "NumberTower$Spec" cc nL ret D jCl tys A X Qx ad N kc ks (pc + 3) lv (v :: st) F) : J l R nb "NumberTower$Spec" cc nL ret D jCl tys A X Qx ad N kc ks pc lv (.ref (ad k) :: st) F :=
  J_get (C := "NumberTower$Text") (T := F_T) (n := 2) in_T rfl 1 (by decide) wd_91 rfl hk hF hv d kk
theorem pf_S_66 {x : Int32} (hk : k < N) (hF : F k = .inr (6, fs)) (hl0 : 2 < fs.length) (d : decode cc pc = .ok (.putfield 66, 3)) (kk : J l R nb "NumberTower$Spec" cc nL ret D jCl tys A X Qx ad N kc ks (pc + 3) lv st (va_up F k (.inr (6, fs.set 2 (.int x))))) : J l R nb "NumberTower$Spec" cc nL ret D jCl tys A X Qx ad N kc ks pc lv ((.int x) :: .ref (ad k) :: st) F :=
  J_put (C := "NumberTower$Spec") (T := F_S) (n := 11) in_S tt_S tt_S_ok n_S rfl 2 (by decide) wd_170 rfl rfl (ty := .int) (tt_S_ok 2 (by decide)) hk hF hl0 rfl rfl d kk
theorem pf_S_69 {x : Int32} (hk : k < N) (hF : F k = .inr (6, fs)) (hl0 : 3 < fs.length) (d : decode cc pc = .ok (.putfield 69, 3)) (kk : J l R nb "NumberTower$Spec" cc nL ret D jCl tys A X Qx ad N kc ks (pc + 3) lv st (va_up F k (.inr (6, fs.set 3 (.int x))))) : J l R nb "NumberTower$Spec" cc nL ret D jCl tys A X Qx ad N kc ks pc lv ((.int x) :: .ref (ad k) :: st) F :=
  J_put (C := "NumberTower$Spec") (T := F_S) (n := 11) in_S tt_S tt_S_ok n_S rfl 3 (by decide) wd_172 rfl rfl (ty := .int) (tt_S_ok 3 (by decide)) hk hF hl0 rfl rfl d kk
theorem cw_S_72 : Cond.methodLink "NumberTower$Spec" 72 y_S_isAlign ∈ jALL ∧ Cond.static y_S_isAlign ∈ jALL ∧ Cond.code y_S_isAlign b_S_isAlign 1 (Option.some Jvm.ClassFile.FieldType.boolean) ∈ jALL ∧ Cond.initialized y_S_isAlign.cls ∈ jALL := ⟨wd_920, wd_921, wd_922, wd_7⟩
theorem pf_S_75 {x : Int32} (hk : k < N) (hF : F k = .inr (6, fs)) (hl0 : 10 < fs.length) (d : decode cc pc = .ok (.putfield 75, 3)) (kk : J l R nb "NumberTower$Spec" cc nL ret D jCl tys A X Qx ad N kc ks (pc + 3) lv st (va_up F k (.inr (6, fs.set 10 (.int x))))) : J l R nb "NumberTower$Spec" cc nL ret D jCl tys A X Qx ad N kc ks pc lv ((.int x) :: .ref (ad k) :: st) F :=
  J_put (C := "NumberTower$Spec") (T := F_S) (n := 11) in_S tt_S tt_S_ok n_S rfl 10 (by decide) wd_186 rfl rfl (ty := .int) (tt_S_ok 10 (by decide)) hk hF hl0 rfl rfl d kk
theorem gf_S_75 (hk : k < N) (hF : F k = .inr (6, fs)) (hv : fs[10]? = some v) (d : decode cc pc = .ok (.getfield 75, 3)) (kk : J l R nb "NumberTower$Spec" cc nL ret D jCl tys A X Qx ad N kc ks (pc + 3) lv (v :: st) F) : J l R nb "NumberTower$Spec" cc nL ret D jCl tys A X Qx ad N kc ks pc lv (.ref (ad k) :: st) F :=
  J_get (C := "NumberTower$Spec") (T := F_S) (n := 11) in_S rfl 10 (by decide) wd_186 rfl hk hF hv d kk
theorem gf_S_54 (hk : k < N) (hF : F k = .inr (6, fs)) (hv : fs[8]? = some v) (d : decode cc pc = .ok (.getfield 54, 3)) (kk : J l R nb "NumberTower$Spec" cc nL ret D jCl tys A X Qx ad N kc ks (pc + 3) lv (v :: st) F) : J l R nb "NumberTower$Spec" cc nL ret D jCl tys A X Qx ad N kc ks pc lv (.ref (ad k) :: st) F :=
  J_get (C := "NumberTower$Spec") (T := F_S) (n := 11) in_S rfl 8 (by decide) wd_182 rfl hk hF hv d kk
theorem pf_T_11 {x : Nat} (hk : k < N) (hF : F k = .inr (7, fs)) (hl0 : 0 < fs.length) (hown : "NumberTower$Text" = (F_T 0).1) (hini : ∀ s me, X s me → me.name = "<init>") (d : decode cc pc = .ok (.putfield 11, 3)) (kk : J l R nb "NumberTower$Text" cc nL ret D jCl tys A X Qx ad N kc ks (pc + 3) lv st (va_up F k (.inr (7, fs.set 0 (.ref x))))) : J l R nb "NumberTower$Text" cc nL ret D jCl tys A X Qx ad N kc ks pc lv ((.ref x) :: .ref (ad k) :: st) F :=
  J_putF (C := "NumberTower$Text") (T := F_T) (n := 2) in_T tt_T tt_T_ok n_T rfl 0 (by decide) wd_88 rfl rfl hown hini (ty := .array .char) (tt_T_ok 0 (by decide)) hk hF hl0 rfl rfl d kk
theorem pf_T_15 {x : Int32} (hk : k < N) (hF : F k = .inr (7, fs)) (hl0 : 1 < fs.length) (d : decode cc pc = .ok (.putfield 15, 3)) (kk : J l R nb "NumberTower$Text" cc nL ret D jCl tys A X Qx ad N kc ks (pc + 3) lv st (va_up F k (.inr (7, fs.set 1 (.int x))))) : J l R nb "NumberTower$Text" cc nL ret D jCl tys A X Qx ad N kc ks pc lv ((.int x) :: .ref (ad k) :: st) F :=
  J_put (C := "NumberTower$Text") (T := F_T) (n := 2) in_T tt_T tt_T_ok n_T rfl 1 (by decide) wd_89 rfl rfl (ty := .int) (tt_T_ok 1 (by decide)) hk hF hl0 rfl rfl d kk
theorem gf_T_15 (hk : k < N) (hF : F k = .inr (7, fs)) (hv : fs[1]? = some v) (d : decode cc pc = .ok (.getfield 15, 3)) (kk : J l R nb "NumberTower$Text" cc nL ret D jCl tys A X Qx ad N kc ks (pc + 3) lv (v :: st) F) : J l R nb "NumberTower$Text" cc nL ret D jCl tys A X Qx ad N kc ks pc lv (.ref (ad k) :: st) F :=
  J_get (C := "NumberTower$Text") (T := F_T) (n := 2) in_T rfl 1 (by decide) wd_89 rfl hk hF hv d kk
theorem gf_T_11 (hk : k < N) (hF : F k = .inr (7, fs)) (hv : fs[0]? = some v) (d : decode cc pc = .ok (.getfield 11, 3)) (kk : J l R nb "NumberTower$Text" cc nL ret D jCl tys A X Qx ad N kc ks (pc + 3) lv (v :: st) F) : J l R nb "NumberTower$Text" cc nL ret D jCl tys A X Qx ad N kc ks pc lv (.ref (ad k) :: st) F :=
  J_get (C := "NumberTower$Text") (T := F_T) (n := 2) in_T rfl 0 (by decide) wd_88 rfl hk hF hv d kk
theorem cw_T_19 : Cond.methodLink "NumberTower$Text" 19 y_T_put ∈ jALL ∧ Cond.instanceMethod y_T_put ∈ jALL ∧ Cond.selects "NumberTower$Text" y_T_put y_T_put ∈ jALL ∧ Cond.code y_T_put b_T_put 2 (Option.none : Option Jvm.ClassFile.FieldType) ∈ jALL ∧ Cond.initialized y_T_put.cls ∈ jALL := ⟨wd_890, wd_274, wd_275, wd_276, wd_4⟩
theorem cw_T_23 : Cond.methodLink "NumberTower$Text" 23 y_T_at ∈ jALL ∧ Cond.instanceMethod y_T_at ∈ jALL ∧ Cond.selects "NumberTower$Text" y_T_at y_T_at ∈ jALL ∧ Cond.code y_T_at b_T_at 2 (Option.some Jvm.ClassFile.FieldType.int) ∈ jALL ∧ Cond.initialized y_T_at.cls ∈ jALL := ⟨wd_880, wd_463, wd_464, wd_465, wd_4⟩
theorem cw_T_27 : Cond.methodLink "NumberTower$Text" 27 y_JMath_min ∈ jALL ∧ Cond.static y_JMath_min ∈ jALL ∧ Cond.code y_JMath_min b_JMath_min 2 (Option.some Jvm.ClassFile.FieldType.int) ∈ jALL ∧ Cond.initialized y_JMath_min.cls ∈ jALL := ⟨wd_875, wd_362, wd_363, wd_18⟩
theorem cw_L_7 : Cond.methodLink "NumberTowerLaw" 7 y_X_read ∈ jALL ∧ Cond.instanceMethod y_X_read ∈ jALL ∧ Cond.selects "NumberTower" y_X_read y_X_read ∈ jALL ∧ Cond.code y_X_read b_X_read 3 (Option.some Jvm.ClassFile.FieldType.int) ∈ jALL ∧ Cond.initialized y_X_read.cls ∈ jALL := ⟨wd_495, wd_496, wd_497, wd_498, wd_1⟩
theorem cw_L_19 : Cond.methodLink "NumberTowerLaw" 19 y_X_combine ∈ jALL ∧ Cond.instanceMethod y_X_combine ∈ jALL ∧ Cond.selects "NumberTower" y_X_combine y_X_combine ∈ jALL ∧ Cond.code y_X_combine b_X_combine 7 (Option.some Jvm.ClassFile.FieldType.int) ∈ jALL ∧ Cond.initialized y_X_combine.cls ∈ jALL := ⟨wd_659, wd_660, wd_661, wd_662, wd_1⟩
theorem cw_L_23 : Cond.methodLink "NumberTowerLaw" 23 y_X_power ∈ jALL ∧ Cond.instanceMethod y_X_power ∈ jALL ∧ Cond.selects "NumberTower" y_X_power y_X_power ∈ jALL ∧ Cond.code y_X_power b_X_power 9 (Option.some Jvm.ClassFile.FieldType.int) ∈ jALL ∧ Cond.initialized y_X_power.cls ∈ jALL := ⟨wd_735, wd_736, wd_737, wd_738, wd_1⟩
theorem cw_L_26 : Cond.methodLink "NumberTowerLaw" 26 y_X_turn ∈ jALL ∧ Cond.instanceMethod y_X_turn ∈ jALL ∧ Cond.selects "NumberTower" y_X_turn y_X_turn ∈ jALL ∧ Cond.code y_X_turn b_X_turn 5 (Option.some Jvm.ClassFile.FieldType.int) ∈ jALL ∧ Cond.initialized y_X_turn.cls ∈ jALL := ⟨wd_755, wd_756, wd_757, wd_758, wd_1⟩
theorem cw_L_30 : Cond.methodLink "NumberTowerLaw" 30 y_X_round ∈ jALL ∧ Cond.instanceMethod y_X_round ∈ jALL ∧ Cond.selects "NumberTower" y_X_round y_X_round ∈ jALL ∧ Cond.code y_X_round b_X_round 5 (Option.some Jvm.ClassFile.FieldType.int) ∈ jALL ∧ Cond.initialized y_X_round.cls ∈ jALL := ⟨wd_767, wd_768, wd_769, wd_770, wd_1⟩
theorem cw_L_33 : Cond.methodLink "NumberTowerLaw" 33 y_X_sum ∈ jALL ∧ Cond.instanceMethod y_X_sum ∈ jALL ∧ Cond.selects "NumberTower" y_X_sum y_X_sum ∈ jALL ∧ Cond.code y_X_sum b_X_sum 4 (Option.some Jvm.ClassFile.FieldType.int) ∈ jALL ∧ Cond.initialized y_X_sum.cls ∈ jALL := ⟨wd_789, wd_790, wd_791, wd_792, wd_1⟩
theorem cw_L_37 : Cond.methodLink "NumberTowerLaw" 37 y_X_show ∈ jALL ∧ Cond.instanceMethod y_X_show ∈ jALL ∧ Cond.selects "NumberTower" y_X_show y_X_show ∈ jALL ∧ Cond.code y_X_show b_X_show 3 (Option.some Jvm.ClassFile.FieldType.int) ∈ jALL ∧ Cond.initialized y_X_show.cls ∈ jALL := ⟨wd_813, wd_814, wd_815, wd_816, wd_1⟩
theorem cw_L_40 : Cond.methodLink "NumberTowerLaw" 40 y_X_format ∈ jALL ∧ Cond.instanceMethod y_X_format ∈ jALL ∧ Cond.selects "NumberTower" y_X_format y_X_format ∈ jALL ∧ Cond.code y_X_format b_X_format 4 (Option.some Jvm.ClassFile.FieldType.int) ∈ jALL ∧ Cond.initialized y_X_format.cls ∈ jALL := ⟨wd_907, wd_908, wd_909, wd_910, wd_1⟩
theorem cw_L_43 : Cond.methodLink "NumberTowerLaw" 43 y_X_init ∈ jALL ∧ Cond.instanceMethod y_X_init ∈ jALL ∧ Cond.code y_X_init b_X_init 2 (Option.none : Option Jvm.ClassFile.FieldType) ∈ jALL ∧ Cond.initialized y_X_init.cls ∈ jALL := ⟨wd_22, wd_23, wd_24, wd_1⟩
theorem cw_L_46 : Cond.methodLink "NumberTowerLaw" 46 y_M_init ∈ jALL ∧ Cond.instanceMethod y_M_init ∈ jALL ∧ Cond.code y_M_init b_M_init 1 (Option.none : Option Jvm.ClassFile.FieldType) ∈ jALL ∧ Cond.initialized y_M_init.cls ∈ jALL := ⟨wd_981, wd_982, wd_983, wd_9⟩
theorem cw_L_47 : Cond.methodLink "NumberTowerLaw" 47 y_X_write ∈ jALL ∧ Cond.instanceMethod y_X_write ∈ jALL ∧ Cond.selects "NumberTower" y_X_write y_X_write ∈ jALL ∧ Cond.code y_X_write b_X_write 5 (Option.some Jvm.ClassFile.FieldType.boolean) ∈ jALL ∧ Cond.initialized y_X_write.cls ∈ jALL := ⟨wd_269, wd_270, wd_271, wd_272, wd_1⟩
theorem cw_L_51 : Cond.methodLink "NumberTowerLaw" 51 y_M_write ∈ jALL ∧ Cond.instanceMethod y_M_write ∈ jALL ∧ Cond.selects "NumberTowerModel" y_M_write y_M_write ∈ jALL ∧ Cond.code y_M_write b_M_write 5 (Option.some Jvm.ClassFile.FieldType.boolean) ∈ jALL ∧ Cond.initialized y_M_write.cls ∈ jALL := ⟨wd_1313, wd_1314, wd_1315, wd_1316, wd_9⟩
theorem cw_L_52 : Cond.methodLink "NumberTowerLaw" 52 y_X_wipe ∈ jALL ∧ Cond.instanceMethod y_X_wipe ∈ jALL ∧ Cond.selects "NumberTower" y_X_wipe y_X_wipe ∈ jALL ∧ Cond.code y_X_wipe b_X_wipe 1 (Option.none : Option Jvm.ClassFile.FieldType) ∈ jALL ∧ Cond.initialized y_X_wipe.cls ∈ jALL := ⟨wd_277, wd_278, wd_279, wd_280, wd_1⟩
theorem cw_L_55 : Cond.methodLink "NumberTowerLaw" 55 y_M_wipe ∈ jALL ∧ Cond.instanceMethod y_M_wipe ∈ jALL ∧ Cond.selects "NumberTowerModel" y_M_wipe y_M_wipe ∈ jALL ∧ Cond.code y_M_wipe b_M_wipe 1 (Option.none : Option Jvm.ClassFile.FieldType) ∈ jALL ∧ Cond.initialized y_M_wipe.cls ∈ jALL := ⟨wd_1317, wd_1318, wd_1319, wd_1320, wd_9⟩
theorem cw_L_61 : Cond.methodLink "NumberTowerLaw" 61 y_M_read ∈ jALL ∧ Cond.instanceMethod y_M_read ∈ jALL ∧ Cond.selects "NumberTowerModel" y_M_read y_M_read ∈ jALL ∧ Cond.code y_M_read b_M_read 3 (Option.some Jvm.ClassFile.FieldType.int) ∈ jALL ∧ Cond.initialized y_M_read.cls ∈ jALL := ⟨wd_1321, wd_1322, wd_1323, wd_1324, wd_9⟩
theorem cw_L_62 : Cond.methodLink "NumberTowerLaw" 62 y_M_thrown ∈ jALL ∧ Cond.instanceMethod y_M_thrown ∈ jALL ∧ Cond.selects "NumberTowerModel" y_M_thrown y_M_thrown ∈ jALL ∧ Cond.code y_M_thrown b_M_thrown 1 (Option.some Jvm.ClassFile.FieldType.int) ∈ jALL ∧ Cond.initialized y_M_thrown.cls ∈ jALL := ⟨wd_1078, wd_1079, wd_1080, wd_1081, wd_9⟩
theorem cw_L_68 : Cond.methodLink "NumberTowerLaw" 68 y_X_whole ∈ jALL ∧ Cond.instanceMethod y_X_whole ∈ jALL ∧ Cond.selects "NumberTower" y_X_whole y_X_whole ∈ jALL ∧ Cond.code y_X_whole b_X_whole 4 (Option.some Jvm.ClassFile.FieldType.boolean) ∈ jALL ∧ Cond.initialized y_X_whole.cls ∈ jALL := ⟨wd_285, wd_286, wd_287, wd_288, wd_1⟩
theorem cw_L_72 : Cond.methodLink "NumberTowerLaw" 72 y_M_whole ∈ jALL ∧ Cond.instanceMethod y_M_whole ∈ jALL ∧ Cond.selects "NumberTowerModel" y_M_whole y_M_whole ∈ jALL ∧ Cond.code y_M_whole b_M_whole 4 (Option.some Jvm.ClassFile.FieldType.boolean) ∈ jALL ∧ Cond.initialized y_M_whole.cls ∈ jALL := ⟨wd_1082, wd_1083, wd_1084, wd_1085, wd_9⟩
theorem cw_L_75 : Cond.methodLink "NumberTowerLaw" 75 y_X_real ∈ jALL ∧ Cond.instanceMethod y_X_real ∈ jALL ∧ Cond.selects "NumberTower" y_X_real y_X_real ∈ jALL ∧ Cond.code y_X_real b_X_real 9 (Option.some Jvm.ClassFile.FieldType.boolean) ∈ jALL ∧ Cond.initialized y_X_real.cls ∈ jALL := ⟨wd_330, wd_331, wd_332, wd_333, wd_1⟩
theorem cw_L_79 : Cond.methodLink "NumberTowerLaw" 79 y_M_real ∈ jALL ∧ Cond.instanceMethod y_M_real ∈ jALL ∧ Cond.selects "NumberTowerModel" y_M_real y_M_real ∈ jALL ∧ Cond.code y_M_real b_M_real 4 (Option.some Jvm.ClassFile.FieldType.boolean) ∈ jALL ∧ Cond.initialized y_M_real.cls ∈ jALL := ⟨wd_1175, wd_1176, wd_1177, wd_1178, wd_9⟩
theorem cw_L_83 : Cond.methodLink "NumberTowerLaw" 83 y_M_combine ∈ jALL ∧ Cond.instanceMethod y_M_combine ∈ jALL ∧ Cond.selects "NumberTowerModel" y_M_combine y_M_combine ∈ jALL ∧ Cond.code y_M_combine b_M_combine 6 (Option.some Jvm.ClassFile.FieldType.int) ∈ jALL ∧ Cond.initialized y_M_combine.cls ∈ jALL := ⟨wd_1179, wd_1180, wd_1181, wd_1182, wd_9⟩
theorem cw_L_86 : Cond.methodLink "NumberTowerLaw" 86 y_M_power ∈ jALL ∧ Cond.instanceMethod y_M_power ∈ jALL ∧ Cond.selects "NumberTowerModel" y_M_power y_M_power ∈ jALL ∧ Cond.code y_M_power b_M_power 8 (Option.some Jvm.ClassFile.FieldType.int) ∈ jALL ∧ Cond.initialized y_M_power.cls ∈ jALL := ⟨wd_1283, wd_1284, wd_1285, wd_1286, wd_9⟩
theorem cw_L_90 : Cond.methodLink "NumberTowerLaw" 90 y_M_turn ∈ jALL ∧ Cond.instanceMethod y_M_turn ∈ jALL ∧ Cond.selects "NumberTowerModel" y_M_turn y_M_turn ∈ jALL ∧ Cond.code y_M_turn b_M_turn 4 (Option.some Jvm.ClassFile.FieldType.int) ∈ jALL ∧ Cond.initialized y_M_turn.cls ∈ jALL := ⟨wd_1255, wd_1256, wd_1257, wd_1258, wd_9⟩
theorem cw_L_93 : Cond.methodLink "NumberTowerLaw" 93 y_M_round ∈ jALL ∧ Cond.instanceMethod y_M_round ∈ jALL ∧ Cond.selects "NumberTowerModel" y_M_round y_M_round ∈ jALL ∧ Cond.code y_M_round b_M_round 4 (Option.some Jvm.ClassFile.FieldType.int) ∈ jALL ∧ Cond.initialized y_M_round.cls ∈ jALL := ⟨wd_1259, wd_1260, wd_1261, wd_1262, wd_9⟩
theorem cw_L_97 : Cond.methodLink "NumberTowerLaw" 97 y_M_sum ∈ jALL ∧ Cond.instanceMethod y_M_sum ∈ jALL ∧ Cond.selects "NumberTowerModel" y_M_sum y_M_sum ∈ jALL ∧ Cond.code y_M_sum b_M_sum 6 (Option.some Jvm.ClassFile.FieldType.int) ∈ jALL ∧ Cond.initialized y_M_sum.cls ∈ jALL := ⟨wd_1275, wd_1276, wd_1277, wd_1278, wd_9⟩
theorem cw_L_98 : Cond.methodLink "NumberTowerLaw" 98 y_X_compare ∈ jALL ∧ Cond.instanceMethod y_X_compare ∈ jALL ∧ Cond.selects "NumberTower" y_X_compare y_X_compare ∈ jALL ∧ Cond.code y_X_compare b_X_compare 5 (Option.some Jvm.ClassFile.FieldType.int) ∈ jALL ∧ Cond.initialized y_X_compare.cls ∈ jALL := ⟨wd_364, wd_365, wd_366, wd_367, wd_1⟩
theorem cw_L_101 : Cond.methodLink "NumberTowerLaw" 101 y_M_compare ∈ jALL ∧ Cond.instanceMethod y_M_compare ∈ jALL ∧ Cond.selects "NumberTowerModel" y_M_compare y_M_compare ∈ jALL ∧ Cond.code y_M_compare b_M_compare 3 (Option.some Jvm.ClassFile.FieldType.int) ∈ jALL ∧ Cond.initialized y_M_compare.cls ∈ jALL := ⟨wd_1279, wd_1280, wd_1281, wd_1282, wd_9⟩
theorem cw_L_102 : Cond.methodLink "NumberTowerLaw" 102 y_X_hash ∈ jALL ∧ Cond.instanceMethod y_X_hash ∈ jALL ∧ Cond.selects "NumberTower" y_X_hash y_X_hash ∈ jALL ∧ Cond.code y_X_hash b_X_hash 3 (Option.some Jvm.ClassFile.FieldType.long) ∈ jALL ∧ Cond.initialized y_X_hash.cls ∈ jALL := ⟨wd_388, wd_389, wd_390, wd_391, wd_1⟩
theorem cw_L_106 : Cond.methodLink "NumberTowerLaw" 106 y_M_hash ∈ jALL ∧ Cond.instanceMethod y_M_hash ∈ jALL ∧ Cond.selects "NumberTowerModel" y_M_hash y_M_hash ∈ jALL ∧ Cond.code y_M_hash b_M_hash 10 (Option.some Jvm.ClassFile.FieldType.long) ∈ jALL ∧ Cond.initialized y_M_hash.cls ∈ jALL := ⟨wd_1295, wd_1296, wd_1297, wd_1298, wd_9⟩
theorem cw_L_109 : Cond.methodLink "NumberTowerLaw" 109 y_M_show ∈ jALL ∧ Cond.instanceMethod y_M_show ∈ jALL ∧ Cond.selects "NumberTowerModel" y_M_show y_M_show ∈ jALL ∧ Cond.code y_M_show b_M_show 2 (Option.some Jvm.ClassFile.FieldType.int) ∈ jALL ∧ Cond.initialized y_M_show.cls ∈ jALL := ⟨wd_1344, wd_1345, wd_1346, wd_1347, wd_9⟩
theorem cw_L_112 : Cond.methodLink "NumberTowerLaw" 112 y_M_format ∈ jALL ∧ Cond.instanceMethod y_M_format ∈ jALL ∧ Cond.selects "NumberTowerModel" y_M_format y_M_format ∈ jALL ∧ Cond.code y_M_format b_M_format 8 (Option.some Jvm.ClassFile.FieldType.int) ∈ jALL ∧ Cond.initialized y_M_format.cls ∈ jALL := ⟨wd_1401, wd_1402, wd_1403, wd_1404, wd_9⟩
theorem cw_L_113 : Cond.methodLink "NumberTowerLaw" 113 y_X_letter ∈ jALL ∧ Cond.instanceMethod y_X_letter ∈ jALL ∧ Cond.selects "NumberTower" y_X_letter y_X_letter ∈ jALL ∧ Cond.code y_X_letter b_X_letter 2 (Option.some Jvm.ClassFile.FieldType.int) ∈ jALL ∧ Cond.initialized y_X_letter.cls ∈ jALL := ⟨wd_458, wd_459, wd_460, wd_461, wd_1⟩
theorem cw_L_116 : Cond.methodLink "NumberTowerLaw" 116 y_M_letter ∈ jALL ∧ Cond.instanceMethod y_M_letter ∈ jALL ∧ Cond.selects "NumberTowerModel" y_M_letter y_M_letter ∈ jALL ∧ Cond.code y_M_letter b_M_letter 2 (Option.some Jvm.ClassFile.FieldType.int) ∈ jALL ∧ Cond.initialized y_M_letter.cls ∈ jALL := ⟨wd_1448, wd_1449, wd_1450, wd_1451, wd_9⟩
theorem cw_L_117 : Cond.methodLink "NumberTowerLaw" 117 y_X_kind ∈ jALL ∧ Cond.instanceMethod y_X_kind ∈ jALL ∧ Cond.selects "NumberTower" y_X_kind y_X_kind ∈ jALL ∧ Cond.code y_X_kind b_X_kind 2 (Option.some Jvm.ClassFile.FieldType.int) ∈ jALL ∧ Cond.initialized y_X_kind.cls ∈ jALL := ⟨wd_466, wd_467, wd_468, wd_469, wd_1⟩
theorem cw_L_120 : Cond.methodLink "NumberTowerLaw" 120 y_M_kind ∈ jALL ∧ Cond.instanceMethod y_M_kind ∈ jALL ∧ Cond.selects "NumberTowerModel" y_M_kind y_M_kind ∈ jALL ∧ Cond.code y_M_kind b_M_kind 2 (Option.some Jvm.ClassFile.FieldType.int) ∈ jALL ∧ Cond.initialized y_M_kind.cls ∈ jALL := ⟨wd_1452, wd_1453, wd_1454, wd_1455, wd_9⟩
theorem cw_L_121 : Cond.methodLink "NumberTowerLaw" 121 y_X_value ∈ jALL ∧ Cond.instanceMethod y_X_value ∈ jALL ∧ Cond.selects "NumberTower" y_X_value y_X_value ∈ jALL ∧ Cond.code y_X_value b_X_value 3 (Option.some Jvm.ClassFile.FieldType.double) ∈ jALL ∧ Cond.initialized y_X_value.cls ∈ jALL := ⟨wd_470, wd_471, wd_472, wd_473, wd_1⟩
theorem cw_L_125 : Cond.methodLink "NumberTowerLaw" 125 y_M_value ∈ jALL ∧ Cond.instanceMethod y_M_value ∈ jALL ∧ Cond.selects "NumberTowerModel" y_M_value y_M_value ∈ jALL ∧ Cond.code y_M_value b_M_value 2 (Option.some Jvm.ClassFile.FieldType.double) ∈ jALL ∧ Cond.initialized y_M_value.cls ∈ jALL := ⟨wd_1456, wd_1457, wd_1458, wd_1459, wd_9⟩
theorem cw_L_126 : Cond.methodLink "NumberTowerLaw" 126 y_X_part ∈ jALL ∧ Cond.instanceMethod y_X_part ∈ jALL ∧ Cond.selects "NumberTower" y_X_part y_X_part ∈ jALL ∧ Cond.code y_X_part b_X_part 5 (Option.some Jvm.ClassFile.FieldType.long) ∈ jALL ∧ Cond.initialized y_X_part.cls ∈ jALL := ⟨wd_483, wd_484, wd_485, wd_486, wd_1⟩
theorem cw_L_130 : Cond.methodLink "NumberTowerLaw" 130 y_M_part ∈ jALL ∧ Cond.instanceMethod y_M_part ∈ jALL ∧ Cond.selects "NumberTowerModel" y_M_part y_M_part ∈ jALL ∧ Cond.code y_M_part b_M_part 4 (Option.some Jvm.ClassFile.FieldType.long) ∈ jALL ∧ Cond.initialized y_M_part.cls ∈ jALL := ⟨wd_1460, wd_1461, wd_1462, wd_1463, wd_9⟩
theorem cw_JAE_7 : Cond.methodLink "java/lang/ArithmeticException" 7 y_JRuntime_init ∈ jALL ∧ Cond.instanceMethod y_JRuntime_init ∈ jALL ∧ Cond.code y_JRuntime_init b_JRuntime_init 2 (Option.none : Option Jvm.ClassFile.FieldType) ∈ jALL ∧ Cond.initialized y_JRuntime_init.cls ∈ jALL := ⟨wd_607, wd_571, wd_572, wd_14⟩
theorem cw_JException_7 : Cond.methodLink "java/lang/Exception" 7 y_JThrowable_init ∈ jALL ∧ Cond.instanceMethod y_JThrowable_init ∈ jALL ∧ Cond.code y_JThrowable_init b_JThrowable_init 2 (Option.none : Option Jvm.ClassFile.FieldType) ∈ jALL ∧ Cond.initialized y_JThrowable_init.cls ∈ jALL := ⟨wd_576, wd_577, wd_578, wd_12⟩
theorem cw_JIAE_7 : Cond.methodLink "java/lang/IllegalArgumentException" 7 y_JRuntime_init ∈ jALL ∧ Cond.instanceMethod y_JRuntime_init ∈ jALL ∧ Cond.code y_JRuntime_init b_JRuntime_init 2 (Option.none : Option Jvm.ClassFile.FieldType) ∈ jALL ∧ Cond.initialized y_JRuntime_init.cls ∈ jALL := ⟨wd_570, wd_571, wd_572, wd_14⟩
theorem cw_JISE_7 : Cond.methodLink "java/lang/IllegalStateException" 7 y_JRuntime_init ∈ jALL ∧ Cond.instanceMethod y_JRuntime_init ∈ jALL ∧ Cond.code y_JRuntime_init b_JRuntime_init 2 (Option.none : Option Jvm.ClassFile.FieldType) ∈ jALL ∧ Cond.initialized y_JRuntime_init.cls ∈ jALL := ⟨wd_627, wd_571, wd_572, wd_14⟩
theorem cw_JRuntime_7 : Cond.methodLink "java/lang/RuntimeException" 7 y_JException_init ∈ jALL ∧ Cond.instanceMethod y_JException_init ∈ jALL ∧ Cond.code y_JException_init b_JException_init 2 (Option.none : Option Jvm.ClassFile.FieldType) ∈ jALL ∧ Cond.initialized y_JException_init.cls ∈ jALL := ⟨wd_573, wd_574, wd_575, wd_13⟩
theorem pn_X_init : (parseMethodDescriptor y_X_init.desc).map (fun d => d.parameters.length) = some 0 := by decide +kernel
theorem nh_X_init : y_X_init.cls ≠ "java/lang/invoke/MethodHandle" ∧ y_X_init.cls ≠ "java/lang/invoke/VarHandle" := ⟨by decide, by decide⟩
theorem pn_X_combine : (parseMethodDescriptor y_X_combine.desc).map (fun d => d.parameters.length) = some 4 := by decide +kernel
theorem nh_X_combine : y_X_combine.cls ≠ "java/lang/invoke/MethodHandle" ∧ y_X_combine.cls ≠ "java/lang/invoke/VarHandle" := ⟨by decide, by decide⟩
theorem pn_X_compare : (parseMethodDescriptor y_X_compare.desc).map (fun d => d.parameters.length) = some 2 := by decide +kernel
theorem nh_X_compare : y_X_compare.cls ≠ "java/lang/invoke/MethodHandle" ∧ y_X_compare.cls ≠ "java/lang/invoke/VarHandle" := ⟨by decide, by decide⟩
theorem pn_X_format : (parseMethodDescriptor y_X_format.desc).map (fun d => d.parameters.length) = some 1 := by decide +kernel
theorem nh_X_format : y_X_format.cls ≠ "java/lang/invoke/MethodHandle" ∧ y_X_format.cls ≠ "java/lang/invoke/VarHandle" := ⟨by decide, by decide⟩
theorem pn_X_hash : (parseMethodDescriptor y_X_hash.desc).map (fun d => d.parameters.length) = some 1 := by decide +kernel
theorem nh_X_hash : y_X_hash.cls ≠ "java/lang/invoke/MethodHandle" ∧ y_X_hash.cls ≠ "java/lang/invoke/VarHandle" := ⟨by decide, by decide⟩
theorem pn_X_holdsRatio : (parseMethodDescriptor y_X_holdsRatio.desc).map (fun d => d.parameters.length) = some 1 := by decide +kernel
theorem nh_X_holdsRatio : y_X_holdsRatio.cls ≠ "java/lang/invoke/MethodHandle" ∧ y_X_holdsRatio.cls ≠ "java/lang/invoke/VarHandle" := ⟨by decide, by decide⟩
theorem pn_X_isRegister : (parseMethodDescriptor y_X_isRegister.desc).map (fun d => d.parameters.length) = some 1 := by decide +kernel
theorem nh_X_isRegister : y_X_isRegister.cls ≠ "java/lang/invoke/MethodHandle" ∧ y_X_isRegister.cls ≠ "java/lang/invoke/VarHandle" := ⟨by decide, by decide⟩
theorem pn_X_keep : (parseMethodDescriptor y_X_keep.desc).map (fun d => d.parameters.length) = some 1 := by decide +kernel
theorem nh_X_keep : y_X_keep.cls ≠ "java/lang/invoke/MethodHandle" ∧ y_X_keep.cls ≠ "java/lang/invoke/VarHandle" := ⟨by decide, by decide⟩
theorem pn_X_kind : (parseMethodDescriptor y_X_kind.desc).map (fun d => d.parameters.length) = some 1 := by decide +kernel
theorem nh_X_kind : y_X_kind.cls ≠ "java/lang/invoke/MethodHandle" ∧ y_X_kind.cls ≠ "java/lang/invoke/VarHandle" := ⟨by decide, by decide⟩
theorem pn_X_letter : (parseMethodDescriptor y_X_letter.desc).map (fun d => d.parameters.length) = some 1 := by decide +kernel
theorem nh_X_letter : y_X_letter.cls ≠ "java/lang/invoke/MethodHandle" ∧ y_X_letter.cls ≠ "java/lang/invoke/VarHandle" := ⟨by decide, by decide⟩
theorem pn_X_numberAt : (parseMethodDescriptor y_X_numberAt.desc).map (fun d => d.parameters.length) = some 1 := by decide +kernel
theorem nh_X_numberAt : y_X_numberAt.cls ≠ "java/lang/invoke/MethodHandle" ∧ y_X_numberAt.cls ≠ "java/lang/invoke/VarHandle" := ⟨by decide, by decide⟩
theorem pn_X_part : (parseMethodDescriptor y_X_part.desc).map (fun d => d.parameters.length) = some 3 := by decide +kernel
theorem nh_X_part : y_X_part.cls ≠ "java/lang/invoke/MethodHandle" ∧ y_X_part.cls ≠ "java/lang/invoke/VarHandle" := ⟨by decide, by decide⟩
theorem pn_X_power : (parseMethodDescriptor y_X_power.desc).map (fun d => d.parameters.length) = some 4 := by decide +kernel
theorem nh_X_power : y_X_power.cls ≠ "java/lang/invoke/MethodHandle" ∧ y_X_power.cls ≠ "java/lang/invoke/VarHandle" := ⟨by decide, by decide⟩
theorem pn_X_read : (parseMethodDescriptor y_X_read.desc).map (fun d => d.parameters.length) = some 1 := by decide +kernel
theorem nh_X_read : y_X_read.cls ≠ "java/lang/invoke/MethodHandle" ∧ y_X_read.cls ≠ "java/lang/invoke/VarHandle" := ⟨by decide, by decide⟩
theorem pn_X_real : (parseMethodDescriptor y_X_real.desc).map (fun d => d.parameters.length) = some 2 := by decide +kernel
theorem nh_X_real : y_X_real.cls ≠ "java/lang/invoke/MethodHandle" ∧ y_X_real.cls ≠ "java/lang/invoke/VarHandle" := ⟨by decide, by decide⟩
theorem pn_X_round : (parseMethodDescriptor y_X_round.desc).map (fun d => d.parameters.length) = some 3 := by decide +kernel
theorem nh_X_round : y_X_round.cls ≠ "java/lang/invoke/MethodHandle" ∧ y_X_round.cls ≠ "java/lang/invoke/VarHandle" := ⟨by decide, by decide⟩
theorem pn_X_show : (parseMethodDescriptor y_X_show.desc).map (fun d => d.parameters.length) = some 1 := by decide +kernel
theorem nh_X_show : y_X_show.cls ≠ "java/lang/invoke/MethodHandle" ∧ y_X_show.cls ≠ "java/lang/invoke/VarHandle" := ⟨by decide, by decide⟩
theorem pn_X_sum : (parseMethodDescriptor y_X_sum.desc).map (fun d => d.parameters.length) = some 2 := by decide +kernel
theorem nh_X_sum : y_X_sum.cls ≠ "java/lang/invoke/MethodHandle" ∧ y_X_sum.cls ≠ "java/lang/invoke/VarHandle" := ⟨by decide, by decide⟩
theorem pn_X_takes : (parseMethodDescriptor y_X_takes.desc).map (fun d => d.parameters.length) = some 3 := by decide +kernel
theorem nh_X_takes : y_X_takes.cls ≠ "java/lang/invoke/MethodHandle" ∧ y_X_takes.cls ≠ "java/lang/invoke/VarHandle" := ⟨by decide, by decide⟩
theorem pn_X_turn : (parseMethodDescriptor y_X_turn.desc).map (fun d => d.parameters.length) = some 3 := by decide +kernel
theorem nh_X_turn : y_X_turn.cls ≠ "java/lang/invoke/MethodHandle" ∧ y_X_turn.cls ≠ "java/lang/invoke/VarHandle" := ⟨by decide, by decide⟩
theorem pn_X_value : (parseMethodDescriptor y_X_value.desc).map (fun d => d.parameters.length) = some 1 := by decide +kernel
theorem nh_X_value : y_X_value.cls ≠ "java/lang/invoke/MethodHandle" ∧ y_X_value.cls ≠ "java/lang/invoke/VarHandle" := ⟨by decide, by decide⟩
theorem pn_X_whole : (parseMethodDescriptor y_X_whole.desc).map (fun d => d.parameters.length) = some 2 := by decide +kernel
theorem nh_X_whole : y_X_whole.cls ≠ "java/lang/invoke/MethodHandle" ∧ y_X_whole.cls ≠ "java/lang/invoke/VarHandle" := ⟨by decide, by decide⟩
theorem pn_X_wipe : (parseMethodDescriptor y_X_wipe.desc).map (fun d => d.parameters.length) = some 0 := by decide +kernel
theorem nh_X_wipe : y_X_wipe.cls ≠ "java/lang/invoke/MethodHandle" ∧ y_X_wipe.cls ≠ "java/lang/invoke/VarHandle" := ⟨by decide, by decide⟩
theorem pn_X_write : (parseMethodDescriptor y_X_write.desc).map (fun d => d.parameters.length) = some 1 := by decide +kernel
theorem nh_X_write : y_X_write.cls ≠ "java/lang/invoke/MethodHandle" ∧ y_X_write.cls ≠ "java/lang/invoke/VarHandle" := ⟨by decide, by decide⟩
theorem pn_D_init : (parseMethodDescriptor y_D_init.desc).map (fun d => d.parameters.length) = some 0 := by decide +kernel
theorem nh_D_init : y_D_init.cls ≠ "java/lang/invoke/MethodHandle" ∧ y_D_init.cls ≠ "java/lang/invoke/VarHandle" := ⟨by decide, by decide⟩
theorem pn_D_addParts : (parseMethodDescriptor y_D_addParts.desc).map (fun d => d.parameters.length) = some 1 := by decide +kernel
theorem nh_D_addParts : y_D_addParts.cls ≠ "java/lang/invoke/MethodHandle" ∧ y_D_addParts.cls ≠ "java/lang/invoke/VarHandle" := ⟨by decide, by decide⟩
theorem pn_D_addToSum : (parseMethodDescriptor y_D_addToSum.desc).map (fun d => d.parameters.length) = some 1 := by decide +kernel
theorem nh_D_addToSum : y_D_addToSum.cls ≠ "java/lang/invoke/MethodHandle" ∧ y_D_addToSum.cls ≠ "java/lang/invoke/VarHandle" := ⟨by decide, by decide⟩
theorem pn_D_finishReading : (parseMethodDescriptor y_D_finishReading.desc).map (fun d => d.parameters.length) = some 1 := by decide +kernel
theorem nh_D_finishReading : y_D_finishReading.cls ≠ "java/lang/invoke/MethodHandle" ∧ y_D_finishReading.cls ≠ "java/lang/invoke/VarHandle" := ⟨by decide, by decide⟩
theorem pn_D_finishSum : (parseMethodDescriptor y_D_finishSum.desc).map (fun d => d.parameters.length) = some 0 := by decide +kernel
theorem nh_D_finishSum : y_D_finishSum.cls ≠ "java/lang/invoke/MethodHandle" ∧ y_D_finishSum.cls ≠ "java/lang/invoke/VarHandle" := ⟨by decide, by decide⟩
theorem pn_D_floorAndRest : (parseMethodDescriptor y_D_floorAndRest.desc).map (fun d => d.parameters.length) = some 0 := by decide +kernel
theorem nh_D_floorAndRest : y_D_floorAndRest.cls ≠ "java/lang/invoke/MethodHandle" ∧ y_D_floorAndRest.cls ≠ "java/lang/invoke/VarHandle" := ⟨by decide, by decide⟩
theorem pn_D_hashOf : (parseMethodDescriptor y_D_hashOf.desc).map (fun d => d.parameters.length) = some 1 := by decide +kernel
theorem nh_D_hashOf : y_D_hashOf.cls ≠ "java/lang/invoke/MethodHandle" ∧ y_D_hashOf.cls ≠ "java/lang/invoke/VarHandle" := ⟨by decide, by decide⟩
theorem pn_D_invertBase : (parseMethodDescriptor y_D_invertBase.desc).map (fun d => d.parameters.length) = some 0 := by decide +kernel
theorem nh_D_invertBase : y_D_invertBase.cls ≠ "java/lang/invoke/MethodHandle" ∧ y_D_invertBase.cls ≠ "java/lang/invoke/VarHandle" := ⟨by decide, by decide⟩
theorem pn_D_lessOne : (parseMethodDescriptor y_D_lessOne.desc).map (fun d => d.parameters.length) = some 1 := by decide +kernel
theorem nh_D_lessOne : y_D_lessOne.cls ≠ "java/lang/invoke/MethodHandle" ∧ y_D_lessOne.cls ≠ "java/lang/invoke/VarHandle" := ⟨by decide, by decide⟩
theorem pn_D_loadForBits : (parseMethodDescriptor y_D_loadForBits.desc).map (fun d => d.parameters.length) = some 2 := by decide +kernel
theorem nh_D_loadForBits : y_D_loadForBits.cls ≠ "java/lang/invoke/MethodHandle" ∧ y_D_loadForBits.cls ≠ "java/lang/invoke/VarHandle" := ⟨by decide, by decide⟩
theorem pn_D_makeNearest : (parseMethodDescriptor y_D_makeNearest.desc).map (fun d => d.parameters.length) = some 1 := by decide +kernel
theorem nh_D_makeNearest : y_D_makeNearest.cls ≠ "java/lang/invoke/MethodHandle" ∧ y_D_makeNearest.cls ≠ "java/lang/invoke/VarHandle" := ⟨by decide, by decide⟩
theorem pn_D_makeNearestUnlessReal : (parseMethodDescriptor y_D_makeNearestUnlessReal.desc).map (fun d => d.parameters.length) = some 1 := by decide +kernel
theorem nh_D_makeNearestUnlessReal : y_D_makeNearestUnlessReal.cls ≠ "java/lang/invoke/MethodHandle" ∧ y_D_makeNearestUnlessReal.cls ≠ "java/lang/invoke/VarHandle" := ⟨by decide, by decide⟩
theorem pn_D_mix : (parseMethodDescriptor y_D_mix.desc).map (fun d => d.parameters.length) = some 3 := by decide +kernel
theorem nh_D_mix : y_D_mix.cls ≠ "java/lang/invoke/MethodHandle" ∧ y_D_mix.cls ≠ "java/lang/invoke/VarHandle" := ⟨by decide, by decide⟩
theorem pn_D_mixBits : (parseMethodDescriptor y_D_mixBits.desc).map (fun d => d.parameters.length) = some 3 := by decide +kernel
theorem nh_D_mixBits : y_D_mixBits.cls ≠ "java/lang/invoke/MethodHandle" ∧ y_D_mixBits.cls ≠ "java/lang/invoke/VarHandle" := ⟨by decide, by decide⟩
theorem pn_D_multiplyModulo : (parseMethodDescriptor y_D_multiplyModulo.desc).map (fun d => d.parameters.length) = some 1 := by decide +kernel
theorem nh_D_multiplyModulo : y_D_multiplyModulo.cls ≠ "java/lang/invoke/MethodHandle" ∧ y_D_multiplyModulo.cls ≠ "java/lang/invoke/VarHandle" := ⟨by decide, by decide⟩
theorem pn_D_orderOf : (parseMethodDescriptor y_D_orderOf.desc).map (fun d => d.parameters.length) = some 2 := by decide +kernel
theorem nh_D_orderOf : y_D_orderOf.cls ≠ "java/lang/invoke/MethodHandle" ∧ y_D_orderOf.cls ≠ "java/lang/invoke/VarHandle" := ⟨by decide, by decide⟩
theorem pn_D_raise : (parseMethodDescriptor y_D_raise.desc).map (fun d => d.parameters.length) = some 2 := by decide +kernel
theorem nh_D_raise : y_D_raise.cls ≠ "java/lang/invoke/MethodHandle" ∧ y_D_raise.cls ≠ "java/lang/invoke/VarHandle" := ⟨by decide, by decide⟩
theorem pn_D_raiseModulo : (parseMethodDescriptor y_D_raiseModulo.desc).map (fun d => d.parameters.length) = some 3 := by decide +kernel
theorem nh_D_raiseModulo : y_D_raiseModulo.cls ≠ "java/lang/invoke/MethodHandle" ∧ y_D_raiseModulo.cls ≠ "java/lang/invoke/VarHandle" := ⟨by decide, by decide⟩
theorem pn_D_reckon : (parseMethodDescriptor y_D_reckon.desc).map (fun d => d.parameters.length) = some 3 := by decide +kernel
theorem nh_D_reckon : y_D_reckon.cls ≠ "java/lang/invoke/MethodHandle" ∧ y_D_reckon.cls ≠ "java/lang/invoke/VarHandle" := ⟨by decide, by decide⟩
theorem pn_D_reduceOut : (parseMethodDescriptor y_D_reduceOut.desc).map (fun d => d.parameters.length) = some 0 := by decide +kernel
theorem nh_D_reduceOut : y_D_reduceOut.cls ≠ "java/lang/invoke/MethodHandle" ∧ y_D_reduceOut.cls ≠ "java/lang/invoke/VarHandle" := ⟨by decide, by decide⟩
theorem pn_D_refuseBeyond : (parseMethodDescriptor y_D_refuseBeyond.desc).map (fun d => d.parameters.length) = some 1 := by decide +kernel
theorem nh_D_refuseBeyond : y_D_refuseBeyond.cls ≠ "java/lang/invoke/MethodHandle" ∧ y_D_refuseBeyond.cls ≠ "java/lang/invoke/VarHandle" := ⟨by decide, by decide⟩
theorem pn_D_roundTo : (parseMethodDescriptor y_D_roundTo.desc).map (fun d => d.parameters.length) = some 2 := by decide +kernel
theorem nh_D_roundTo : y_D_roundTo.cls ≠ "java/lang/invoke/MethodHandle" ∧ y_D_roundTo.cls ≠ "java/lang/invoke/VarHandle" := ⟨by decide, by decide⟩
theorem pn_D_setParts : (parseMethodDescriptor y_D_setParts.desc).map (fun d => d.parameters.length) = some 4 := by decide +kernel
theorem nh_D_setParts : y_D_setParts.cls ≠ "java/lang/invoke/MethodHandle" ∧ y_D_setParts.cls ≠ "java/lang/invoke/VarHandle" := ⟨by decide, by decide⟩
theorem pn_D_settle : (parseMethodDescriptor y_D_settle.desc).map (fun d => d.parameters.length) = some 1 := by decide +kernel
theorem nh_D_settle : y_D_settle.cls ≠ "java/lang/invoke/MethodHandle" ∧ y_D_settle.cls ≠ "java/lang/invoke/VarHandle" := ⟨by decide, by decide⟩
theorem pn_D_shift : (parseMethodDescriptor y_D_shift.desc).map (fun d => d.parameters.length) = some 2 := by decide +kernel
theorem nh_D_shift : y_D_shift.cls ≠ "java/lang/invoke/MethodHandle" ∧ y_D_shift.cls ≠ "java/lang/invoke/VarHandle" := ⟨by decide, by decide⟩
theorem pn_D_startSum : (parseMethodDescriptor y_D_startSum.desc).map (fun d => d.parameters.length) = some 0 := by decide +kernel
theorem nh_D_startSum : y_D_startSum.cls ≠ "java/lang/invoke/MethodHandle" ∧ y_D_startSum.cls ≠ "java/lang/invoke/VarHandle" := ⟨by decide, by decide⟩
theorem pn_D_subtractAmounts : (parseMethodDescriptor y_D_subtractAmounts.desc).map (fun d => d.parameters.length) = some 1 := by decide +kernel
theorem nh_D_subtractAmounts : y_D_subtractAmounts.cls ≠ "java/lang/invoke/MethodHandle" ∧ y_D_subtractAmounts.cls ≠ "java/lang/invoke/VarHandle" := ⟨by decide, by decide⟩
theorem pn_D_turnTo : (parseMethodDescriptor y_D_turnTo.desc).map (fun d => d.parameters.length) = some 2 := by decide +kernel
theorem nh_D_turnTo : y_D_turnTo.cls ≠ "java/lang/invoke/MethodHandle" ∧ y_D_turnTo.cls ≠ "java/lang/invoke/VarHandle" := ⟨by decide, by decide⟩
theorem pn_N_init : (parseMethodDescriptor y_N_init.desc).map (fun d => d.parameters.length) = some 0 := by decide +kernel
theorem nh_N_init : y_N_init.cls ≠ "java/lang/invoke/MethodHandle" ∧ y_N_init.cls ≠ "java/lang/invoke/VarHandle" := ⟨by decide, by decide⟩
theorem pn_N_add : (parseMethodDescriptor y_N_add.desc).map (fun d => d.parameters.length) = some 1 := by decide +kernel
theorem nh_N_add : y_N_add.cls ≠ "java/lang/invoke/MethodHandle" ∧ y_N_add.cls ≠ "java/lang/invoke/VarHandle" := ⟨by decide, by decide⟩
theorem pn_N_addSmall : (parseMethodDescriptor y_N_addSmall.desc).map (fun d => d.parameters.length) = some 1 := by decide +kernel
theorem nh_N_addSmall : y_N_addSmall.cls ≠ "java/lang/invoke/MethodHandle" ∧ y_N_addSmall.cls ≠ "java/lang/invoke/VarHandle" := ⟨by decide, by decide⟩
theorem pn_N_bits : (parseMethodDescriptor y_N_bits.desc).map (fun d => d.parameters.length) = some 0 := by decide +kernel
theorem nh_N_bits : y_N_bits.cls ≠ "java/lang/invoke/MethodHandle" ∧ y_N_bits.cls ≠ "java/lang/invoke/VarHandle" := ⟨by decide, by decide⟩
theorem pn_N_bitsOf : (parseMethodDescriptor y_N_bitsOf.desc).map (fun d => d.parameters.length) = some 1 := by decide +kernel
theorem nh_N_bitsOf : y_N_bitsOf.cls ≠ "java/lang/invoke/MethodHandle" ∧ y_N_bitsOf.cls ≠ "java/lang/invoke/VarHandle" := ⟨by decide, by decide⟩
theorem pn_N_clear : (parseMethodDescriptor y_N_clear.desc).map (fun d => d.parameters.length) = some 0 := by decide +kernel
theorem nh_N_clear : y_N_clear.cls ≠ "java/lang/invoke/MethodHandle" ∧ y_N_clear.cls ≠ "java/lang/invoke/VarHandle" := ⟨by decide, by decide⟩
theorem pn_N_copyFrom : (parseMethodDescriptor y_N_copyFrom.desc).map (fun d => d.parameters.length) = some 1 := by decide +kernel
theorem nh_N_copyFrom : y_N_copyFrom.cls ≠ "java/lang/invoke/MethodHandle" ∧ y_N_copyFrom.cls ≠ "java/lang/invoke/VarHandle" := ⟨by decide, by decide⟩
theorem pn_N_divide : (parseMethodDescriptor y_N_divide.desc).map (fun d => d.parameters.length) = some 2 := by decide +kernel
theorem nh_N_divide : y_N_divide.cls ≠ "java/lang/invoke/MethodHandle" ∧ y_N_divide.cls ≠ "java/lang/invoke/VarHandle" := ⟨by decide, by decide⟩
theorem pn_N_divideSmall : (parseMethodDescriptor y_N_divideSmall.desc).map (fun d => d.parameters.length) = some 1 := by decide +kernel
theorem nh_N_divideSmall : y_N_divideSmall.cls ≠ "java/lang/invoke/MethodHandle" ∧ y_N_divideSmall.cls ≠ "java/lang/invoke/VarHandle" := ⟨by decide, by decide⟩
theorem pn_N_isOdd : (parseMethodDescriptor y_N_isOdd.desc).map (fun d => d.parameters.length) = some 0 := by decide +kernel
theorem nh_N_isOdd : y_N_isOdd.cls ≠ "java/lang/invoke/MethodHandle" ∧ y_N_isOdd.cls ≠ "java/lang/invoke/VarHandle" := ⟨by decide, by decide⟩
theorem pn_N_isOne : (parseMethodDescriptor y_N_isOne.desc).map (fun d => d.parameters.length) = some 0 := by decide +kernel
theorem nh_N_isOne : y_N_isOne.cls ≠ "java/lang/invoke/MethodHandle" ∧ y_N_isOne.cls ≠ "java/lang/invoke/VarHandle" := ⟨by decide, by decide⟩
theorem pn_N_isZero : (parseMethodDescriptor y_N_isZero.desc).map (fun d => d.parameters.length) = some 0 := by decide +kernel
theorem nh_N_isZero : y_N_isZero.cls ≠ "java/lang/invoke/MethodHandle" ∧ y_N_isZero.cls ≠ "java/lang/invoke/VarHandle" := ⟨by decide, by decide⟩
theorem pn_N_order : (parseMethodDescriptor y_N_order.desc).map (fun d => d.parameters.length) = some 1 := by decide +kernel
theorem nh_N_order : y_N_order.cls ≠ "java/lang/invoke/MethodHandle" ∧ y_N_order.cls ≠ "java/lang/invoke/VarHandle" := ⟨by decide, by decide⟩
theorem pn_N_roundBy : (parseMethodDescriptor y_N_roundBy.desc).map (fun d => d.parameters.length) = some 2 := by decide +kernel
theorem nh_N_roundBy : y_N_roundBy.cls ≠ "java/lang/invoke/MethodHandle" ∧ y_N_roundBy.cls ≠ "java/lang/invoke/VarHandle" := ⟨by decide, by decide⟩
theorem pn_N_scale : (parseMethodDescriptor y_N_scale.desc).map (fun d => d.parameters.length) = some 2 := by decide +kernel
theorem nh_N_scale : y_N_scale.cls ≠ "java/lang/invoke/MethodHandle" ∧ y_N_scale.cls ≠ "java/lang/invoke/VarHandle" := ⟨by decide, by decide⟩
theorem pn_N_scaleTens : (parseMethodDescriptor y_N_scaleTens.desc).map (fun d => d.parameters.length) = some 1 := by decide +kernel
theorem nh_N_scaleTens : y_N_scaleTens.cls ≠ "java/lang/invoke/MethodHandle" ∧ y_N_scaleTens.cls ≠ "java/lang/invoke/VarHandle" := ⟨by decide, by decide⟩
theorem pn_N_set : (parseMethodDescriptor y_N_set.desc).map (fun d => d.parameters.length) = some 1 := by decide +kernel
theorem nh_N_set : y_N_set.cls ≠ "java/lang/invoke/MethodHandle" ∧ y_N_set.cls ≠ "java/lang/invoke/VarHandle" := ⟨by decide, by decide⟩
theorem pn_N_setProduct : (parseMethodDescriptor y_N_setProduct.desc).map (fun d => d.parameters.length) = some 2 := by decide +kernel
theorem nh_N_setProduct : y_N_setProduct.cls ≠ "java/lang/invoke/MethodHandle" ∧ y_N_setProduct.cls ≠ "java/lang/invoke/VarHandle" := ⟨by decide, by decide⟩
theorem pn_N_shiftDown : (parseMethodDescriptor y_N_shiftDown.desc).map (fun d => d.parameters.length) = some 1 := by decide +kernel
theorem nh_N_shiftDown : y_N_shiftDown.cls ≠ "java/lang/invoke/MethodHandle" ∧ y_N_shiftDown.cls ≠ "java/lang/invoke/VarHandle" := ⟨by decide, by decide⟩
theorem pn_N_shiftUp : (parseMethodDescriptor y_N_shiftUp.desc).map (fun d => d.parameters.length) = some 1 := by decide +kernel
theorem nh_N_shiftUp : y_N_shiftUp.cls ≠ "java/lang/invoke/MethodHandle" ∧ y_N_shiftUp.cls ≠ "java/lang/invoke/VarHandle" := ⟨by decide, by decide⟩
theorem pn_N_sixtyBits : (parseMethodDescriptor y_N_sixtyBits.desc).map (fun d => d.parameters.length) = some 1 := by decide +kernel
theorem nh_N_sixtyBits : y_N_sixtyBits.cls ≠ "java/lang/invoke/MethodHandle" ∧ y_N_sixtyBits.cls ≠ "java/lang/invoke/VarHandle" := ⟨by decide, by decide⟩
theorem pn_N_subtract : (parseMethodDescriptor y_N_subtract.desc).map (fun d => d.parameters.length) = some 1 := by decide +kernel
theorem nh_N_subtract : y_N_subtract.cls ≠ "java/lang/invoke/MethodHandle" ∧ y_N_subtract.cls ≠ "java/lang/invoke/VarHandle" := ⟨by decide, by decide⟩
theorem pn_N_takeAway : (parseMethodDescriptor y_N_takeAway.desc).map (fun d => d.parameters.length) = some 2 := by decide +kernel
theorem nh_N_takeAway : y_N_takeAway.cls ≠ "java/lang/invoke/MethodHandle" ∧ y_N_takeAway.cls ≠ "java/lang/invoke/VarHandle" := ⟨by decide, by decide⟩
theorem pn_N_toDouble : (parseMethodDescriptor y_N_toDouble.desc).map (fun d => d.parameters.length) = some 0 := by decide +kernel
theorem nh_N_toDouble : y_N_toDouble.cls ≠ "java/lang/invoke/MethodHandle" ∧ y_N_toDouble.cls ≠ "java/lang/invoke/VarHandle" := ⟨by decide, by decide⟩
theorem pn_N_toLong : (parseMethodDescriptor y_N_toLong.desc).map (fun d => d.parameters.length) = some 0 := by decide +kernel
theorem nh_N_toLong : y_N_toLong.cls ≠ "java/lang/invoke/MethodHandle" ∧ y_N_toLong.cls ≠ "java/lang/invoke/VarHandle" := ⟨by decide, by decide⟩
theorem pn_N_trim : (parseMethodDescriptor y_N_trim.desc).map (fun d => d.parameters.length) = some 1 := by decide +kernel
theorem nh_N_trim : y_N_trim.cls ≠ "java/lang/invoke/MethodHandle" ∧ y_N_trim.cls ≠ "java/lang/invoke/VarHandle" := ⟨by decide, by decide⟩
theorem pn_U_init : (parseMethodDescriptor y_U_init.desc).map (fun d => d.parameters.length) = some 0 := by decide +kernel
theorem nh_U_init : y_U_init.cls ≠ "java/lang/invoke/MethodHandle" ∧ y_U_init.cls ≠ "java/lang/invoke/VarHandle" := ⟨by decide, by decide⟩
theorem pn_U_become : (parseMethodDescriptor y_U_become.desc).map (fun d => d.parameters.length) = some 1 := by decide +kernel
theorem nh_U_become : y_U_become.cls ≠ "java/lang/invoke/MethodHandle" ∧ y_U_become.cls ≠ "java/lang/invoke/VarHandle" := ⟨by decide, by decide⟩
theorem pn_U_isThere : (parseMethodDescriptor y_U_isThere.desc).map (fun d => d.parameters.length) = some 0 := by decide +kernel
theorem nh_U_isThere : y_U_isThere.cls ≠ "java/lang/invoke/MethodHandle" ∧ y_U_isThere.cls ≠ "java/lang/invoke/VarHandle" := ⟨by decide, by decide⟩
theorem pn_U_isWholeWithin : (parseMethodDescriptor y_U_isWholeWithin.desc).map (fun d => d.parameters.length) = some 2 := by decide +kernel
theorem nh_U_isWholeWithin : y_U_isWholeWithin.cls ≠ "java/lang/invoke/MethodHandle" ∧ y_U_isWholeWithin.cls ≠ "java/lang/invoke/VarHandle" := ⟨by decide, by decide⟩
theorem pn_U_setBinary : (parseMethodDescriptor y_U_setBinary.desc).map (fun d => d.parameters.length) = some 3 := by decide +kernel
theorem nh_U_setBinary : y_U_setBinary.cls ≠ "java/lang/invoke/MethodHandle" ∧ y_U_setBinary.cls ≠ "java/lang/invoke/VarHandle" := ⟨by decide, by decide⟩
theorem pn_U_setReal : (parseMethodDescriptor y_U_setReal.desc).map (fun d => d.parameters.length) = some 2 := by decide +kernel
theorem nh_U_setReal : y_U_setReal.cls ≠ "java/lang/invoke/MethodHandle" ∧ y_U_setReal.cls ≠ "java/lang/invoke/VarHandle" := ⟨by decide, by decide⟩
theorem pn_U_setWhole : (parseMethodDescriptor y_U_setWhole.desc).map (fun d => d.parameters.length) = some 1 := by decide +kernel
theorem nh_U_setWhole : y_U_setWhole.cls ≠ "java/lang/invoke/MethodHandle" ∧ y_U_setWhole.cls ≠ "java/lang/invoke/VarHandle" := ⟨by decide, by decide⟩
theorem pn_U_small : (parseMethodDescriptor y_U_small.desc).map (fun d => d.parameters.length) = some 0 := by decide +kernel
theorem nh_U_small : y_U_small.cls ≠ "java/lang/invoke/MethodHandle" ∧ y_U_small.cls ≠ "java/lang/invoke/VarHandle" := ⟨by decide, by decide⟩
theorem pn_U_worth : (parseMethodDescriptor y_U_worth.desc).map (fun d => d.parameters.length) = some 0 := by decide +kernel
theorem nh_U_worth : y_U_worth.cls ≠ "java/lang/invoke/MethodHandle" ∧ y_U_worth.cls ≠ "java/lang/invoke/VarHandle" := ⟨by decide, by decide⟩
theorem pn_P_init : (parseMethodDescriptor y_P_init.desc).map (fun d => d.parameters.length) = some 0 := by decide +kernel
theorem nh_P_init : y_P_init.cls ≠ "java/lang/invoke/MethodHandle" ∧ y_P_init.cls ≠ "java/lang/invoke/VarHandle" := ⟨by decide, by decide⟩
theorem pn_P_formatNumber : (parseMethodDescriptor y_P_formatNumber.desc).map (fun d => d.parameters.length) = some 2 := by decide +kernel
theorem nh_P_formatNumber : y_P_formatNumber.cls ≠ "java/lang/invoke/MethodHandle" ∧ y_P_formatNumber.cls ≠ "java/lang/invoke/VarHandle" := ⟨by decide, by decide⟩
theorem pn_P_layReal : (parseMethodDescriptor y_P_layReal.desc).map (fun d => d.parameters.length) = some 1 := by decide +kernel
theorem nh_P_layReal : y_P_layReal.cls ≠ "java/lang/invoke/MethodHandle" ∧ y_P_layReal.cls ≠ "java/lang/invoke/VarHandle" := ⟨by decide, by decide⟩
theorem pn_P_laySheet : (parseMethodDescriptor y_P_laySheet.desc).map (fun d => d.parameters.length) = some 1 := by decide +kernel
theorem nh_P_laySheet : y_P_laySheet.cls ≠ "java/lang/invoke/MethodHandle" ∧ y_P_laySheet.cls ≠ "java/lang/invoke/VarHandle" := ⟨by decide, by decide⟩
theorem pn_P_leastExponent : (parseMethodDescriptor y_P_leastExponent.desc).map (fun d => d.parameters.length) = some 1 := by decide +kernel
theorem nh_P_leastExponent : y_P_leastExponent.cls ≠ "java/lang/invoke/MethodHandle" ∧ y_P_leastExponent.cls ≠ "java/lang/invoke/VarHandle" := ⟨by decide, by decide⟩
theorem pn_P_nearerOf : (parseMethodDescriptor y_P_nearerOf.desc).map (fun d => d.parameters.length) = some 4 := by decide +kernel
theorem nh_P_nearerOf : y_P_nearerOf.cls ≠ "java/lang/invoke/MethodHandle" ∧ y_P_nearerOf.cls ≠ "java/lang/invoke/VarHandle" := ⟨by decide, by decide⟩
theorem pn_P_putExponent : (parseMethodDescriptor y_P_putExponent.desc).map (fun d => d.parameters.length) = some 3 := by decide +kernel
theorem nh_P_putExponent : y_P_putExponent.cls ≠ "java/lang/invoke/MethodHandle" ∧ y_P_putExponent.cls ≠ "java/lang/invoke/VarHandle" := ⟨by decide, by decide⟩
theorem pn_P_putFixed : (parseMethodDescriptor y_P_putFixed.desc).map (fun d => d.parameters.length) = some 2 := by decide +kernel
theorem nh_P_putFixed : y_P_putFixed.cls ≠ "java/lang/invoke/MethodHandle" ∧ y_P_putFixed.cls ≠ "java/lang/invoke/VarHandle" := ⟨by decide, by decide⟩
theorem pn_P_putGeneral : (parseMethodDescriptor y_P_putGeneral.desc).map (fun d => d.parameters.length) = some 4 := by decide +kernel
theorem nh_P_putGeneral : y_P_putGeneral.cls ≠ "java/lang/invoke/MethodHandle" ∧ y_P_putGeneral.cls ≠ "java/lang/invoke/VarHandle" := ⟨by decide, by decide⟩
theorem pn_P_putGroups : (parseMethodDescriptor y_P_putGroups.desc).map (fun d => d.parameters.length) = some 3 := by decide +kernel
theorem nh_P_putGroups : y_P_putGroups.cls ≠ "java/lang/invoke/MethodHandle" ∧ y_P_putGroups.cls ≠ "java/lang/invoke/VarHandle" := ⟨by decide, by decide⟩
theorem pn_P_putScientific : (parseMethodDescriptor y_P_putScientific.desc).map (fun d => d.parameters.length) = some 2 := by decide +kernel
theorem nh_P_putScientific : y_P_putScientific.cls ≠ "java/lang/invoke/MethodHandle" ∧ y_P_putScientific.cls ≠ "java/lang/invoke/VarHandle" := ⟨by decide, by decide⟩
theorem pn_P_putWhole : (parseMethodDescriptor y_P_putWhole.desc).map (fun d => d.parameters.length) = some 2 := by decide +kernel
theorem nh_P_putWhole : y_P_putWhole.cls ≠ "java/lang/invoke/MethodHandle" ∧ y_P_putWhole.cls ≠ "java/lang/invoke/VarHandle" := ⟨by decide, by decide⟩
theorem pn_P_roundScaled : (parseMethodDescriptor y_P_roundScaled.desc).map (fun d => d.parameters.length) = some 2 := by decide +kernel
theorem nh_P_roundScaled : y_P_roundScaled.cls ≠ "java/lang/invoke/MethodHandle" ∧ y_P_roundScaled.cls ≠ "java/lang/invoke/VarHandle" := ⟨by decide, by decide⟩
theorem pn_P_scaledFloor : (parseMethodDescriptor y_P_scaledFloor.desc).map (fun d => d.parameters.length) = some 3 := by decide +kernel
theorem nh_P_scaledFloor : y_P_scaledFloor.cls ≠ "java/lang/invoke/MethodHandle" ∧ y_P_scaledFloor.cls ≠ "java/lang/invoke/VarHandle" := ⟨by decide, by decide⟩
theorem pn_P_setDigits : (parseMethodDescriptor y_P_setDigits.desc).map (fun d => d.parameters.length) = some 3 := by decide +kernel
theorem nh_P_setDigits : y_P_setDigits.cls ≠ "java/lang/invoke/MethodHandle" ∧ y_P_setDigits.cls ≠ "java/lang/invoke/VarHandle" := ⟨by decide, by decide⟩
theorem pn_P_setScientificDigits : (parseMethodDescriptor y_P_setScientificDigits.desc).map (fun d => d.parameters.length) = some 2 := by decide +kernel
theorem nh_P_setScientificDigits : y_P_setScientificDigits.cls ≠ "java/lang/invoke/MethodHandle" ∧ y_P_setScientificDigits.cls ≠ "java/lang/invoke/VarHandle" := ⟨by decide, by decide⟩
theorem pn_P_setShortestDigits : (parseMethodDescriptor y_P_setShortestDigits.desc).map (fun d => d.parameters.length) = some 1 := by decide +kernel
theorem nh_P_setShortestDigits : y_P_setShortestDigits.cls ≠ "java/lang/invoke/MethodHandle" ∧ y_P_setShortestDigits.cls ≠ "java/lang/invoke/VarHandle" := ⟨by decide, by decide⟩
theorem pn_P_setZero : (parseMethodDescriptor y_P_setZero.desc).map (fun d => d.parameters.length) = some 0 := by decide +kernel
theorem nh_P_setZero : y_P_setZero.cls ≠ "java/lang/invoke/MethodHandle" ∧ y_P_setZero.cls ≠ "java/lang/invoke/VarHandle" := ⟨by decide, by decide⟩
theorem pn_P_shortestBetween : (parseMethodDescriptor y_P_shortestBetween.desc).map (fun d => d.parameters.length) = some 4 := by decide +kernel
theorem nh_P_shortestBetween : y_P_shortestBetween.cls ≠ "java/lang/invoke/MethodHandle" ∧ y_P_shortestBetween.cls ≠ "java/lang/invoke/VarHandle" := ⟨by decide, by decide⟩
theorem pn_P_showNumber : (parseMethodDescriptor y_P_showNumber.desc).map (fun d => d.parameters.length) = some 1 := by decide +kernel
theorem nh_P_showNumber : y_P_showNumber.cls ≠ "java/lang/invoke/MethodHandle" ∧ y_P_showNumber.cls ≠ "java/lang/invoke/VarHandle" := ⟨by decide, by decide⟩
theorem pn_P_showPart : (parseMethodDescriptor y_P_showPart.desc).map (fun d => d.parameters.length) = some 1 := by decide +kernel
theorem nh_P_showPart : y_P_showPart.cls ≠ "java/lang/invoke/MethodHandle" ∧ y_P_showPart.cls ≠ "java/lang/invoke/VarHandle" := ⟨by decide, by decide⟩
theorem pn_R_init : (parseMethodDescriptor y_R_init.desc).map (fun d => d.parameters.length) = some 1 := by decide +kernel
theorem nh_R_init : y_R_init.cls ≠ "java/lang/invoke/MethodHandle" ∧ y_R_init.cls ≠ "java/lang/invoke/VarHandle" := ⟨by decide, by decide⟩
theorem pn_R_digitOf : (parseMethodDescriptor y_R_digitOf.desc).map (fun d => d.parameters.length) = some 2 := by decide +kernel
theorem nh_R_digitOf : y_R_digitOf.cls ≠ "java/lang/invoke/MethodHandle" ∧ y_R_digitOf.cls ≠ "java/lang/invoke/VarHandle" := ⟨by decide, by decide⟩
theorem pn_R_parse : (parseMethodDescriptor y_R_parse.desc).map (fun d => d.parameters.length) = some 1 := by decide +kernel
theorem nh_R_parse : y_R_parse.cls ≠ "java/lang/invoke/MethodHandle" ∧ y_R_parse.cls ≠ "java/lang/invoke/VarHandle" := ⟨by decide, by decide⟩
theorem pn_R_parseDecimal : (parseMethodDescriptor y_R_parseDecimal.desc).map (fun d => d.parameters.length) = some 1 := by decide +kernel
theorem nh_R_parseDecimal : y_R_parseDecimal.cls ≠ "java/lang/invoke/MethodHandle" ∧ y_R_parseDecimal.cls ≠ "java/lang/invoke/VarHandle" := ⟨by decide, by decide⟩
theorem pn_R_parseDigits : (parseMethodDescriptor y_R_parseDigits.desc).map (fun d => d.parameters.length) = some 2 := by decide +kernel
theorem nh_R_parseDigits : y_R_parseDigits.cls ≠ "java/lang/invoke/MethodHandle" ∧ y_R_parseDigits.cls ≠ "java/lang/invoke/VarHandle" := ⟨by decide, by decide⟩
theorem pn_R_parseTens : (parseMethodDescriptor y_R_parseTens.desc).map (fun d => d.parameters.length) = some 0 := by decide +kernel
theorem nh_R_parseTens : y_R_parseTens.cls ≠ "java/lang/invoke/MethodHandle" ∧ y_R_parseTens.cls ≠ "java/lang/invoke/VarHandle" := ⟨by decide, by decide⟩
theorem pn_S_init : (parseMethodDescriptor y_S_init.desc).map (fun d => d.parameters.length) = some 1 := by decide +kernel
theorem nh_S_init : y_S_init.cls ≠ "java/lang/invoke/MethodHandle" ∧ y_S_init.cls ≠ "java/lang/invoke/VarHandle" := ⟨by decide, by decide⟩
theorem pn_S_isAlign : (parseMethodDescriptor y_S_isAlign.desc).map (fun d => d.parameters.length) = some 1 := by decide +kernel
theorem nh_S_isAlign : y_S_isAlign.cls ≠ "java/lang/invoke/MethodHandle" ∧ y_S_isAlign.cls ≠ "java/lang/invoke/VarHandle" := ⟨by decide, by decide⟩
theorem pn_S_parse : (parseMethodDescriptor y_S_parse.desc).map (fun d => d.parameters.length) = some 0 := by decide +kernel
theorem nh_S_parse : y_S_parse.cls ≠ "java/lang/invoke/MethodHandle" ∧ y_S_parse.cls ≠ "java/lang/invoke/VarHandle" := ⟨by decide, by decide⟩
theorem pn_S_parseAlign : (parseMethodDescriptor y_S_parseAlign.desc).map (fun d => d.parameters.length) = some 0 := by decide +kernel
theorem nh_S_parseAlign : y_S_parseAlign.cls ≠ "java/lang/invoke/MethodHandle" ∧ y_S_parseAlign.cls ≠ "java/lang/invoke/VarHandle" := ⟨by decide, by decide⟩
theorem pn_S_parseNumber : (parseMethodDescriptor y_S_parseNumber.desc).map (fun d => d.parameters.length) = some 0 := by decide +kernel
theorem nh_S_parseNumber : y_S_parseNumber.cls ≠ "java/lang/invoke/MethodHandle" ∧ y_S_parseNumber.cls ≠ "java/lang/invoke/VarHandle" := ⟨by decide, by decide⟩
theorem pn_S_parseType : (parseMethodDescriptor y_S_parseType.desc).map (fun d => d.parameters.length) = some 0 := by decide +kernel
theorem nh_S_parseType : y_S_parseType.cls ≠ "java/lang/invoke/MethodHandle" ∧ y_S_parseType.cls ≠ "java/lang/invoke/VarHandle" := ⟨by decide, by decide⟩
theorem pn_S_suits : (parseMethodDescriptor y_S_suits.desc).map (fun d => d.parameters.length) = some 1 := by decide +kernel
theorem nh_S_suits : y_S_suits.cls ≠ "java/lang/invoke/MethodHandle" ∧ y_S_suits.cls ≠ "java/lang/invoke/VarHandle" := ⟨by decide, by decide⟩
theorem pn_S_take : (parseMethodDescriptor y_S_take.desc).map (fun d => d.parameters.length) = some 1 := by decide +kernel
theorem nh_S_take : y_S_take.cls ≠ "java/lang/invoke/MethodHandle" ∧ y_S_take.cls ≠ "java/lang/invoke/VarHandle" := ⟨by decide, by decide⟩
theorem pn_T_init : (parseMethodDescriptor y_T_init.desc).map (fun d => d.parameters.length) = some 0 := by decide +kernel
theorem nh_T_init : y_T_init.cls ≠ "java/lang/invoke/MethodHandle" ∧ y_T_init.cls ≠ "java/lang/invoke/VarHandle" := ⟨by decide, by decide⟩
theorem pn_T_at : (parseMethodDescriptor y_T_at.desc).map (fun d => d.parameters.length) = some 1 := by decide +kernel
theorem nh_T_at : y_T_at.cls ≠ "java/lang/invoke/MethodHandle" ∧ y_T_at.cls ≠ "java/lang/invoke/VarHandle" := ⟨by decide, by decide⟩
theorem pn_T_clear : (parseMethodDescriptor y_T_clear.desc).map (fun d => d.parameters.length) = some 0 := by decide +kernel
theorem nh_T_clear : y_T_clear.cls ≠ "java/lang/invoke/MethodHandle" ∧ y_T_clear.cls ≠ "java/lang/invoke/VarHandle" := ⟨by decide, by decide⟩
theorem pn_T_dropZeros : (parseMethodDescriptor y_T_dropZeros.desc).map (fun d => d.parameters.length) = some 1 := by decide +kernel
theorem nh_T_dropZeros : y_T_dropZeros.cls ≠ "java/lang/invoke/MethodHandle" ∧ y_T_dropZeros.cls ≠ "java/lang/invoke/VarHandle" := ⟨by decide, by decide⟩
theorem pn_T_put : (parseMethodDescriptor y_T_put.desc).map (fun d => d.parameters.length) = some 1 := by decide +kernel
theorem nh_T_put : y_T_put.cls ≠ "java/lang/invoke/MethodHandle" ∧ y_T_put.cls ≠ "java/lang/invoke/VarHandle" := ⟨by decide, by decide⟩
theorem pn_T_putFrom : (parseMethodDescriptor y_T_putFrom.desc).map (fun d => d.parameters.length) = some 3 := by decide +kernel
theorem nh_T_putFrom : y_T_putFrom.cls ≠ "java/lang/invoke/MethodHandle" ∧ y_T_putFrom.cls ≠ "java/lang/invoke/VarHandle" := ⟨by decide, by decide⟩
theorem pn_T_putMany : (parseMethodDescriptor y_T_putMany.desc).map (fun d => d.parameters.length) = some 2 := by decide +kernel
theorem nh_T_putMany : y_T_putMany.cls ≠ "java/lang/invoke/MethodHandle" ∧ y_T_putMany.cls ≠ "java/lang/invoke/VarHandle" := ⟨by decide, by decide⟩
theorem pn_T_reverse : (parseMethodDescriptor y_T_reverse.desc).map (fun d => d.parameters.length) = some 0 := by decide +kernel
theorem nh_T_reverse : y_T_reverse.cls ≠ "java/lang/invoke/MethodHandle" ∧ y_T_reverse.cls ≠ "java/lang/invoke/VarHandle" := ⟨by decide, by decide⟩
theorem pn_M_init : (parseMethodDescriptor y_M_init.desc).map (fun d => d.parameters.length) = some 0 := by decide +kernel
theorem nh_M_init : y_M_init.cls ≠ "java/lang/invoke/MethodHandle" ∧ y_M_init.cls ≠ "java/lang/invoke/VarHandle" := ⟨by decide, by decide⟩
theorem pn_M_add : (parseMethodDescriptor y_M_add.desc).map (fun d => d.parameters.length) = some 3 := by decide +kernel
theorem nh_M_add : y_M_add.cls ≠ "java/lang/invoke/MethodHandle" ∧ y_M_add.cls ≠ "java/lang/invoke/VarHandle" := ⟨by decide, by decide⟩
theorem pn_M_bits : (parseMethodDescriptor y_M_bits.desc).map (fun d => d.parameters.length) = some 1 := by decide +kernel
theorem nh_M_bits : y_M_bits.cls ≠ "java/lang/invoke/MethodHandle" ∧ y_M_bits.cls ≠ "java/lang/invoke/VarHandle" := ⟨by decide, by decide⟩
theorem pn_M_bitsOf : (parseMethodDescriptor y_M_bitsOf.desc).map (fun d => d.parameters.length) = some 3 := by decide +kernel
theorem nh_M_bitsOf : y_M_bitsOf.cls ≠ "java/lang/invoke/MethodHandle" ∧ y_M_bitsOf.cls ≠ "java/lang/invoke/VarHandle" := ⟨by decide, by decide⟩
theorem pn_M_body : (parseMethodDescriptor y_M_body.desc).map (fun d => d.parameters.length) = some 0 := by decide +kernel
theorem nh_M_body : y_M_body.cls ≠ "java/lang/invoke/MethodHandle" ∧ y_M_body.cls ≠ "java/lang/invoke/VarHandle" := ⟨by decide, by decide⟩
theorem pn_M_combine : (parseMethodDescriptor y_M_combine.desc).map (fun d => d.parameters.length) = some 4 := by decide +kernel
theorem nh_M_combine : y_M_combine.cls ≠ "java/lang/invoke/MethodHandle" ∧ y_M_combine.cls ≠ "java/lang/invoke/VarHandle" := ⟨by decide, by decide⟩
theorem pn_M_compare : (parseMethodDescriptor y_M_compare.desc).map (fun d => d.parameters.length) = some 2 := by decide +kernel
theorem nh_M_compare : y_M_compare.cls ≠ "java/lang/invoke/MethodHandle" ∧ y_M_compare.cls ≠ "java/lang/invoke/VarHandle" := ⟨by decide, by decide⟩
theorem pn_M_copy : (parseMethodDescriptor y_M_copy.desc).map (fun d => d.parameters.length) = some 2 := by decide +kernel
theorem nh_M_copy : y_M_copy.cls ≠ "java/lang/invoke/MethodHandle" ∧ y_M_copy.cls ≠ "java/lang/invoke/VarHandle" := ⟨by decide, by decide⟩
theorem pn_M_cut : (parseMethodDescriptor y_M_cut.desc).map (fun d => d.parameters.length) = some 1 := by decide +kernel
theorem nh_M_cut : y_M_cut.cls ≠ "java/lang/invoke/MethodHandle" ∧ y_M_cut.cls ≠ "java/lang/invoke/VarHandle" := ⟨by decide, by decide⟩
theorem pn_M_digitOf : (parseMethodDescriptor y_M_digitOf.desc).map (fun d => d.parameters.length) = some 2 := by decide +kernel
theorem nh_M_digitOf : y_M_digitOf.cls ≠ "java/lang/invoke/MethodHandle" ∧ y_M_digitOf.cls ≠ "java/lang/invoke/VarHandle" := ⟨by decide, by decide⟩
theorem pn_M_digits : (parseMethodDescriptor y_M_digits.desc).map (fun d => d.parameters.length) = some 2 := by decide +kernel
theorem nh_M_digits : y_M_digits.cls ≠ "java/lang/invoke/MethodHandle" ∧ y_M_digits.cls ≠ "java/lang/invoke/VarHandle" := ⟨by decide, by decide⟩
theorem pn_M_divide : (parseMethodDescriptor y_M_divide.desc).map (fun d => d.parameters.length) = some 2 := by decide +kernel
theorem nh_M_divide : y_M_divide.cls ≠ "java/lang/invoke/MethodHandle" ∧ y_M_divide.cls ≠ "java/lang/invoke/VarHandle" := ⟨by decide, by decide⟩
theorem pn_M_down : (parseMethodDescriptor y_M_down.desc).map (fun d => d.parameters.length) = some 2 := by decide +kernel
theorem nh_M_down : y_M_down.cls ≠ "java/lang/invoke/MethodHandle" ∧ y_M_down.cls ≠ "java/lang/invoke/VarHandle" := ⟨by decide, by decide⟩
theorem pn_M_even : (parseMethodDescriptor y_M_even.desc).map (fun d => d.parameters.length) = some 2 := by decide +kernel
theorem nh_M_even : y_M_even.cls ≠ "java/lang/invoke/MethodHandle" ∧ y_M_even.cls ≠ "java/lang/invoke/VarHandle" := ⟨by decide, by decide⟩
theorem pn_M_exponent : (parseMethodDescriptor y_M_exponent.desc).map (fun d => d.parameters.length) = some 0 := by decide +kernel
theorem nh_M_exponent : y_M_exponent.cls ≠ "java/lang/invoke/MethodHandle" ∧ y_M_exponent.cls ≠ "java/lang/invoke/VarHandle" := ⟨by decide, by decide⟩
theorem pn_M_fail : (parseMethodDescriptor y_M_fail.desc).map (fun d => d.parameters.length) = some 1 := by decide +kernel
theorem nh_M_fail : y_M_fail.cls ≠ "java/lang/invoke/MethodHandle" ∧ y_M_fail.cls ≠ "java/lang/invoke/VarHandle" := ⟨by decide, by decide⟩
theorem pn_M_fetch : (parseMethodDescriptor y_M_fetch.desc).map (fun d => d.parameters.length) = some 3 := by decide +kernel
theorem nh_M_fetch : y_M_fetch.cls ≠ "java/lang/invoke/MethodHandle" ∧ y_M_fetch.cls ≠ "java/lang/invoke/VarHandle" := ⟨by decide, by decide⟩
theorem pn_M_floating : (parseMethodDescriptor y_M_floating.desc).map (fun d => d.parameters.length) = some 1 := by decide +kernel
theorem nh_M_floating : y_M_floating.cls ≠ "java/lang/invoke/MethodHandle" ∧ y_M_floating.cls ≠ "java/lang/invoke/VarHandle" := ⟨by decide, by decide⟩
theorem pn_M_floor : (parseMethodDescriptor y_M_floor.desc).map (fun d => d.parameters.length) = some 0 := by decide +kernel
theorem nh_M_floor : y_M_floor.cls ≠ "java/lang/invoke/MethodHandle" ∧ y_M_floor.cls ≠ "java/lang/invoke/VarHandle" := ⟨by decide, by decide⟩
theorem pn_M_form : (parseMethodDescriptor y_M_form.desc).map (fun d => d.parameters.length) = some 1 := by decide +kernel
theorem nh_M_form : y_M_form.cls ≠ "java/lang/invoke/MethodHandle" ∧ y_M_form.cls ≠ "java/lang/invoke/VarHandle" := ⟨by decide, by decide⟩
theorem pn_M_format : (parseMethodDescriptor y_M_format.desc).map (fun d => d.parameters.length) = some 1 := by decide +kernel
theorem nh_M_format : y_M_format.cls ≠ "java/lang/invoke/MethodHandle" ∧ y_M_format.cls ≠ "java/lang/invoke/VarHandle" := ⟨by decide, by decide⟩
theorem pn_M_grow : (parseMethodDescriptor y_M_grow.desc).map (fun d => d.parameters.length) = some 3 := by decide +kernel
theorem nh_M_grow : y_M_grow.cls ≠ "java/lang/invoke/MethodHandle" ∧ y_M_grow.cls ≠ "java/lang/invoke/VarHandle" := ⟨by decide, by decide⟩
theorem pn_M_grow1 : (parseMethodDescriptor y_M_grow1.desc).map (fun d => d.parameters.length) = some 1 := by decide +kernel
theorem nh_M_grow1 : y_M_grow1.cls ≠ "java/lang/invoke/MethodHandle" ∧ y_M_grow1.cls ≠ "java/lang/invoke/VarHandle" := ⟨by decide, by decide⟩
theorem pn_M_hash : (parseMethodDescriptor y_M_hash.desc).map (fun d => d.parameters.length) = some 1 := by decide +kernel
theorem nh_M_hash : y_M_hash.cls ≠ "java/lang/invoke/MethodHandle" ∧ y_M_hash.cls ≠ "java/lang/invoke/VarHandle" := ⟨by decide, by decide⟩
theorem pn_M_here : (parseMethodDescriptor y_M_here.desc).map (fun d => d.parameters.length) = some 1 := by decide +kernel
theorem nh_M_here : y_M_here.cls ≠ "java/lang/invoke/MethodHandle" ∧ y_M_here.cls ≠ "java/lang/invoke/VarHandle" := ⟨by decide, by decide⟩
theorem pn_M_in : (parseMethodDescriptor y_M_in.desc).map (fun d => d.parameters.length) = some 3 := by decide +kernel
theorem nh_M_in : y_M_in.cls ≠ "java/lang/invoke/MethodHandle" ∧ y_M_in.cls ≠ "java/lang/invoke/VarHandle" := ⟨by decide, by decide⟩
theorem pn_M_inverted : (parseMethodDescriptor y_M_inverted.desc).map (fun d => d.parameters.length) = some 0 := by decide +kernel
theorem nh_M_inverted : y_M_inverted.cls ≠ "java/lang/invoke/MethodHandle" ∧ y_M_inverted.cls ≠ "java/lang/invoke/VarHandle" := ⟨by decide, by decide⟩
theorem pn_M_isAlign : (parseMethodDescriptor y_M_isAlign.desc).map (fun d => d.parameters.length) = some 1 := by decide +kernel
theorem nh_M_isAlign : y_M_isAlign.cls ≠ "java/lang/invoke/MethodHandle" ∧ y_M_isAlign.cls ≠ "java/lang/invoke/VarHandle" := ⟨by decide, by decide⟩
theorem pn_M_isNumber : (parseMethodDescriptor y_M_isNumber.desc).map (fun d => d.parameters.length) = some 1 := by decide +kernel
theorem nh_M_isNumber : y_M_isNumber.cls ≠ "java/lang/invoke/MethodHandle" ∧ y_M_isNumber.cls ≠ "java/lang/invoke/VarHandle" := ⟨by decide, by decide⟩
theorem pn_M_isReal : (parseMethodDescriptor y_M_isReal.desc).map (fun d => d.parameters.length) = some 1 := by decide +kernel
theorem nh_M_isReal : y_M_isReal.cls ≠ "java/lang/invoke/MethodHandle" ∧ y_M_isReal.cls ≠ "java/lang/invoke/VarHandle" := ⟨by decide, by decide⟩
theorem pn_M_kind : (parseMethodDescriptor y_M_kind.desc).map (fun d => d.parameters.length) = some 1 := by decide +kernel
theorem nh_M_kind : y_M_kind.cls ≠ "java/lang/invoke/MethodHandle" ∧ y_M_kind.cls ≠ "java/lang/invoke/VarHandle" := ⟨by decide, by decide⟩
theorem pn_M_leads : (parseMethodDescriptor y_M_leads.desc).map (fun d => d.parameters.length) = some 2 := by decide +kernel
theorem nh_M_leads : y_M_leads.cls ≠ "java/lang/invoke/MethodHandle" ∧ y_M_leads.cls ≠ "java/lang/invoke/VarHandle" := ⟨by decide, by decide⟩
theorem pn_M_less : (parseMethodDescriptor y_M_less.desc).map (fun d => d.parameters.length) = some 3 := by decide +kernel
theorem nh_M_less : y_M_less.cls ≠ "java/lang/invoke/MethodHandle" ∧ y_M_less.cls ≠ "java/lang/invoke/VarHandle" := ⟨by decide, by decide⟩
theorem pn_M_letter : (parseMethodDescriptor y_M_letter.desc).map (fun d => d.parameters.length) = some 1 := by decide +kernel
theorem nh_M_letter : y_M_letter.cls ≠ "java/lang/invoke/MethodHandle" ∧ y_M_letter.cls ≠ "java/lang/invoke/VarHandle" := ⟨by decide, by decide⟩
theorem pn_M_limb : (parseMethodDescriptor y_M_limb.desc).map (fun d => d.parameters.length) = some 2 := by decide +kernel
theorem nh_M_limb : y_M_limb.cls ≠ "java/lang/invoke/MethodHandle" ∧ y_M_limb.cls ≠ "java/lang/invoke/VarHandle" := ⟨by decide, by decide⟩
theorem pn_M_low : (parseMethodDescriptor y_M_low.desc).map (fun d => d.parameters.length) = some 1 := by decide +kernel
theorem nh_M_low : y_M_low.cls ≠ "java/lang/invoke/MethodHandle" ∧ y_M_low.cls ≠ "java/lang/invoke/VarHandle" := ⟨by decide, by decide⟩
theorem pn_M_lowest : (parseMethodDescriptor y_M_lowest.desc).map (fun d => d.parameters.length) = some 2 := by decide +kernel
theorem nh_M_lowest : y_M_lowest.cls ≠ "java/lang/invoke/MethodHandle" ∧ y_M_lowest.cls ≠ "java/lang/invoke/VarHandle" := ⟨by decide, by decide⟩
theorem pn_M_meet : (parseMethodDescriptor y_M_meet.desc).map (fun d => d.parameters.length) = some 2 := by decide +kernel
theorem nh_M_meet : y_M_meet.cls ≠ "java/lang/invoke/MethodHandle" ∧ y_M_meet.cls ≠ "java/lang/invoke/VarHandle" := ⟨by decide, by decide⟩
theorem pn_M_mixed : (parseMethodDescriptor y_M_mixed.desc).map (fun d => d.parameters.length) = some 1 := by decide +kernel
theorem nh_M_mixed : y_M_mixed.cls ≠ "java/lang/invoke/MethodHandle" ∧ y_M_mixed.cls ≠ "java/lang/invoke/VarHandle" := ⟨by decide, by decide⟩
theorem pn_M_modulo : (parseMethodDescriptor y_M_modulo.desc).map (fun d => d.parameters.length) = some 1 := by decide +kernel
theorem nh_M_modulo : y_M_modulo.cls ≠ "java/lang/invoke/MethodHandle" ∧ y_M_modulo.cls ≠ "java/lang/invoke/VarHandle" := ⟨by decide, by decide⟩
theorem pn_M_moved : (parseMethodDescriptor y_M_moved.desc).map (fun d => d.parameters.length) = some 1 := by decide +kernel
theorem nh_M_moved : y_M_moved.cls ≠ "java/lang/invoke/MethodHandle" ∧ y_M_moved.cls ≠ "java/lang/invoke/VarHandle" := ⟨by decide, by decide⟩
theorem pn_M_multiplied : (parseMethodDescriptor y_M_multiplied.desc).map (fun d => d.parameters.length) = some 2 := by decide +kernel
theorem nh_M_multiplied : y_M_multiplied.cls ≠ "java/lang/invoke/MethodHandle" ∧ y_M_multiplied.cls ≠ "java/lang/invoke/VarHandle" := ⟨by decide, by decide⟩
theorem pn_M_nearest : (parseMethodDescriptor y_M_nearest.desc).map (fun d => d.parameters.length) = some 2 := by decide +kernel
theorem nh_M_nearest : y_M_nearest.cls ≠ "java/lang/invoke/MethodHandle" ∧ y_M_nearest.cls ≠ "java/lang/invoke/VarHandle" := ⟨by decide, by decide⟩
theorem pn_M_order : (parseMethodDescriptor y_M_order.desc).map (fun d => d.parameters.length) = some 2 := by decide +kernel
theorem nh_M_order : y_M_order.cls ≠ "java/lang/invoke/MethodHandle" ∧ y_M_order.cls ≠ "java/lang/invoke/VarHandle" := ⟨by decide, by decide⟩
theorem pn_M_pad : (parseMethodDescriptor y_M_pad.desc).map (fun d => d.parameters.length) = some 4 := by decide +kernel
theorem nh_M_pad : y_M_pad.cls ≠ "java/lang/invoke/MethodHandle" ∧ y_M_pad.cls ≠ "java/lang/invoke/VarHandle" := ⟨by decide, by decide⟩
theorem pn_M_parsed : (parseMethodDescriptor y_M_parsed.desc).map (fun d => d.parameters.length) = some 0 := by decide +kernel
theorem nh_M_parsed : y_M_parsed.cls ≠ "java/lang/invoke/MethodHandle" ∧ y_M_parsed.cls ≠ "java/lang/invoke/VarHandle" := ⟨by decide, by decide⟩
theorem pn_M_part : (parseMethodDescriptor y_M_part.desc).map (fun d => d.parameters.length) = some 3 := by decide +kernel
theorem nh_M_part : y_M_part.cls ≠ "java/lang/invoke/MethodHandle" ∧ y_M_part.cls ≠ "java/lang/invoke/VarHandle" := ⟨by decide, by decide⟩
theorem pn_M_plus : (parseMethodDescriptor y_M_plus.desc).map (fun d => d.parameters.length) = some 0 := by decide +kernel
theorem nh_M_plus : y_M_plus.cls ≠ "java/lang/invoke/MethodHandle" ∧ y_M_plus.cls ≠ "java/lang/invoke/VarHandle" := ⟨by decide, by decide⟩
theorem pn_M_power : (parseMethodDescriptor y_M_power.desc).map (fun d => d.parameters.length) = some 4 := by decide +kernel
theorem nh_M_power : y_M_power.cls ≠ "java/lang/invoke/MethodHandle" ∧ y_M_power.cls ≠ "java/lang/invoke/VarHandle" := ⟨by decide, by decide⟩
theorem pn_M_powered : (parseMethodDescriptor y_M_powered.desc).map (fun d => d.parameters.length) = some 2 := by decide +kernel
theorem nh_M_powered : y_M_powered.cls ≠ "java/lang/invoke/MethodHandle" ∧ y_M_powered.cls ≠ "java/lang/invoke/VarHandle" := ⟨by decide, by decide⟩
theorem pn_M_product : (parseMethodDescriptor y_M_product.desc).map (fun d => d.parameters.length) = some 0 := by decide +kernel
theorem nh_M_product : y_M_product.cls ≠ "java/lang/invoke/MethodHandle" ∧ y_M_product.cls ≠ "java/lang/invoke/VarHandle" := ⟨by decide, by decide⟩
theorem pn_M_put : (parseMethodDescriptor y_M_put.desc).map (fun d => d.parameters.length) = some 2 := by decide +kernel
theorem nh_M_put : y_M_put.cls ≠ "java/lang/invoke/MethodHandle" ∧ y_M_put.cls ≠ "java/lang/invoke/VarHandle" := ⟨by decide, by decide⟩
theorem pn_M_quotient : (parseMethodDescriptor y_M_quotient.desc).map (fun d => d.parameters.length) = some 3 := by decide +kernel
theorem nh_M_quotient : y_M_quotient.cls ≠ "java/lang/invoke/MethodHandle" ∧ y_M_quotient.cls ≠ "java/lang/invoke/VarHandle" := ⟨by decide, by decide⟩
theorem pn_M_ratio : (parseMethodDescriptor y_M_ratio.desc).map (fun d => d.parameters.length) = some 0 := by decide +kernel
theorem nh_M_ratio : y_M_ratio.cls ≠ "java/lang/invoke/MethodHandle" ∧ y_M_ratio.cls ≠ "java/lang/invoke/VarHandle" := ⟨by decide, by decide⟩
theorem pn_M_reaches : (parseMethodDescriptor y_M_reaches.desc).map (fun d => d.parameters.length) = some 1 := by decide +kernel
theorem nh_M_reaches : y_M_reaches.cls ≠ "java/lang/invoke/MethodHandle" ∧ y_M_reaches.cls ≠ "java/lang/invoke/VarHandle" := ⟨by decide, by decide⟩
theorem pn_M_read : (parseMethodDescriptor y_M_read.desc).map (fun d => d.parameters.length) = some 1 := by decide +kernel
theorem nh_M_read : y_M_read.cls ≠ "java/lang/invoke/MethodHandle" ∧ y_M_read.cls ≠ "java/lang/invoke/VarHandle" := ⟨by decide, by decide⟩
theorem pn_M_real : (parseMethodDescriptor y_M_real.desc).map (fun d => d.parameters.length) = some 2 := by decide +kernel
theorem nh_M_real : y_M_real.cls ≠ "java/lang/invoke/MethodHandle" ∧ y_M_real.cls ≠ "java/lang/invoke/VarHandle" := ⟨by decide, by decide⟩
theorem pn_M_reduce : (parseMethodDescriptor y_M_reduce.desc).map (fun d => d.parameters.length) = some 2 := by decide +kernel
theorem nh_M_reduce : y_M_reduce.cls ≠ "java/lang/invoke/MethodHandle" ∧ y_M_reduce.cls ≠ "java/lang/invoke/VarHandle" := ⟨by decide, by decide⟩
theorem pn_M_rest : (parseMethodDescriptor y_M_rest.desc).map (fun d => d.parameters.length) = some 0 := by decide +kernel
theorem nh_M_rest : y_M_rest.cls ≠ "java/lang/invoke/MethodHandle" ∧ y_M_rest.cls ≠ "java/lang/invoke/VarHandle" := ⟨by decide, by decide⟩
theorem pn_M_round : (parseMethodDescriptor y_M_round.desc).map (fun d => d.parameters.length) = some 3 := by decide +kernel
theorem nh_M_round : y_M_round.cls ≠ "java/lang/invoke/MethodHandle" ∧ y_M_round.cls ≠ "java/lang/invoke/VarHandle" := ⟨by decide, by decide⟩
theorem pn_M_rounded : (parseMethodDescriptor y_M_rounded.desc).map (fun d => d.parameters.length) = some 2 := by decide +kernel
theorem nh_M_rounded : y_M_rounded.cls ≠ "java/lang/invoke/MethodHandle" ∧ y_M_rounded.cls ≠ "java/lang/invoke/VarHandle" := ⟨by decide, by decide⟩
theorem pn_M_say : (parseMethodDescriptor y_M_say.desc).map (fun d => d.parameters.length) = some 1 := by decide +kernel
theorem nh_M_say : y_M_say.cls ≠ "java/lang/invoke/MethodHandle" ∧ y_M_say.cls ≠ "java/lang/invoke/VarHandle" := ⟨by decide, by decide⟩
theorem pn_M_sayDigits : (parseMethodDescriptor y_M_sayDigits.desc).map (fun d => d.parameters.length) = some 5 := by decide +kernel
theorem nh_M_sayDigits : y_M_sayDigits.cls ≠ "java/lang/invoke/MethodHandle" ∧ y_M_sayDigits.cls ≠ "java/lang/invoke/VarHandle" := ⟨by decide, by decide⟩
theorem pn_M_sayExponent : (parseMethodDescriptor y_M_sayExponent.desc).map (fun d => d.parameters.length) = some 2 := by decide +kernel
theorem nh_M_sayExponent : y_M_sayExponent.cls ≠ "java/lang/invoke/MethodHandle" ∧ y_M_sayExponent.cls ≠ "java/lang/invoke/VarHandle" := ⟨by decide, by decide⟩
theorem pn_M_sayFixed : (parseMethodDescriptor y_M_sayFixed.desc).map (fun d => d.parameters.length) = some 1 := by decide +kernel
theorem nh_M_sayFixed : y_M_sayFixed.cls ≠ "java/lang/invoke/MethodHandle" ∧ y_M_sayFixed.cls ≠ "java/lang/invoke/VarHandle" := ⟨by decide, by decide⟩
theorem pn_M_sayFloat : (parseMethodDescriptor y_M_sayFloat.desc).map (fun d => d.parameters.length) = some 3 := by decide +kernel
theorem nh_M_sayFloat : y_M_sayFloat.cls ≠ "java/lang/invoke/MethodHandle" ∧ y_M_sayFloat.cls ≠ "java/lang/invoke/VarHandle" := ⟨by decide, by decide⟩
theorem pn_M_sayGeneral : (parseMethodDescriptor y_M_sayGeneral.desc).map (fun d => d.parameters.length) = some 1 := by decide +kernel
theorem nh_M_sayGeneral : y_M_sayGeneral.cls ≠ "java/lang/invoke/MethodHandle" ∧ y_M_sayGeneral.cls ≠ "java/lang/invoke/VarHandle" := ⟨by decide, by decide⟩
theorem pn_M_sayReal : (parseMethodDescriptor y_M_sayReal.desc).map (fun d => d.parameters.length) = some 1 := by decide +kernel
theorem nh_M_sayReal : y_M_sayReal.cls ≠ "java/lang/invoke/MethodHandle" ∧ y_M_sayReal.cls ≠ "java/lang/invoke/VarHandle" := ⟨by decide, by decide⟩
theorem pn_M_shift : (parseMethodDescriptor y_M_shift.desc).map (fun d => d.parameters.length) = some 1 := by decide +kernel
theorem nh_M_shift : y_M_shift.cls ≠ "java/lang/invoke/MethodHandle" ∧ y_M_shift.cls ≠ "java/lang/invoke/VarHandle" := ⟨by decide, by decide⟩
theorem pn_M_shortest : (parseMethodDescriptor y_M_shortest.desc).map (fun d => d.parameters.length) = some 1 := by decide +kernel
theorem nh_M_shortest : y_M_shortest.cls ≠ "java/lang/invoke/MethodHandle" ∧ y_M_shortest.cls ≠ "java/lang/invoke/VarHandle" := ⟨by decide, by decide⟩
theorem pn_M_show : (parseMethodDescriptor y_M_show.desc).map (fun d => d.parameters.length) = some 1 := by decide +kernel
theorem nh_M_show : y_M_show.cls ≠ "java/lang/invoke/MethodHandle" ∧ y_M_show.cls ≠ "java/lang/invoke/VarHandle" := ⟨by decide, by decide⟩
theorem pn_M_shownSize : (parseMethodDescriptor y_M_shownSize.desc).map (fun d => d.parameters.length) = some 0 := by decide +kernel
theorem nh_M_shownSize : y_M_shownSize.cls ≠ "java/lang/invoke/MethodHandle" ∧ y_M_shownSize.cls ≠ "java/lang/invoke/VarHandle" := ⟨by decide, by decide⟩
theorem pn_M_shrink : (parseMethodDescriptor y_M_shrink.desc).map (fun d => d.parameters.length) = some 2 := by decide +kernel
theorem nh_M_shrink : y_M_shrink.cls ≠ "java/lang/invoke/MethodHandle" ∧ y_M_shrink.cls ≠ "java/lang/invoke/VarHandle" := ⟨by decide, by decide⟩
theorem pn_M_sign : (parseMethodDescriptor y_M_sign.desc).map (fun d => d.parameters.length) = some 2 := by decide +kernel
theorem nh_M_sign : y_M_sign.cls ≠ "java/lang/invoke/MethodHandle" ∧ y_M_sign.cls ≠ "java/lang/invoke/VarHandle" := ⟨by decide, by decide⟩
theorem pn_M_small : (parseMethodDescriptor y_M_small.desc).map (fun d => d.parameters.length) = some 1 := by decide +kernel
theorem nh_M_small : y_M_small.cls ≠ "java/lang/invoke/MethodHandle" ∧ y_M_small.cls ≠ "java/lang/invoke/VarHandle" := ⟨by decide, by decide⟩
theorem pn_M_spec : (parseMethodDescriptor y_M_spec.desc).map (fun d => d.parameters.length) = some 1 := by decide +kernel
theorem nh_M_spec : y_M_spec.cls ≠ "java/lang/invoke/MethodHandle" ∧ y_M_spec.cls ≠ "java/lang/invoke/VarHandle" := ⟨by decide, by decide⟩
theorem pn_M_spell : (parseMethodDescriptor y_M_spell.desc).map (fun d => d.parameters.length) = some 3 := by decide +kernel
theorem nh_M_spell : y_M_spell.cls ≠ "java/lang/invoke/MethodHandle" ∧ y_M_spell.cls ≠ "java/lang/invoke/VarHandle" := ⟨by decide, by decide⟩
theorem pn_M_split : (parseMethodDescriptor y_M_split.desc).map (fun d => d.parameters.length) = some 3 := by decide +kernel
theorem nh_M_split : y_M_split.cls ≠ "java/lang/invoke/MethodHandle" ∧ y_M_split.cls ≠ "java/lang/invoke/VarHandle" := ⟨by decide, by decide⟩
theorem pn_M_step : (parseMethodDescriptor y_M_step.desc).map (fun d => d.parameters.length) = some 2 := by decide +kernel
theorem nh_M_step : y_M_step.cls ≠ "java/lang/invoke/MethodHandle" ∧ y_M_step.cls ≠ "java/lang/invoke/VarHandle" := ⟨by decide, by decide⟩
theorem pn_M_store : (parseMethodDescriptor y_M_store.desc).map (fun d => d.parameters.length) = some 3 := by decide +kernel
theorem nh_M_store : y_M_store.cls ≠ "java/lang/invoke/MethodHandle" ∧ y_M_store.cls ≠ "java/lang/invoke/VarHandle" := ⟨by decide, by decide⟩
theorem pn_M_sum : (parseMethodDescriptor y_M_sum.desc).map (fun d => d.parameters.length) = some 2 := by decide +kernel
theorem nh_M_sum : y_M_sum.cls ≠ "java/lang/invoke/MethodHandle" ∧ y_M_sum.cls ≠ "java/lang/invoke/VarHandle" := ⟨by decide, by decide⟩
theorem pn_M_takes2 : (parseMethodDescriptor y_M_takes2.desc).map (fun d => d.parameters.length) = some 1 := by decide +kernel
theorem nh_M_takes2 : y_M_takes2.cls ≠ "java/lang/invoke/MethodHandle" ∧ y_M_takes2.cls ≠ "java/lang/invoke/VarHandle" := ⟨by decide, by decide⟩
theorem pn_M_takes : (parseMethodDescriptor y_M_takes.desc).map (fun d => d.parameters.length) = some 3 := by decide +kernel
theorem nh_M_takes : y_M_takes.cls ≠ "java/lang/invoke/MethodHandle" ∧ y_M_takes.cls ≠ "java/lang/invoke/VarHandle" := ⟨by decide, by decide⟩
theorem pn_M_tens : (parseMethodDescriptor y_M_tens.desc).map (fun d => d.parameters.length) = some 2 := by decide +kernel
theorem nh_M_tens : y_M_tens.cls ≠ "java/lang/invoke/MethodHandle" ∧ y_M_tens.cls ≠ "java/lang/invoke/VarHandle" := ⟨by decide, by decide⟩
theorem pn_M_thrown : (parseMethodDescriptor y_M_thrown.desc).map (fun d => d.parameters.length) = some 0 := by decide +kernel
theorem nh_M_thrown : y_M_thrown.cls ≠ "java/lang/invoke/MethodHandle" ∧ y_M_thrown.cls ≠ "java/lang/invoke/VarHandle" := ⟨by decide, by decide⟩
theorem pn_M_times : (parseMethodDescriptor y_M_times.desc).map (fun d => d.parameters.length) = some 3 := by decide +kernel
theorem nh_M_times : y_M_times.cls ≠ "java/lang/invoke/MethodHandle" ∧ y_M_times.cls ≠ "java/lang/invoke/VarHandle" := ⟨by decide, by decide⟩
theorem pn_M_trim : (parseMethodDescriptor y_M_trim.desc).map (fun d => d.parameters.length) = some 1 := by decide +kernel
theorem nh_M_trim : y_M_trim.cls ≠ "java/lang/invoke/MethodHandle" ∧ y_M_trim.cls ≠ "java/lang/invoke/VarHandle" := ⟨by decide, by decide⟩
theorem pn_M_turn : (parseMethodDescriptor y_M_turn.desc).map (fun d => d.parameters.length) = some 3 := by decide +kernel
theorem nh_M_turn : y_M_turn.cls ≠ "java/lang/invoke/MethodHandle" ∧ y_M_turn.cls ≠ "java/lang/invoke/VarHandle" := ⟨by decide, by decide⟩
theorem pn_M_twice : (parseMethodDescriptor y_M_twice.desc).map (fun d => d.parameters.length) = some 1 := by decide +kernel
theorem nh_M_twice : y_M_twice.cls ≠ "java/lang/invoke/MethodHandle" ∧ y_M_twice.cls ≠ "java/lang/invoke/VarHandle" := ⟨by decide, by decide⟩
theorem pn_M_two : (parseMethodDescriptor y_M_two.desc).map (fun d => d.parameters.length) = some 0 := by decide +kernel
theorem nh_M_two : y_M_two.cls ≠ "java/lang/invoke/MethodHandle" ∧ y_M_two.cls ≠ "java/lang/invoke/VarHandle" := ⟨by decide, by decide⟩
theorem pn_M_up : (parseMethodDescriptor y_M_up.desc).map (fun d => d.parameters.length) = some 2 := by decide +kernel
theorem nh_M_up : y_M_up.cls ≠ "java/lang/invoke/MethodHandle" ∧ y_M_up.cls ≠ "java/lang/invoke/VarHandle" := ⟨by decide, by decide⟩
theorem pn_M_value : (parseMethodDescriptor y_M_value.desc).map (fun d => d.parameters.length) = some 1 := by decide +kernel
theorem nh_M_value : y_M_value.cls ≠ "java/lang/invoke/MethodHandle" ∧ y_M_value.cls ≠ "java/lang/invoke/VarHandle" := ⟨by decide, by decide⟩
theorem pn_M_whole : (parseMethodDescriptor y_M_whole.desc).map (fun d => d.parameters.length) = some 2 := by decide +kernel
theorem nh_M_whole : y_M_whole.cls ≠ "java/lang/invoke/MethodHandle" ∧ y_M_whole.cls ≠ "java/lang/invoke/VarHandle" := ⟨by decide, by decide⟩
theorem pn_M_wipe : (parseMethodDescriptor y_M_wipe.desc).map (fun d => d.parameters.length) = some 0 := by decide +kernel
theorem nh_M_wipe : y_M_wipe.cls ≠ "java/lang/invoke/MethodHandle" ∧ y_M_wipe.cls ≠ "java/lang/invoke/VarHandle" := ⟨by decide, by decide⟩
theorem pn_M_write : (parseMethodDescriptor y_M_write.desc).map (fun d => d.parameters.length) = some 1 := by decide +kernel
theorem nh_M_write : y_M_write.cls ≠ "java/lang/invoke/MethodHandle" ∧ y_M_write.cls ≠ "java/lang/invoke/VarHandle" := ⟨by decide, by decide⟩
theorem pn_M_zero : (parseMethodDescriptor y_M_zero.desc).map (fun d => d.parameters.length) = some 1 := by decide +kernel
theorem nh_M_zero : y_M_zero.cls ≠ "java/lang/invoke/MethodHandle" ∧ y_M_zero.cls ≠ "java/lang/invoke/VarHandle" := ⟨by decide, by decide⟩
theorem pn_JAE_init : (parseMethodDescriptor y_JAE_init.desc).map (fun d => d.parameters.length) = some 1 := by decide +kernel
theorem nh_JAE_init : y_JAE_init.cls ≠ "java/lang/invoke/MethodHandle" ∧ y_JAE_init.cls ≠ "java/lang/invoke/VarHandle" := ⟨by decide, by decide⟩
theorem pn_JException_init : (parseMethodDescriptor y_JException_init.desc).map (fun d => d.parameters.length) = some 1 := by decide +kernel
theorem nh_JException_init : y_JException_init.cls ≠ "java/lang/invoke/MethodHandle" ∧ y_JException_init.cls ≠ "java/lang/invoke/VarHandle" := ⟨by decide, by decide⟩
theorem pn_JIAE_init : (parseMethodDescriptor y_JIAE_init.desc).map (fun d => d.parameters.length) = some 1 := by decide +kernel
theorem nh_JIAE_init : y_JIAE_init.cls ≠ "java/lang/invoke/MethodHandle" ∧ y_JIAE_init.cls ≠ "java/lang/invoke/VarHandle" := ⟨by decide, by decide⟩
theorem pn_JISE_init : (parseMethodDescriptor y_JISE_init.desc).map (fun d => d.parameters.length) = some 1 := by decide +kernel
theorem nh_JISE_init : y_JISE_init.cls ≠ "java/lang/invoke/MethodHandle" ∧ y_JISE_init.cls ≠ "java/lang/invoke/VarHandle" := ⟨by decide, by decide⟩
theorem pn_JLong_bitCount : (parseMethodDescriptor y_JLong_bitCount.desc).map (fun d => d.parameters.length) = some 1 := by decide +kernel
theorem nh_JLong_bitCount : y_JLong_bitCount.cls ≠ "java/lang/invoke/MethodHandle" ∧ y_JLong_bitCount.cls ≠ "java/lang/invoke/VarHandle" := ⟨by decide, by decide⟩
theorem pn_JLong_compare : (parseMethodDescriptor y_JLong_compare.desc).map (fun d => d.parameters.length) = some 2 := by decide +kernel
theorem nh_JLong_compare : y_JLong_compare.cls ≠ "java/lang/invoke/MethodHandle" ∧ y_JLong_compare.cls ≠ "java/lang/invoke/VarHandle" := ⟨by decide, by decide⟩
theorem pn_JMath_abs : (parseMethodDescriptor y_JMath_abs.desc).map (fun d => d.parameters.length) = some 1 := by decide +kernel
theorem nh_JMath_abs : y_JMath_abs.cls ≠ "java/lang/invoke/MethodHandle" ∧ y_JMath_abs.cls ≠ "java/lang/invoke/VarHandle" := ⟨by decide, by decide⟩
theorem pn_JMath_floorDiv : (parseMethodDescriptor y_JMath_floorDiv.desc).map (fun d => d.parameters.length) = some 2 := by decide +kernel
theorem nh_JMath_floorDiv : y_JMath_floorDiv.cls ≠ "java/lang/invoke/MethodHandle" ∧ y_JMath_floorDiv.cls ≠ "java/lang/invoke/VarHandle" := ⟨by decide, by decide⟩
theorem pn_JMath_max : (parseMethodDescriptor y_JMath_max.desc).map (fun d => d.parameters.length) = some 2 := by decide +kernel
theorem nh_JMath_max : y_JMath_max.cls ≠ "java/lang/invoke/MethodHandle" ∧ y_JMath_max.cls ≠ "java/lang/invoke/VarHandle" := ⟨by decide, by decide⟩
theorem pn_JMath_min : (parseMethodDescriptor y_JMath_min.desc).map (fun d => d.parameters.length) = some 2 := by decide +kernel
theorem nh_JMath_min : y_JMath_min.cls ≠ "java/lang/invoke/MethodHandle" ∧ y_JMath_min.cls ≠ "java/lang/invoke/VarHandle" := ⟨by decide, by decide⟩
theorem pn_JMath_min2 : (parseMethodDescriptor y_JMath_min2.desc).map (fun d => d.parameters.length) = some 2 := by decide +kernel
theorem nh_JMath_min2 : y_JMath_min2.cls ≠ "java/lang/invoke/MethodHandle" ∧ y_JMath_min2.cls ≠ "java/lang/invoke/VarHandle" := ⟨by decide, by decide⟩
theorem pn_JRuntime_init : (parseMethodDescriptor y_JRuntime_init.desc).map (fun d => d.parameters.length) = some 1 := by decide +kernel
theorem nh_JRuntime_init : y_JRuntime_init.cls ≠ "java/lang/invoke/MethodHandle" ∧ y_JRuntime_init.cls ≠ "java/lang/invoke/VarHandle" := ⟨by decide, by decide⟩
theorem pn_JThrowable_init : (parseMethodDescriptor y_JThrowable_init.desc).map (fun d => d.parameters.length) = some 1 := by decide +kernel
theorem nh_JThrowable_init : y_JThrowable_init.cls ≠ "java/lang/invoke/MethodHandle" ∧ y_JThrowable_init.cls ≠ "java/lang/invoke/VarHandle" := ⟨by decide, by decide⟩
theorem pn_JArrays_fill : (parseMethodDescriptor y_JArrays_fill.desc).map (fun d => d.parameters.length) = some 2 := by decide +kernel
theorem nh_JArrays_fill : y_JArrays_fill.cls ≠ "java/lang/invoke/MethodHandle" ∧ y_JArrays_fill.cls ≠ "java/lang/invoke/VarHandle" := ⟨by decide, by decide⟩
end JLINKS
