/-! names: the classes whose objects the worlds hold, their fields in the order of the tables -/
def a_cn : Nat → String := fun c => match c with
  | 0 => "ModuleSigner"
  | 1 => "ModuleSigner$Bytes"
  | 2 => "ModuleSigner$Parameters"
  | 3 => "ModuleSigner$Bench"
  | 4 => "ModuleSigner$KeyMaker"
  | 5 => "ModuleSigner$Signer"
  | 6 => "ModuleSigner$Verifier"
  | 7 => "ModuleSigner$Sponge"
  | 8 => "ModuleSigner$Sampler"
  | 9 => "ModuleSigner$Ring"
  | _ => "ModuleSignerModel"
def a_T0 : u_T := fun k => match k with
  | 0 => ("ModuleSigner", "slots", "[LModuleSigner$Bytes;", true)
  | 1 => ("ModuleSigner", "tape", "LModuleSigner$Bytes;", true)
  | 2 => ("ModuleSigner", "sets", "[LModuleSigner$Parameters;", true)
  | 3 => ("ModuleSigner", "keyMaker", "LModuleSigner$KeyMaker;", true)
  | 4 => ("ModuleSigner", "signer", "LModuleSigner$Signer;", true)
  | _ => ("ModuleSigner", "verifier", "LModuleSigner$Verifier;", true)
def a_t0 : Nat → FieldType := fun k => match k with
  | 0 => .array (.object "ModuleSigner$Bytes")
  | 1 => .object "ModuleSigner$Bytes"
  | 2 => .array (.object "ModuleSigner$Parameters")
  | 3 => .object "ModuleSigner$KeyMaker"
  | 4 => .object "ModuleSigner$Signer"
  | _ => .object "ModuleSigner$Verifier"
def a_T1 : u_T := fun k => match k with
  | 0 => ("ModuleSigner$Bytes", "row", "[B", true)
  | _ => ("ModuleSigner$Bytes", "count", "I", false)
def a_t1 : Nat → FieldType := fun k => match k with
  | 0 => .array (.byte)
  | _ => .int
def a_T2 : u_T := fun k => match k with
  | 0 => ("ModuleSigner$Parameters", "k", "I", true)
  | 1 => ("ModuleSigner$Parameters", "l", "I", true)
  | 2 => ("ModuleSigner$Parameters", "e", "I", true)
  | 3 => ("ModuleSigner$Parameters", "t", "I", true)
  | 4 => ("ModuleSigner$Parameters", "g1", "I", true)
  | 5 => ("ModuleSigner$Parameters", "g2", "I", true)
  | 6 => ("ModuleSigner$Parameters", "w", "I", true)
  | 7 => ("ModuleSigner$Parameters", "c", "I", true)
  | 8 => ("ModuleSigner$Parameters", "highs", "I", true)
  | 9 => ("ModuleSigner$Parameters", "bound", "I", true)
  | 10 => ("ModuleSigner$Parameters", "smallBits", "I", true)
  | 11 => ("ModuleSigner$Parameters", "maskBits", "I", true)
  | 12 => ("ModuleSigner$Parameters", "highBits", "I", true)
  | 13 => ("ModuleSigner$Parameters", "publicSize", "I", true)
  | 14 => ("ModuleSigner$Parameters", "secretSize", "I", true)
  | _ => ("ModuleSigner$Parameters", "packetSize", "I", true)
def a_t2 : Nat → FieldType := fun k => match k with
  | 0 => .int
  | 1 => .int
  | 2 => .int
  | 3 => .int
  | 4 => .int
  | 5 => .int
  | 6 => .int
  | 7 => .int
  | 8 => .int
  | 9 => .int
  | 10 => .int
  | 11 => .int
  | 12 => .int
  | 13 => .int
  | 14 => .int
  | _ => .int
def a_T3 : u_T := fun k => match k with
  | 0 => ("ModuleSigner$Bench", "sampler", "LModuleSigner$Sampler;", true)
  | 1 => ("ModuleSigner$Bench", "sponge", "LModuleSigner$Sponge;", true)
  | 2 => ("ModuleSigner$Bench", "ring", "LModuleSigner$Ring;", true)
  | 3 => ("ModuleSigner$Bench", "matrix", "[[I", true)
  | 4 => ("ModuleSigner$Bench", "secrets", "[[I", true)
  | 5 => ("ModuleSigner$Bench", "errors", "[[I", true)
  | 6 => ("ModuleSigner$Bench", "answers", "[[I", true)
  | 7 => ("ModuleSigner$Bench", "images", "[[I", true)
  | 8 => ("ModuleSigner$Bench", "ball", "[I", true)
  | 9 => ("ModuleSigner$Bench", "product", "[I", true)
  | 10 => ("ModuleSigner$Bench", "digest", "LModuleSigner$Bytes;", true)
  | 11 => ("ModuleSigner$Bench", "challenge", "LModuleSigner$Bytes;", true)
  | _ => ("ModuleSigner$Bench", "packed", "LModuleSigner$Bytes;", true)
def a_t3 : Nat → FieldType := fun k => match k with
  | 0 => .object "ModuleSigner$Sampler"
  | 1 => .object "ModuleSigner$Sponge"
  | 2 => .object "ModuleSigner$Ring"
  | 3 => .array (.array (.int))
  | 4 => .array (.array (.int))
  | 5 => .array (.array (.int))
  | 6 => .array (.array (.int))
  | 7 => .array (.array (.int))
  | 8 => .array (.int)
  | 9 => .array (.int)
  | 10 => .object "ModuleSigner$Bytes"
  | 11 => .object "ModuleSigner$Bytes"
  | _ => .object "ModuleSigner$Bytes"
def a_T4 : u_T := fun k => match k with
  | 0 => ("ModuleSigner$KeyMaker", "bench", "LModuleSigner$Bench;", true)
  | _ => ("ModuleSigner$KeyMaker", "seeds", "LModuleSigner$Bytes;", true)
def a_t4 : Nat → FieldType := fun k => match k with
  | 0 => .object "ModuleSigner$Bench"
  | _ => .object "ModuleSigner$Bytes"
def a_T5 : u_T := fun k => match k with
  | 0 => ("ModuleSigner$Signer", "bench", "LModuleSigner$Bench;", true)
  | 1 => ("ModuleSigner$Signer", "drops", "[[I", true)
  | 2 => ("ModuleSigner$Signer", "masks", "[[I", true)
  | 3 => ("ModuleSigner$Signer", "maskSeed", "LModuleSigner$Bytes;", true)
  | 4 => ("ModuleSigner$Signer", "hints", "LModuleSigner$Bytes;", true)
  | _ => ("ModuleSigner$Signer", "ends", "LModuleSigner$Bytes;", true)
def a_t5 : Nat → FieldType := fun k => match k with
  | 0 => .object "ModuleSigner$Bench"
  | 1 => .array (.array (.int))
  | 2 => .array (.array (.int))
  | 3 => .object "ModuleSigner$Bytes"
  | 4 => .object "ModuleSigner$Bytes"
  | _ => .object "ModuleSigner$Bytes"
def a_T6 : u_T := fun k => match k with
  | 0 => ("ModuleSigner$Verifier", "bench", "LModuleSigner$Bench;", true)
  | 1 => ("ModuleSigner$Verifier", "keyHash", "LModuleSigner$Bytes;", true)
  | _ => ("ModuleSigner$Verifier", "found", "LModuleSigner$Bytes;", true)
def a_t6 : Nat → FieldType := fun k => match k with
  | 0 => .object "ModuleSigner$Bench"
  | 1 => .object "ModuleSigner$Bytes"
  | _ => .object "ModuleSigner$Bytes"
def a_T7 : u_T := fun k => match k with
  | 0 => ("ModuleSigner$Sponge", "lanes", "[J", true)
  | 1 => ("ModuleSigner$Sponge", "moved", "[J", true)
  | 2 => ("ModuleSigner$Sponge", "columns", "[J", true)
  | 3 => ("ModuleSigner$Sponge", "rate", "I", false)
  | _ => ("ModuleSigner$Sponge", "place", "I", false)
def a_t7 : Nat → FieldType := fun k => match k with
  | 0 => .array (.long)
  | 1 => .array (.long)
  | 2 => .array (.long)
  | 3 => .int
  | _ => .int
def a_T8 : u_T := fun k => match k with
  | _ => ("ModuleSigner$Sampler", "sponge", "LModuleSigner$Sponge;", true)
def a_t8 : Nat → FieldType := fun k => match k with
  | _ => .object "ModuleSigner$Sponge"
def a_T9 : u_T := fun k => match k with
  | _ => ("ModuleSigner$Ring", "roots", "[I", true)
def a_t9 : Nat → FieldType := fun k => match k with
  | _ => .array (.int)
def a_T10 : u_T := fun k => match k with
  | 0 => ("ModuleSignerModel", "tape", "[B", true)
  | 1 => ("ModuleSignerModel", "slot", "[[B", true)
  | 2 => ("ModuleSignerModel", "length", "[I", true)
  | 3 => ("ModuleSignerModel", "taped", "I", false)
  | 4 => ("ModuleSignerModel", "code", "I", false)
  | 5 => ("ModuleSignerModel", "roots", "[J", true)
  | 6 => ("ModuleSignerModel", "cubes", "[J", true)
  | 7 => ("ModuleSignerModel", "start224", "[J", true)
  | 8 => ("ModuleSignerModel", "start256", "[J", true)
  | 9 => ("ModuleSignerModel", "limbs", "[J", true)
  | 10 => ("ModuleSignerModel", "product", "[J", true)
  | 11 => ("ModuleSignerModel", "turns", "[I", true)
  | 12 => ("ModuleSignerModel", "round", "[J", true)
  | 13 => ("ModuleSignerModel", "state", "[J", true)
  | 14 => ("ModuleSignerModel", "other", "[J", true)
  | 15 => ("ModuleSignerModel", "column", "[J", true)
  | 16 => ("ModuleSignerModel", "words", "[J", true)
  | 17 => ("ModuleSignerModel", "block", "[B", true)
  | 18 => ("ModuleSignerModel", "kind", "I", false)
  | 19 => ("ModuleSignerModel", "rate", "I", false)
  | 20 => ("ModuleSignerModel", "filled", "I", false)
  | 21 => ("ModuleSignerModel", "total", "J", false)
  | 22 => ("ModuleSignerModel", "inner", "[B", true)
  | 23 => ("ModuleSignerModel", "bitAt", "I", false)
  | 24 => ("ModuleSignerModel", "sum", "[J", true)
  | 25 => ("ModuleSignerModel", "seed", "[B", true)
  | 26 => ("ModuleSignerModel", "k", "I", false)
  | 27 => ("ModuleSignerModel", "powers", "[I", true)
  | 28 => ("ModuleSignerModel", "g", "[[I", true)
  | 29 => ("ModuleSignerModel", "hint", "[[Z", true)
  | 30 => ("ModuleSignerModel", "buffer", "[B", true)
  | 31 => ("ModuleSignerModel", "out", "[B", true)
  | 32 => ("ModuleSignerModel", "l", "I", false)
  | 33 => ("ModuleSignerModel", "e", "I", false)
  | 34 => ("ModuleSignerModel", "tau", "I", false)
  | 35 => ("ModuleSignerModel", "g1", "I", false)
  | 36 => ("ModuleSignerModel", "g2", "I", false)
  | 37 => ("ModuleSignerModel", "most", "I", false)
  | 38 => ("ModuleSignerModel", "size", "I", false)
  | 39 => ("ModuleSignerModel", "wide", "I", false)
  | 40 => ("ModuleSignerModel", "signed", "[B", true)
  | 41 => ("ModuleSignerModel", "mu", "[B", true)
  | 42 => ("ModuleSignerModel", "rho", "[B", true)
  | _ => ("ModuleSignerModel", "hash", "[B", true)
def a_t10 : Nat → FieldType := fun k => match k with
  | 0 => .array (.byte)
  | 1 => .array (.array (.byte))
  | 2 => .array (.int)
  | 3 => .int
  | 4 => .int
  | 5 => .array (.long)
  | 6 => .array (.long)
  | 7 => .array (.long)
  | 8 => .array (.long)
  | 9 => .array (.long)
  | 10 => .array (.long)
  | 11 => .array (.int)
  | 12 => .array (.long)
  | 13 => .array (.long)
  | 14 => .array (.long)
  | 15 => .array (.long)
  | 16 => .array (.long)
  | 17 => .array (.byte)
  | 18 => .int
  | 19 => .int
  | 20 => .int
  | 21 => .long
  | 22 => .array (.byte)
  | 23 => .int
  | 24 => .array (.long)
  | 25 => .array (.byte)
  | 26 => .int
  | 27 => .array (.int)
  | 28 => .array (.array (.int))
  | 29 => .array (.array (.boolean))
  | 30 => .array (.byte)
  | 31 => .array (.byte)
  | 32 => .int
  | 33 => .int
  | 34 => .int
  | 35 => .int
  | 36 => .int
  | 37 => .int
  | 38 => .int
  | 39 => .int
  | 40 => .array (.byte)
  | 41 => .array (.byte)
  | 42 => .array (.byte)
  | _ => .array (.byte)
def a_T : Nat → u_T := fun c => match c with
  | 0 => a_T0
  | 1 => a_T1
  | 2 => a_T2
  | 3 => a_T3
  | 4 => a_T4
  | 5 => a_T5
  | 6 => a_T6
  | 7 => a_T7
  | 8 => a_T8
  | 9 => a_T9
  | _ => a_T10
def a_t : Nat → Nat → FieldType := fun c => match c with
  | 0 => a_t0
  | 1 => a_t1
  | 2 => a_t2
  | 3 => a_t3
  | 4 => a_t4
  | 5 => a_t5
  | 6 => a_t6
  | 7 => a_t7
  | 8 => a_t8
  | 9 => a_t9
  | _ => a_t10
def a_F : Nat → Nat := fun c => match c with
  | 0 => 6
  | 1 => 2
  | 2 => 16
  | 3 => 13
  | 4 => 2
  | 5 => 6
  | 6 => 3
  | 7 => 5
  | 8 => 1
  | 9 => 1
  | _ => 44
def a_cls : List vw_C := (List.range 11).map (fun c => (a_cn c, a_T c, a_F c))
theorem a_cls_at {c : Nat} (h : c < 11) : a_cls[c]? = some (a_cn c, a_T c, a_F c) := by
  unfold a_cls
  rw [List.getElem?_map, List.getElem?_range h]
  rfl
theorem a_mem {big : List Cond} (ws : List Cond) (ps : List Nat) (hp : ws = ps.filterMap (fun i => big[i]?)) : ∀ w ∈ ws, w ∈ big := by
  intro w hw
  rw [hp] at hw
  obtain ⟨i, -, hi⟩ := List.mem_filterMap.mp hw
  exact List.mem_of_getElem? hi
set_option maxRecDepth 20000 in
theorem a_in0 : ∀ w ∈ u_ws (a_cn 0) (a_T 0) (a_F 0), w ∈ tables_1 := a_mem _ [361, 363, 365, 367, 369, 371] (by decide +kernel)
set_option maxRecDepth 20000 in
theorem a_in1 : ∀ w ∈ u_ws (a_cn 1) (a_T 1) (a_F 1), w ∈ tables_1 := a_mem _ [46, 48] (by decide +kernel)
set_option maxRecDepth 20000 in
theorem a_in2 : ∀ w ∈ u_ws (a_cn 2) (a_T 2) (a_F 2), w ∈ tables_1 := a_mem _ [129, 131, 133, 135, 137, 139, 141, 143, 145, 147, 149, 151, 153, 155, 157, 159] (by decide +kernel)
set_option maxRecDepth 20000 in
theorem a_in3 : ∀ w ∈ u_ws (a_cn 3) (a_T 3) (a_F 3), w ∈ tables_1 := a_mem _ [267, 269, 271, 273, 275, 277, 279, 281, 283, 285, 287, 289, 291] (by decide +kernel)
set_option maxRecDepth 20000 in
theorem a_in4 : ∀ w ∈ u_ws (a_cn 4) (a_T 4) (a_F 4), w ∈ tables_1 := a_mem _ [304, 306] (by decide +kernel)
set_option maxRecDepth 20000 in
theorem a_in5 : ∀ w ∈ u_ws (a_cn 5) (a_T 5) (a_F 5), w ∈ tables_1 := a_mem _ [324, 326, 328, 330, 332, 334] (by decide +kernel)
set_option maxRecDepth 20000 in
theorem a_in6 : ∀ w ∈ u_ws (a_cn 6) (a_T 6) (a_F 6), w ∈ tables_1 := a_mem _ [348, 350, 352] (by decide +kernel)
set_option maxRecDepth 20000 in
theorem a_in7 : ∀ w ∈ u_ws (a_cn 7) (a_T 7) (a_F 7), w ∈ tables_1 := a_mem _ [185, 187, 189, 191, 193] (by decide +kernel)
set_option maxRecDepth 20000 in
theorem a_in8 : ∀ w ∈ u_ws (a_cn 8) (a_T 8) (a_F 8), w ∈ tables_1 := a_mem _ [199] (by decide +kernel)
set_option maxRecDepth 20000 in
theorem a_in9 : ∀ w ∈ u_ws (a_cn 9) (a_T 9) (a_F 9), w ∈ tables_1 := a_mem _ [214] (by decide +kernel)
set_option maxRecDepth 20000 in
theorem a_in10 : ∀ w ∈ u_ws (a_cn 10) (a_T 10) (a_F 10), w ∈ tables_1 := a_mem _ [1142, 1144, 1146, 1148, 1150, 1152, 1154, 1156, 1158, 1160, 1162, 1164, 1166, 1168, 1170, 1172, 1174, 1176, 1178, 1180, 1182, 1184, 1186, 1188, 1190, 1192, 1194, 1196, 1198, 1200, 1202, 1204, 1206, 1208, 1210, 1212, 1214, 1216, 1218, 1220, 1222, 1224, 1226, 1228] (by decide +kernel)
theorem a_in : ∀ c, c < 11 → ∀ w ∈ u_ws (a_cn c) (a_T c) (a_F c), w ∈ lw_tbl := by
  intro c hc
  rcases (show c = 0 ∨ c = 1 ∨ c = 2 ∨ c = 3 ∨ c = 4 ∨ c = 5 ∨ c = 6 ∨ c = 7 ∨ c = 8 ∨ c = 9 ∨ c = 10 by omega) with rfl | rfl | rfl | rfl | rfl | rfl | rfl | rfl | rfl | rfl | rfl
  · exact fun w h => List.mem_append_right _ (a_in0 w h)
  · exact fun w h => List.mem_append_right _ (a_in1 w h)
  · exact fun w h => List.mem_append_right _ (a_in2 w h)
  · exact fun w h => List.mem_append_right _ (a_in3 w h)
  · exact fun w h => List.mem_append_right _ (a_in4 w h)
  · exact fun w h => List.mem_append_right _ (a_in5 w h)
  · exact fun w h => List.mem_append_right _ (a_in6 w h)
  · exact fun w h => List.mem_append_right _ (a_in7 w h)
  · exact fun w h => List.mem_append_right _ (a_in8 w h)
  · exact fun w h => List.mem_append_right _ (a_in9 w h)
  · exact fun w h => List.mem_append_right _ (a_in10 w h)
theorem a_nm0 : ∀ a, a < a_F 0 → ∀ b, b < a_F 0 → a ≠ b → (a_T 0 a).2.1 ≠ (a_T 0 b).2.1 := by decide +kernel
theorem a_ty0 : ∀ k, k < a_F 0 → parseFieldDescriptor (a_T 0 k).2.2.1 = some (a_t 0 k) := by decide +kernel
theorem a_nm1 : ∀ a, a < a_F 1 → ∀ b, b < a_F 1 → a ≠ b → (a_T 1 a).2.1 ≠ (a_T 1 b).2.1 := by decide +kernel
theorem a_ty1 : ∀ k, k < a_F 1 → parseFieldDescriptor (a_T 1 k).2.2.1 = some (a_t 1 k) := by decide +kernel
theorem a_nm2 : ∀ a, a < a_F 2 → ∀ b, b < a_F 2 → a ≠ b → (a_T 2 a).2.1 ≠ (a_T 2 b).2.1 := by decide +kernel
theorem a_ty2 : ∀ k, k < a_F 2 → parseFieldDescriptor (a_T 2 k).2.2.1 = some (a_t 2 k) := by decide +kernel
theorem a_nm3 : ∀ a, a < a_F 3 → ∀ b, b < a_F 3 → a ≠ b → (a_T 3 a).2.1 ≠ (a_T 3 b).2.1 := by decide +kernel
theorem a_ty3 : ∀ k, k < a_F 3 → parseFieldDescriptor (a_T 3 k).2.2.1 = some (a_t 3 k) := by decide +kernel
theorem a_nm4 : ∀ a, a < a_F 4 → ∀ b, b < a_F 4 → a ≠ b → (a_T 4 a).2.1 ≠ (a_T 4 b).2.1 := by decide +kernel
theorem a_ty4 : ∀ k, k < a_F 4 → parseFieldDescriptor (a_T 4 k).2.2.1 = some (a_t 4 k) := by decide +kernel
theorem a_nm5 : ∀ a, a < a_F 5 → ∀ b, b < a_F 5 → a ≠ b → (a_T 5 a).2.1 ≠ (a_T 5 b).2.1 := by decide +kernel
theorem a_ty5 : ∀ k, k < a_F 5 → parseFieldDescriptor (a_T 5 k).2.2.1 = some (a_t 5 k) := by decide +kernel
theorem a_nm6 : ∀ a, a < a_F 6 → ∀ b, b < a_F 6 → a ≠ b → (a_T 6 a).2.1 ≠ (a_T 6 b).2.1 := by decide +kernel
theorem a_ty6 : ∀ k, k < a_F 6 → parseFieldDescriptor (a_T 6 k).2.2.1 = some (a_t 6 k) := by decide +kernel
theorem a_nm7 : ∀ a, a < a_F 7 → ∀ b, b < a_F 7 → a ≠ b → (a_T 7 a).2.1 ≠ (a_T 7 b).2.1 := by decide +kernel
theorem a_ty7 : ∀ k, k < a_F 7 → parseFieldDescriptor (a_T 7 k).2.2.1 = some (a_t 7 k) := by decide +kernel
theorem a_nm8 : ∀ a, a < a_F 8 → ∀ b, b < a_F 8 → a ≠ b → (a_T 8 a).2.1 ≠ (a_T 8 b).2.1 := by decide +kernel
theorem a_ty8 : ∀ k, k < a_F 8 → parseFieldDescriptor (a_T 8 k).2.2.1 = some (a_t 8 k) := by decide +kernel
theorem a_nm9 : ∀ a, a < a_F 9 → ∀ b, b < a_F 9 → a ≠ b → (a_T 9 a).2.1 ≠ (a_T 9 b).2.1 := by decide +kernel
theorem a_ty9 : ∀ k, k < a_F 9 → parseFieldDescriptor (a_T 9 k).2.2.1 = some (a_t 9 k) := by decide +kernel
theorem a_nm10 : ∀ a, a < a_F 10 → ∀ b, b < a_F 10 → a ≠ b → (a_T 10 a).2.1 ≠ (a_T 10 b).2.1 := by decide +kernel
theorem a_ty10 : ∀ k, k < a_F 10 → parseFieldDescriptor (a_T 10 k).2.2.1 = some (a_t 10 k) := by decide +kernel
theorem a_nm : ∀ c, c < 11 → ∀ a, a < a_F c → ∀ b, b < a_F c → a ≠ b → (a_T c a).2.1 ≠ (a_T c b).2.1 := by
  intro c hc
  rcases (show c = 0 ∨ c = 1 ∨ c = 2 ∨ c = 3 ∨ c = 4 ∨ c = 5 ∨ c = 6 ∨ c = 7 ∨ c = 8 ∨ c = 9 ∨ c = 10 by omega) with rfl | rfl | rfl | rfl | rfl | rfl | rfl | rfl | rfl | rfl | rfl
  · exact a_nm0
  · exact a_nm1
  · exact a_nm2
  · exact a_nm3
  · exact a_nm4
  · exact a_nm5
  · exact a_nm6
  · exact a_nm7
  · exact a_nm8
  · exact a_nm9
  · exact a_nm10
theorem a_ty : ∀ c, c < 11 → ∀ k, k < a_F c → parseFieldDescriptor (a_T c k).2.2.1 = some (a_t c k) := by
  intro c hc
  rcases (show c = 0 ∨ c = 1 ∨ c = 2 ∨ c = 3 ∨ c = 4 ∨ c = 5 ∨ c = 6 ∨ c = 7 ∨ c = 8 ∨ c = 9 ∨ c = 10 by omega) with rfl | rfl | rfl | rfl | rfl | rfl | rfl | rfl | rfl | rfl | rfl
  · exact a_ty0
  · exact a_ty1
  · exact a_ty2
  · exact a_ty3
  · exact a_ty4
  · exact a_ty5
  · exact a_ty6
  · exact a_ty7
  · exact a_ty8
  · exact a_ty9
  · exact a_ty10
theorem a_inst : ∀ c, c < 11 → Cond.instantiable (a_cn c) (a_F c) ∈ lw_tbl := by
  intro c hc
  rcases (show c = 0 ∨ c = 1 ∨ c = 2 ∨ c = 3 ∨ c = 4 ∨ c = 5 ∨ c = 6 ∨ c = 7 ∨ c = 8 ∨ c = 9 ∨ c = 10 by omega) with rfl | rfl | rfl | rfl | rfl | rfl | rfl | rfl | rfl | rfl | rfl
  · exact List.mem_append_right _ (List.mem_of_getElem? (i := 23) (by decide +kernel))
  · exact List.mem_append_right _ (List.mem_of_getElem? (i := 32) (by decide +kernel))
  · exact List.mem_append_right _ (List.mem_of_getElem? (i := 54) (by decide +kernel))
  · exact List.mem_append_right _ (List.mem_of_getElem? (i := 163) (by decide +kernel))
  · exact List.mem_append_right _ (List.mem_of_getElem? (i := 295) (by decide +kernel))
  · exact List.mem_append_right _ (List.mem_of_getElem? (i := 310) (by decide +kernel))
  · exact List.mem_append_right _ (List.mem_of_getElem? (i := 338) (by decide +kernel))
  · exact List.mem_append_right _ (List.mem_of_getElem? (i := 175) (by decide +kernel))
  · exact List.mem_append_right _ (List.mem_of_getElem? (i := 169) (by decide +kernel))
  · exact List.mem_append_right _ (List.mem_of_getElem? (i := 203) (by decide +kernel))
  · exact List.mem_append_right _ (List.mem_of_getElem? (i := 1013) (by decide +kernel))
theorem a_init : ∀ c, c < 11 → Cond.initialized (a_cn c) ∈ lw_tbl := by
  intro c hc
  rcases (show c = 0 ∨ c = 1 ∨ c = 2 ∨ c = 3 ∨ c = 4 ∨ c = 5 ∨ c = 6 ∨ c = 7 ∨ c = 8 ∨ c = 9 ∨ c = 10 by omega) with rfl | rfl | rfl | rfl | rfl | rfl | rfl | rfl | rfl | rfl | rfl
  · exact List.mem_append_right _ (List.mem_of_getElem? (i := 1) (by decide +kernel))
  · exact List.mem_append_right _ (List.mem_of_getElem? (i := 2) (by decide +kernel))
  · exact List.mem_append_right _ (List.mem_of_getElem? (i := 3) (by decide +kernel))
  · exact List.mem_append_right _ (List.mem_of_getElem? (i := 5) (by decide +kernel))
  · exact List.mem_append_right _ (List.mem_of_getElem? (i := 8) (by decide +kernel))
  · exact List.mem_append_right _ (List.mem_of_getElem? (i := 9) (by decide +kernel))
  · exact List.mem_append_right _ (List.mem_of_getElem? (i := 10) (by decide +kernel))
  · exact List.mem_append_right _ (List.mem_of_getElem? (i := 7) (by decide +kernel))
  · exact List.mem_append_right _ (List.mem_of_getElem? (i := 6) (by decide +kernel))
  · exact List.mem_append_right _ (List.mem_of_getElem? (i := 4) (by decide +kernel))
  · exact List.mem_append_right _ (List.mem_of_getElem? (i := 11) (by decide +kernel))
def a_en : Nat → String := fun c => match c with
  | 0 => "java/lang/IllegalArgumentException"
  | 1 => "java/lang/IndexOutOfBoundsException"
  | 2 => "java/lang/IllegalStateException"
  | 3 => "java/lang/UnsupportedOperationException"
  | _ => "java/lang/ArithmeticException"
