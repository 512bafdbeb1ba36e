abbrev cX0_soak : ByteArray := prog_2_method_5_code
def yX0_soak : MethodName := ⟨RX0, "soak", "(I)V"⟩
abbrev cX0_age : ByteArray := prog_2_method_6_code
def yX0_age : MethodName := ⟨RX0, "age", "(II)V"⟩
abbrev cX1_init : ByteArray := prog_3_method_1_code
def yX1_init : MethodName := ⟨RX1, "<init>", "()V"⟩
def tyX4 : Nat → FieldType := fun k => match k with
  | 0 => .char
  | 1 => .int
  | 2 => .int
  | 3 => .int
  | _ => .boolean
theorem nmX4 : ∀ a, a < 5 → ∀ b, b < 5 → a ≠ b → (TX4 a).2.1 ≠ (TX4 b).2.1 := by decide +kernel
theorem tyX4_ok : ∀ k, k < 5 → parseFieldDescriptor (TX4 k).2.2.1 = some (tyX4 k) := by decide +kernel
def tyX5 : Nat → FieldType := fun k => match k with
  | 0 => .int
  | 1 => .char
  | 2 => .int
  | _ => .int
theorem nmX5 : ∀ a, a < 4 → ∀ b, b < 4 → a ≠ b → (TX5 a).2.1 ≠ (TX5 b).2.1 := by decide +kernel
theorem tyX5_ok : ∀ k, k < 4 → parseFieldDescriptor (TX5 k).2.2.1 = some (tyX5 k) := by decide +kernel
abbrev cX5_init : ByteArray := prog_7_method_1_code
def yX5_init : MethodName := ⟨RX5, "<init>", "(ICII)V"⟩
def tyX7 : Nat → FieldType := fun k => match k with
  | 0 => .array .int
  | 1 => .array .int
  | _ => .int
theorem nmX7 : ∀ a, a < 3 → ∀ b, b < 3 → a ≠ b → (TX7 a).2.1 ≠ (TX7 b).2.1 := by decide +kernel
theorem tyX7_ok : ∀ k, k < 3 → parseFieldDescriptor (TX7 k).2.2.1 = some (tyX7 k) := by decide +kernel
abbrev cX7_init : ByteArray := prog_9_method_1_code
def yX7_init : MethodName := ⟨RX7, "<init>", "()V"⟩
abbrev cX10_lot : ByteArray := prog_1_method_2_code
def yX10_lot : MethodName := ⟨RX10, "lot", "(CII)I"⟩
abbrev cX10_pass : ByteArray := prog_1_method_23_code
def yX10_pass : MethodName := ⟨RX10, "pass", "(I)I"⟩
abbrev cX10_protocol : ByteArray := prog_1_method_25_code
def yX10_protocol : MethodName := ⟨RX10, "protocol", "(II)I"⟩
abbrev cX10_freeAt : ByteArray := prog_1_method_28_code
def yX10_freeAt : MethodName := ⟨RX10, "freeAt", "(I)I"⟩
abbrev cX10_module : ByteArray := prog_1_method_32_code
def yX10_module : MethodName := ⟨RX10, "module", "(IC)I"⟩
abbrev cX10_doubtAll : ByteArray := prog_1_method_45_code
def yX10_doubtAll : MethodName := ⟨RX10, "doubtAll", "(ZI)I"⟩
abbrev cX10_listCandidates : ByteArray := prog_1_method_73_code
def yX10_listCandidates : MethodName := ⟨RX10, "listCandidates", "(C)V"⟩
abbrev cX10_placeByHold : ByteArray := prog_1_method_74_code
def yX10_placeByHold : MethodName := ⟨RX10, "placeByHold", "(I)I"⟩
abbrev cX10_startOfLeastSpread : ByteArray := prog_1_method_75_code
def yX10_startOfLeastSpread : MethodName := ⟨RX10, "startOfLeastSpread", "(I)I"⟩
abbrev cJx4a65c_add_7a177 : ByteArray := prog_47_method_26_code
def yJx4a65c_add_7a177 : MethodName := ⟨RJx4a65c, "add", "(ILjava/lang/Object;)V"⟩
abbrev cJx4a65c_rangeCheckForAdd_d00df : ByteArray := prog_47_method_45_code
def yJx4a65c_rangeCheckForAdd_d00df : MethodName := ⟨RJx4a65c, "rangeCheckForAdd", "(I)V"⟩
def wsX4_init : List Cond := .code yX4_init cX4_init 5 none :: ([.methodLink RX4 1 objectInit, .instanceMethod objectInit, .code objectInit ⟨#[0xb1]⟩ 1 none, .fieldLink RX4 7 "CoatLine$Doubt" "cleared" "Z", .fieldLink RX4 13 "CoatLine$Doubt" "kind" "C", .fieldLink RX4 17 "CoatLine$Doubt" "number" "I", .fieldLink RX4 21 "CoatLine$Doubt" "from" "I", .fieldLink RX4 24 "CoatLine$Doubt" "to" "I"] ++ wsX40)
def wsX5_init : List Cond := .code yX5_init cX5_init 5 none :: ([.methodLink RX5 1 objectInit, .instanceMethod objectInit, .code objectInit ⟨#[0xb1]⟩ 1 none, .fieldLink RX5 7 "CoatLine$Lot" "number" "I", .fieldLink RX5 13 "CoatLine$Lot" "kind" "C", .fieldLink RX5 17 "CoatLine$Lot" "strength" "I", .fieldLink RX5 20 "CoatLine$Lot" "amount" "I"] ++ wsX50)
def wsX7_init : List Cond := .code yX7_init cX7_init 1 none :: ([.methodLink RX7 3 objectInit, .instanceMethod objectInit, .code objectInit ⟨#[0xb1]⟩ 1 none, .arrayClass .int, .fieldLink RX7 9 "CoatLine$Protocol" "currents" "[I", .fieldLink RX7 15 "CoatLine$Protocol" "hours" "[I", .fieldLink RX7 18 "CoatLine$Protocol" "steps" "I"] ++ wsX70)
def wsX7_addStep : List Cond := .code yX7_addStep cX7_addStep 3 none :: ([.fieldLink RX7 18 "CoatLine$Protocol" "steps" "I", .fieldLink RX7 9 "CoatLine$Protocol" "currents" "[I", .fieldLink RX7 15 "CoatLine$Protocol" "hours" "[I"] ++ wsX70 ++ (vx_atM "java/lang/ArrayIndexOutOfBoundsException" ["java/lang/IndexOutOfBoundsException", "java/lang/RuntimeException", "java/lang/Exception"]).filter goodWord)
def wsX10_lot_r1 : List Cond := [Cond.classLink RX10 79 "java/lang/IllegalArgumentException", Cond.initialized "java/lang/IllegalArgumentException", Cond.fieldLink RX10 10 "CoatLine" "lots" "Ljava/util/ArrayList;", Cond.classLink RX10 97 RX5, Cond.instantiable RX5 4, Cond.initialized RX5, Cond.fieldLink RX10 106 "CoatLine$Lot" "number" "I", Cond.methodLink RX10 86 yX10_requireWithin, Cond.static yX10_requireWithin, Cond.initialized RX10, Cond.code yX10_requireWithin cX10_requireWithin 3 none, Cond.methodLink RX10 90 yJx4a65c_size_8abf5, Cond.instanceMethod yJx4a65c_size_8abf5, Cond.selects RJx4a65c yJx4a65c_size_8abf5 yJx4a65c_size_8abf5, Cond.initialized RJx4a65c, Cond.code yJx4a65c_size_8abf5 cJx4a65c_size_8abf5 1 (some .int), Cond.fieldLink RJx4a65c 48 "java/util/ArrayList" "size" "I", Cond.methodLink RX10 94 yX10_requireSpace, Cond.static yX10_requireSpace, Cond.code yX10_requireSpace cX10_requireSpace 3 none, Cond.classLink RX10 295 "java/lang/IllegalStateException", Cond.initialized "java/lang/IllegalStateException", Cond.methodLink RX10 99 yX5_init, Cond.instanceMethod yX5_init]
def wsX10_lot_r2 : List Cond := [Cond.code yX5_init cX5_init 5 none, Cond.methodLink RX5 1 objectInit, Cond.instanceMethod objectInit, Cond.code objectInit ⟨#[0xb1]⟩ 1 none, Cond.fieldLink RX5 7 "CoatLine$Lot" "number" "I", Cond.fieldLink RX5 13 "CoatLine$Lot" "kind" "C", Cond.fieldLink RX5 17 "CoatLine$Lot" "strength" "I", Cond.fieldLink RX5 20 "CoatLine$Lot" "amount" "I", Cond.methodLink RX10 102 yJx4a65c_add_9ea2d, Cond.instanceMethod yJx4a65c_add_9ea2d, Cond.selects RJx4a65c yJx4a65c_add_9ea2d yJx4a65c_add_9ea2d, Cond.code yJx4a65c_add_9ea2d cJx4a65c_add_9ea2d 2 (some .boolean), Cond.fieldLink RJx4a65c 63 "java/util/ArrayList" "modCount" "I", Cond.sameField "java/util/ArrayList" "java/util/AbstractList" "modCount" "I", Cond.fieldLink RJx4a65c 9 "java/util/ArrayList" "elementData" "[Ljava/lang/Object;", Cond.methodLink RJx4a65c 131 yJx4a65c_add_72be8, Cond.instanceMethod yJx4a65c_add_72be8, Cond.selects RJx4a65c yJx4a65c_add_72be8 yJx4a65c_add_72be8, Cond.code yJx4a65c_add_72be8 cJx4a65c_add_72be8 4 none, Cond.methodLink RJx4a65c 129 yJx4a65c_grow_d5877, Cond.instanceMethod yJx4a65c_grow_d5877, Cond.selects RJx4a65c yJx4a65c_grow_d5877 yJx4a65c_grow_d5877, Cond.code yJx4a65c_grow_d5877 cJx4a65c_grow_d5877 1 (some (.array (.object "java/lang/Object"))), Cond.methodLink RJx4a65c 69 yJx4a65c_grow_92f84]
def wsX10_lot_r3 : List Cond := [Cond.instanceMethod yJx4a65c_grow_92f84, Cond.selects RJx4a65c yJx4a65c_grow_92f84 yJx4a65c_grow_92f84, Cond.code yJx4a65c_grow_92f84 cJx4a65c_grow_92f84 4 (some (.array (.object "java/lang/Object"))), Cond.fieldLink RJx4a65c 39 "java/util/ArrayList" "DEFAULTCAPACITY_EMPTY_ELEMENTDATA" "[Ljava/lang/Object;", Cond.methodLink RJx4a65c 79 Lib.Math.max.name, Cond.static Lib.Math.max.name, Cond.initialized "java/lang/Math", Cond.code Lib.Math.max.name Lib.Math.max.code 2 (some .int), Cond.classLink RJx4a65c 7 "java/lang/Object", Cond.methodLink RJx4a65c 73 yJ8_newLength_cabcc, Cond.static yJ8_newLength_cabcc, Cond.initialized RJ8, Cond.code yJ8_newLength_cabcc cJ8_newLength_cabcc 4 (some .int), Cond.methodLink RJ8 194 Lib.Math.max.name, Cond.constant RJ8 200 (2147483639), Cond.methodLink RJ8 201 yJ8_hugeLength_7cf53, Cond.static yJ8_hugeLength_7cf53, Cond.code yJ8_hugeLength_7cf53 cJ8_hugeLength_7cf53 3 (some .int), Cond.methodLink RJx4a65c 66 yJ7_copyOf_1904c, Cond.static yJ7_copyOf_1904c, Cond.initialized RJ7, Cond.code yJ7_copyOf_1904c cJ7_copyOf_1904c 2 (some (.array (.object "java/lang/Object"))), Cond.methodLink RJ7 86 ⟨"java/lang/Object", "getClass", "()Ljava/lang/Class;"⟩, Cond.selects "[Ljava/lang/Object;" ⟨"java/lang/Object", "getClass", "()Ljava/lang/Class;"⟩ ⟨"java/lang/Object", "getClass", "()Ljava/lang/Class;"⟩]
def wsX10_lot_r4 : List Cond := [Cond.instanceMethod ⟨"java/lang/Object", "getClass", "()Ljava/lang/Class;"⟩, Cond.native ⟨"java/lang/Object", "getClass", "()Ljava/lang/Class;"⟩, Cond.methodLink RJ7 300 yJ7_copyOf_6403c, Cond.static yJ7_copyOf_6403c, Cond.code yJ7_copyOf_6403c cJ7_copyOf_6403c 4 (some (.array (.object "java/lang/Object"))), Cond.classLink RJ7 110 "[Ljava/lang/Object;", Cond.classLink RJ7 2 "java/lang/Object", Cond.methodLink RJ7 304 Lib.Math.min.name, Cond.static Lib.Math.min.name, Cond.code Lib.Math.min.name Lib.Math.min.code 2 (some .int), Cond.methodLink RJ7 150 arraycopyName, Cond.native arraycopyName, Cond.static arraycopyName, Cond.initialized "java/lang/System"]
def wsX10_lot : List Cond := .code yX10_lot cX10_lot 5 (some .int) :: ((wsX10_lot_r1 ++ (wsX10_lot_r2 ++ (wsX10_lot_r3 ++ wsX10_lot_r4))) ++ wsX100 ++ wsX50 ++ wsJx4a65c0 ++ (vx_atS RX10 83 "java/lang/IllegalArgumentException" ["java/lang/RuntimeException", "java/lang/Exception"]).filter goodWord ++ (vx_atS RX10 299 "java/lang/IllegalStateException" ["java/lang/RuntimeException", "java/lang/Exception"]).filter goodWord)
def wsX10_pass_r1 : List Cond := [Cond.classLink RX10 295 "java/lang/IllegalStateException", Cond.initialized "java/lang/IllegalStateException", Cond.fieldLink RX10 64 "CoatLine" "hour" "I", Cond.fieldLink RX10 22 "CoatLine" "cells" "Ljava/util/ArrayList;", Cond.classLink RX10 217 "CoatLine$Cell", Cond.methodLink RX10 86 yX10_requireWithin, Cond.static yX10_requireWithin, Cond.initialized RX10, Cond.code yX10_requireWithin cX10_requireWithin 3 none, Cond.classLink RX10 79 "java/lang/IllegalArgumentException", Cond.initialized "java/lang/IllegalArgumentException", Cond.methodLink RX10 90 yJx4a65c_size_8abf5, Cond.instanceMethod yJx4a65c_size_8abf5, Cond.selects RJx4a65c yJx4a65c_size_8abf5 yJx4a65c_size_8abf5, Cond.initialized RJx4a65c, Cond.code yJx4a65c_size_8abf5 cJx4a65c_size_8abf5 1 (some .int), Cond.fieldLink RJx4a65c 48 "java/util/ArrayList" "size" "I", Cond.methodLink RX10 300 yJx4a65c_get_915e3, Cond.instanceMethod yJx4a65c_get_915e3, Cond.selects RJx4a65c yJx4a65c_get_915e3 yJx4a65c_get_915e3, Cond.code yJx4a65c_get_915e3 cJx4a65c_get_915e3 2 (some (.object "java/lang/Object")), Cond.methodLink RJx4a65c 118 yJ15_checkIndex_7cf53, Cond.static yJ15_checkIndex_7cf53, Cond.initialized RJ15]
def wsX10_pass_r2 : List Cond := [Cond.code yJ15_checkIndex_7cf53 cJ15_checkIndex_7cf53 2 (some .int), Cond.methodLink RJ15 105 yJ3_checkIndex_8e157, Cond.static yJ3_checkIndex_8e157, Cond.initialized RJ3, Cond.code yJ3_checkIndex_8e157 cJ3_checkIndex_8e157 3 (some .int), Cond.methodLink RJx4a65c 123 yJx4a65c_elementData_915e3, Cond.instanceMethod yJx4a65c_elementData_915e3, Cond.selects RJx4a65c yJx4a65c_elementData_915e3 yJx4a65c_elementData_915e3, Cond.code yJx4a65c_elementData_915e3 cJx4a65c_elementData_915e3 2 (some (.object "java/lang/Object")), Cond.fieldLink RJx4a65c 9 "java/util/ArrayList" "elementData" "[Ljava/lang/Object;", Cond.methodLink RX10 304 yX0_soak, Cond.instanceMethod yX0_soak, Cond.selects RX0 yX0_soak yX0_soak, Cond.initialized RX0, Cond.code yX0_soak cX0_soak 2 none, Cond.fieldLink RX0 24 "CoatLine$Cell" "filled" "Z", Cond.fieldLink RX0 21 "CoatLine$Cell" "wetness" "I", Cond.methodLink RX0 69 Lib.Math.min.name, Cond.static Lib.Math.min.name, Cond.initialized "java/lang/Math", Cond.code Lib.Math.min.name Lib.Math.min.code 2 (some .int), Cond.methodLink RX10 308 yX0_age, Cond.instanceMethod yX0_age, Cond.selects RX0 yX0_age yX0_age]
def wsX10_pass_r3 : List Cond := [Cond.code yX0_age cX0_age 7 none, Cond.fieldLink RX0 40 "CoatLine$Cell" "module" "LCoatLine$CellModule;", Cond.fieldLink RX0 98 "CoatLine$CellModule" "packed" "Z", Cond.fieldLink RX0 47 "CoatLine$Cell" "positive" "LCoatLine$Stretch;", Cond.fieldLink RX0 103 "CoatLine$Stretch" "ribbon" "LCoatLine$Ribbon;", Cond.fieldLink RX0 107 "CoatLine$Ribbon" "burr" "I", Cond.fieldLink RX0 51 "CoatLine$Cell" "negative" "LCoatLine$Stretch;", Cond.fieldLink RX0 31 "CoatLine$Cell" "readyAt" "I", Cond.methodLink RX0 91 Lib.Math.max.name, Cond.static Lib.Math.max.name, Cond.code Lib.Math.max.name Lib.Math.max.code 2 (some .int), Cond.fieldLink RX0 9 "CoatLine$Cell" "content" "I", Cond.methodLink RX0 94 yX0_isReadyAt, Cond.instanceMethod yX0_isReadyAt, Cond.selects RX0 yX0_isReadyAt yX0_isReadyAt, Cond.code yX0_isReadyAt cX0_isReadyAt 2 (some .boolean), Cond.fieldLink RX0 28 "CoatLine$Cell" "formed" "Z", Cond.methodLink RX0 112 yX0_holdLess, Cond.instanceMethod yX0_holdLess, Cond.selects RX0 yX0_holdLess yX0_holdLess, Cond.code yX0_holdLess cX0_holdLess 2 none, Cond.fieldLink RX0 78 "CoatLine$Cell" "hold" "I"]
def wsX10_pass : List Cond := .code yX10_pass cX10_pass 5 (some .int) :: ((wsX10_pass_r1 ++ (wsX10_pass_r2 ++ wsX10_pass_r3)) ++ wsX100 ++ wsJx4a65c0 ++ wsX00 ++ wsX10 ++ wsX90 ++ wsX80 ++ (vx_atS RX10 299 "java/lang/IllegalStateException" ["java/lang/RuntimeException", "java/lang/Exception"]).filter goodWord ++ (vx_atS RX10 83 "java/lang/IllegalArgumentException" ["java/lang/RuntimeException", "java/lang/Exception"]).filter goodWord)
def wsX10_protocol_r1 : List Cond := [Cond.fieldLink RX10 25 "CoatLine" "protocols" "Ljava/util/ArrayList;", Cond.classLink RX10 314 RX7, Cond.instantiable RX7 3, Cond.initialized RX7, Cond.methodLink RX10 311 yX10_requireStep, Cond.static yX10_requireStep, Cond.initialized RX10, Cond.code yX10_requireStep cX10_requireStep 2 none, Cond.methodLink RX10 415 yX10_requireCurrent, Cond.static yX10_requireCurrent, Cond.code yX10_requireCurrent cX10_requireCurrent 1 none, Cond.methodLink RX10 86 yX10_requireWithin, Cond.static yX10_requireWithin, Cond.code yX10_requireWithin cX10_requireWithin 3 none, Cond.classLink RX10 79 "java/lang/IllegalArgumentException", Cond.initialized "java/lang/IllegalArgumentException", Cond.methodLink RX10 90 yJx4a65c_size_8abf5, Cond.instanceMethod yJx4a65c_size_8abf5, Cond.selects RJx4a65c yJx4a65c_size_8abf5 yJx4a65c_size_8abf5, Cond.initialized RJx4a65c, Cond.code yJx4a65c_size_8abf5 cJx4a65c_size_8abf5 1 (some .int), Cond.fieldLink RJx4a65c 48 "java/util/ArrayList" "size" "I", Cond.methodLink RX10 94 yX10_requireSpace, Cond.static yX10_requireSpace]
def wsX10_protocol_r2 : List Cond := [Cond.code yX10_requireSpace cX10_requireSpace 3 none, Cond.classLink RX10 295 "java/lang/IllegalStateException", Cond.initialized "java/lang/IllegalStateException", Cond.instanceMethod yX7_init, Cond.code yX7_init cX7_init 1 none, Cond.methodLink RX7 3 objectInit, Cond.instanceMethod objectInit, Cond.code objectInit ⟨#[0xb1]⟩ 1 none, Cond.arrayClass .int, Cond.fieldLink RX7 9 "CoatLine$Protocol" "currents" "[I", Cond.fieldLink RX7 15 "CoatLine$Protocol" "hours" "[I", Cond.fieldLink RX7 18 "CoatLine$Protocol" "steps" "I", Cond.methodLink RX10 317 yX7_addStep, Cond.instanceMethod yX7_addStep, Cond.selects RX7 yX7_addStep yX7_addStep, Cond.code yX7_addStep cX7_addStep 3 none, Cond.methodLink RX10 102 yJx4a65c_add_9ea2d, Cond.instanceMethod yJx4a65c_add_9ea2d, Cond.selects RJx4a65c yJx4a65c_add_9ea2d yJx4a65c_add_9ea2d, Cond.code yJx4a65c_add_9ea2d cJx4a65c_add_9ea2d 2 (some .boolean), Cond.fieldLink RJx4a65c 63 "java/util/ArrayList" "modCount" "I", Cond.sameField "java/util/ArrayList" "java/util/AbstractList" "modCount" "I", Cond.fieldLink RJx4a65c 9 "java/util/ArrayList" "elementData" "[Ljava/lang/Object;", Cond.methodLink RJx4a65c 131 yJx4a65c_add_72be8]
def wsX10_protocol_r3 : List Cond := [Cond.instanceMethod yJx4a65c_add_72be8, Cond.selects RJx4a65c yJx4a65c_add_72be8 yJx4a65c_add_72be8, Cond.code yJx4a65c_add_72be8 cJx4a65c_add_72be8 4 none, Cond.methodLink RJx4a65c 129 yJx4a65c_grow_d5877, Cond.instanceMethod yJx4a65c_grow_d5877, Cond.selects RJx4a65c yJx4a65c_grow_d5877 yJx4a65c_grow_d5877, Cond.code yJx4a65c_grow_d5877 cJx4a65c_grow_d5877 1 (some (.array (.object "java/lang/Object"))), Cond.methodLink RJx4a65c 69 yJx4a65c_grow_92f84, Cond.instanceMethod yJx4a65c_grow_92f84, Cond.selects RJx4a65c yJx4a65c_grow_92f84 yJx4a65c_grow_92f84, Cond.code yJx4a65c_grow_92f84 cJx4a65c_grow_92f84 4 (some (.array (.object "java/lang/Object"))), Cond.fieldLink RJx4a65c 39 "java/util/ArrayList" "DEFAULTCAPACITY_EMPTY_ELEMENTDATA" "[Ljava/lang/Object;", Cond.methodLink RJx4a65c 79 Lib.Math.max.name, Cond.static Lib.Math.max.name, Cond.initialized "java/lang/Math", Cond.code Lib.Math.max.name Lib.Math.max.code 2 (some .int), Cond.classLink RJx4a65c 7 "java/lang/Object", Cond.methodLink RJx4a65c 73 yJ8_newLength_cabcc, Cond.static yJ8_newLength_cabcc, Cond.initialized RJ8, Cond.code yJ8_newLength_cabcc cJ8_newLength_cabcc 4 (some .int), Cond.methodLink RJ8 194 Lib.Math.max.name, Cond.constant RJ8 200 (2147483639), Cond.methodLink RJ8 201 yJ8_hugeLength_7cf53]
def wsX10_protocol_r4 : List Cond := [Cond.static yJ8_hugeLength_7cf53, Cond.code yJ8_hugeLength_7cf53 cJ8_hugeLength_7cf53 3 (some .int), Cond.methodLink RJx4a65c 66 yJ7_copyOf_1904c, Cond.static yJ7_copyOf_1904c, Cond.initialized RJ7, Cond.code yJ7_copyOf_1904c cJ7_copyOf_1904c 2 (some (.array (.object "java/lang/Object"))), Cond.methodLink RJ7 86 ⟨"java/lang/Object", "getClass", "()Ljava/lang/Class;"⟩, Cond.selects "[Ljava/lang/Object;" ⟨"java/lang/Object", "getClass", "()Ljava/lang/Class;"⟩ ⟨"java/lang/Object", "getClass", "()Ljava/lang/Class;"⟩, Cond.instanceMethod ⟨"java/lang/Object", "getClass", "()Ljava/lang/Class;"⟩, Cond.native ⟨"java/lang/Object", "getClass", "()Ljava/lang/Class;"⟩, Cond.methodLink RJ7 300 yJ7_copyOf_6403c, Cond.static yJ7_copyOf_6403c, Cond.code yJ7_copyOf_6403c cJ7_copyOf_6403c 4 (some (.array (.object "java/lang/Object"))), Cond.classLink RJ7 110 "[Ljava/lang/Object;", Cond.classLink RJ7 2 "java/lang/Object", Cond.methodLink RJ7 304 Lib.Math.min.name, Cond.static Lib.Math.min.name, Cond.code Lib.Math.min.name Lib.Math.min.code 2 (some .int), Cond.methodLink RJ7 150 arraycopyName, Cond.native arraycopyName, Cond.static arraycopyName, Cond.initialized "java/lang/System"]
def wsX10_protocol : List Cond := .code yX10_protocol cX10_protocol 4 (some .int) :: ((wsX10_protocol_r1 ++ (wsX10_protocol_r2 ++ (wsX10_protocol_r3 ++ wsX10_protocol_r4))) ++ wsX100 ++ wsX70 ++ wsJx4a65c0 ++ (vx_atS RX10 83 "java/lang/IllegalArgumentException" ["java/lang/RuntimeException", "java/lang/Exception"]).filter goodWord ++ (vx_atS RX10 299 "java/lang/IllegalStateException" ["java/lang/RuntimeException", "java/lang/Exception"]).filter goodWord ++ (vx_atM "java/lang/ArrayIndexOutOfBoundsException" ["java/lang/IndexOutOfBoundsException", "java/lang/RuntimeException", "java/lang/Exception"]).filter goodWord)
def wsX10_freeHourOf : List Cond := .code yX10_freeHourOf cX10_freeHourOf 2 (some .int) :: ([.fieldLink RX10 64 "CoatLine" "hour" "I", .fieldLink RX10 40 "CoatLine" "channelTakenTo" "[I", .methodLink RX10 531 Lib.Math.max.name, .static Lib.Math.max.name, .initialized "java/lang/Math", .code Lib.Math.max.name Lib.Math.max.code 2 (some .int)] ++ wsX100 ++ (vx_atM "java/lang/ArrayIndexOutOfBoundsException" ["java/lang/IndexOutOfBoundsException", "java/lang/RuntimeException", "java/lang/Exception"]).filter goodWord)
def wsX10_freeAt : List Cond := .code yX10_freeAt cX10_freeAt 2 (some .int) :: ([.methodLink RX10 327 yX10_requireChannel, .static yX10_requireChannel, .initialized RX10, .code yX10_requireChannel cX10_requireChannel 1 none, .classLink RX10 460 "java/lang/IndexOutOfBoundsException", .initialized "java/lang/IndexOutOfBoundsException", .methodLink RX10 335 yX10_freeHourOf, .instanceMethod yX10_freeHourOf, .selects RX10 yX10_freeHourOf yX10_freeHourOf, .code yX10_freeHourOf cX10_freeHourOf 2 (some .int), .fieldLink RX10 64 "CoatLine" "hour" "I", .fieldLink RX10 40 "CoatLine" "channelTakenTo" "[I", .methodLink RX10 531 Lib.Math.max.name, .static Lib.Math.max.name, .initialized "java/lang/Math", .code Lib.Math.max.name Lib.Math.max.code 2 (some .int)] ++ wsX100 ++ (vx_atS RX10 464 "java/lang/IndexOutOfBoundsException" ["java/lang/RuntimeException", "java/lang/Exception"]).filter goodWord ++ (vx_atM "java/lang/ArrayIndexOutOfBoundsException" ["java/lang/IndexOutOfBoundsException", "java/lang/RuntimeException", "java/lang/Exception"]).filter goodWord)
def wsX10_listCandidates_r1 : List Cond := [Cond.fieldLink RX10 37 "CoatLine" "candidates" "Ljava/util/ArrayList;", Cond.fieldLink RX10 22 "CoatLine" "cells" "Ljava/util/ArrayList;", Cond.classLink RX10 217 "CoatLine$Cell", Cond.fieldLink RX10 371 "CoatLine$Cell" "module" "LCoatLine$CellModule;", Cond.fieldLink RX10 234 "CoatLine$Cell" "hold" "I", Cond.methodLink RX10 537 yJx4a65c_clear_da8c8, Cond.instanceMethod yJx4a65c_clear_da8c8, Cond.selects RJx4a65c yJx4a65c_clear_da8c8 yJx4a65c_clear_da8c8, Cond.initialized RJx4a65c, Cond.code yJx4a65c_clear_da8c8 cJx4a65c_clear_da8c8 4 none, Cond.fieldLink RJx4a65c 63 "java/util/ArrayList" "modCount" "I", Cond.sameField "java/util/ArrayList" "java/util/AbstractList" "modCount" "I", Cond.fieldLink RJx4a65c 9 "java/util/ArrayList" "elementData" "[Ljava/lang/Object;", Cond.fieldLink RJx4a65c 48 "java/util/ArrayList" "size" "I", Cond.methodLink RX10 90 yJx4a65c_size_8abf5, Cond.instanceMethod yJx4a65c_size_8abf5, Cond.selects RJx4a65c yJx4a65c_size_8abf5 yJx4a65c_size_8abf5, Cond.code yJx4a65c_size_8abf5 cJx4a65c_size_8abf5 1 (some .int), Cond.methodLink RX10 300 yJx4a65c_get_915e3, Cond.instanceMethod yJx4a65c_get_915e3, Cond.selects RJx4a65c yJx4a65c_get_915e3 yJx4a65c_get_915e3, Cond.code yJx4a65c_get_915e3 cJx4a65c_get_915e3 2 (some (.object "java/lang/Object")), Cond.methodLink RJx4a65c 118 yJ15_checkIndex_7cf53, Cond.static yJ15_checkIndex_7cf53]
def wsX10_listCandidates_r2 : List Cond := [Cond.initialized RJ15, Cond.code yJ15_checkIndex_7cf53 cJ15_checkIndex_7cf53 2 (some .int), Cond.methodLink RJ15 105 yJ3_checkIndex_8e157, Cond.static yJ3_checkIndex_8e157, Cond.initialized RJ3, Cond.code yJ3_checkIndex_8e157 cJ3_checkIndex_8e157 3 (some .int), Cond.methodLink RJx4a65c 123 yJx4a65c_elementData_915e3, Cond.instanceMethod yJx4a65c_elementData_915e3, Cond.selects RJx4a65c yJx4a65c_elementData_915e3 yJx4a65c_elementData_915e3, Cond.code yJx4a65c_elementData_915e3 cJx4a65c_elementData_915e3 2 (some (.object "java/lang/Object")), Cond.methodLink RX10 353 yX10_sortOf, Cond.instanceMethod yX10_sortOf, Cond.selects RX10 yX10_sortOf yX10_sortOf, Cond.initialized RX10, Cond.code yX10_sortOf cX10_sortOf 2 (some .char), Cond.fieldLink RX10 64 "CoatLine" "hour" "I", Cond.fieldLink RX10 263 "CoatLine$Cell" "plated" "Z", Cond.fieldLink RX10 226 "CoatLine$Cell" "wasCovered" "Z", Cond.fieldLink RX10 70 "CoatLine" "firstBound" "I", Cond.fieldLink RX10 240 "CoatLine$Cell" "resistance" "I", Cond.fieldLink RX10 76 "CoatLine" "resistanceLimit" "I", Cond.fieldLink RX10 73 "CoatLine" "secondBound" "I", Cond.methodLink RX10 481 yX0_isReadyAt, Cond.instanceMethod yX0_isReadyAt]
def wsX10_listCandidates_r3 : List Cond := [Cond.selects RX0 yX0_isReadyAt yX0_isReadyAt, Cond.initialized RX0, Cond.code yX0_isReadyAt cX0_isReadyAt 2 (some .boolean), Cond.fieldLink RX0 28 "CoatLine$Cell" "formed" "Z", Cond.fieldLink RX0 31 "CoatLine$Cell" "readyAt" "I", Cond.methodLink RX10 540 yX10_placeByHold, Cond.instanceMethod yX10_placeByHold, Cond.selects RX10 yX10_placeByHold yX10_placeByHold, Cond.code yX10_placeByHold cX10_placeByHold 3 (some .int), Cond.methodLink RX10 543 yJx4a65c_add_7a177, Cond.instanceMethod yJx4a65c_add_7a177, Cond.selects RJx4a65c yJx4a65c_add_7a177 yJx4a65c_add_7a177, Cond.code yJx4a65c_add_7a177 cJx4a65c_add_7a177 5 none, Cond.methodLink RJx4a65c 112 arraycopyName, Cond.native arraycopyName, Cond.static arraycopyName, Cond.initialized "java/lang/System", Cond.methodLink RJx4a65c 135 yJx4a65c_rangeCheckForAdd_d00df, Cond.instanceMethod yJx4a65c_rangeCheckForAdd_d00df, Cond.selects RJx4a65c yJx4a65c_rangeCheckForAdd_d00df yJx4a65c_rangeCheckForAdd_d00df, Cond.code yJx4a65c_rangeCheckForAdd_d00df cJx4a65c_rangeCheckForAdd_d00df 2 none, Cond.methodLink RJx4a65c 129 yJx4a65c_grow_d5877, Cond.instanceMethod yJx4a65c_grow_d5877, Cond.selects RJx4a65c yJx4a65c_grow_d5877 yJx4a65c_grow_d5877]
def wsX10_listCandidates_r4 : List Cond := [Cond.code yJx4a65c_grow_d5877 cJx4a65c_grow_d5877 1 (some (.array (.object "java/lang/Object"))), Cond.methodLink RJx4a65c 69 yJx4a65c_grow_92f84, Cond.instanceMethod yJx4a65c_grow_92f84, Cond.selects RJx4a65c yJx4a65c_grow_92f84 yJx4a65c_grow_92f84, Cond.code yJx4a65c_grow_92f84 cJx4a65c_grow_92f84 4 (some (.array (.object "java/lang/Object"))), Cond.fieldLink RJx4a65c 39 "java/util/ArrayList" "DEFAULTCAPACITY_EMPTY_ELEMENTDATA" "[Ljava/lang/Object;", Cond.methodLink RJx4a65c 79 Lib.Math.max.name, Cond.static Lib.Math.max.name, Cond.initialized "java/lang/Math", Cond.code Lib.Math.max.name Lib.Math.max.code 2 (some .int), Cond.classLink RJx4a65c 7 "java/lang/Object", Cond.methodLink RJx4a65c 73 yJ8_newLength_cabcc, Cond.static yJ8_newLength_cabcc, Cond.initialized RJ8, Cond.code yJ8_newLength_cabcc cJ8_newLength_cabcc 4 (some .int), Cond.methodLink RJ8 194 Lib.Math.max.name, Cond.constant RJ8 200 (2147483639), Cond.methodLink RJ8 201 yJ8_hugeLength_7cf53, Cond.static yJ8_hugeLength_7cf53, Cond.code yJ8_hugeLength_7cf53 cJ8_hugeLength_7cf53 3 (some .int), Cond.methodLink RJx4a65c 66 yJ7_copyOf_1904c, Cond.static yJ7_copyOf_1904c, Cond.initialized RJ7, Cond.code yJ7_copyOf_1904c cJ7_copyOf_1904c 2 (some (.array (.object "java/lang/Object")))]
def wsX10_listCandidates_r5 : List Cond := [Cond.methodLink RJ7 86 ⟨"java/lang/Object", "getClass", "()Ljava/lang/Class;"⟩, Cond.selects "[Ljava/lang/Object;" ⟨"java/lang/Object", "getClass", "()Ljava/lang/Class;"⟩ ⟨"java/lang/Object", "getClass", "()Ljava/lang/Class;"⟩, Cond.instanceMethod ⟨"java/lang/Object", "getClass", "()Ljava/lang/Class;"⟩, Cond.native ⟨"java/lang/Object", "getClass", "()Ljava/lang/Class;"⟩, Cond.methodLink RJ7 300 yJ7_copyOf_6403c, Cond.static yJ7_copyOf_6403c, Cond.code yJ7_copyOf_6403c cJ7_copyOf_6403c 4 (some (.array (.object "java/lang/Object"))), Cond.classLink RJ7 110 "[Ljava/lang/Object;", Cond.classLink RJ7 2 "java/lang/Object", Cond.methodLink RJ7 304 Lib.Math.min.name, Cond.static Lib.Math.min.name, Cond.code Lib.Math.min.name Lib.Math.min.code 2 (some .int), Cond.methodLink RJ7 150 arraycopyName]
def wsX10_listCandidates : List Cond := .code yX10_listCandidates cX10_listCandidates 4 none :: ((wsX10_listCandidates_r1 ++ (wsX10_listCandidates_r2 ++ (wsX10_listCandidates_r3 ++ (wsX10_listCandidates_r4 ++ wsX10_listCandidates_r5)))) ++ wsX100 ++ wsX00 ++ wsJx4a65c0)
def wsX10_module_r1 : List Cond := [Cond.classLink RX10 79 "java/lang/IllegalArgumentException", Cond.initialized "java/lang/IllegalArgumentException", Cond.classLink RX10 278 "java/util/NoSuchElementException", Cond.initialized "java/util/NoSuchElementException", Cond.fieldLink RX10 37 "CoatLine" "candidates" "Ljava/util/ArrayList;", Cond.fieldLink RX10 28 "CoatLine" "modules" "Ljava/util/ArrayList;", Cond.classLink RX10 368 RX1, Cond.instantiable RX1 2, Cond.initialized RX1, Cond.classLink RX10 217 "CoatLine$Cell", Cond.fieldLink RX10 371 "CoatLine$Cell" "module" "LCoatLine$CellModule;", Cond.fieldLink RX10 22 "CoatLine" "cells" "Ljava/util/ArrayList;", Cond.fieldLink RX10 375 "CoatLine$CellModule" "cells" "Ljava/util/ArrayList;", Cond.methodLink RX10 86 yX10_requireWithin, Cond.static yX10_requireWithin, Cond.initialized RX10, Cond.code yX10_requireWithin cX10_requireWithin 3 none, Cond.methodLink RX10 359 yX10_listCandidates, Cond.instanceMethod yX10_listCandidates, Cond.selects RX10 yX10_listCandidates yX10_listCandidates, Cond.code yX10_listCandidates cX10_listCandidates 4 none, Cond.fieldLink RX10 234 "CoatLine$Cell" "hold" "I", Cond.methodLink RX10 537 yJx4a65c_clear_da8c8, Cond.instanceMethod yJx4a65c_clear_da8c8]
def wsX10_module_r2 : List Cond := [Cond.selects RJx4a65c yJx4a65c_clear_da8c8 yJx4a65c_clear_da8c8, Cond.initialized RJx4a65c, Cond.code yJx4a65c_clear_da8c8 cJx4a65c_clear_da8c8 4 none, Cond.fieldLink RJx4a65c 63 "java/util/ArrayList" "modCount" "I", Cond.sameField "java/util/ArrayList" "java/util/AbstractList" "modCount" "I", Cond.fieldLink RJx4a65c 9 "java/util/ArrayList" "elementData" "[Ljava/lang/Object;", Cond.fieldLink RJx4a65c 48 "java/util/ArrayList" "size" "I", Cond.methodLink RX10 90 yJx4a65c_size_8abf5, Cond.instanceMethod yJx4a65c_size_8abf5, Cond.selects RJx4a65c yJx4a65c_size_8abf5 yJx4a65c_size_8abf5, Cond.code yJx4a65c_size_8abf5 cJx4a65c_size_8abf5 1 (some .int), Cond.methodLink RX10 300 yJx4a65c_get_915e3, Cond.instanceMethod yJx4a65c_get_915e3, Cond.selects RJx4a65c yJx4a65c_get_915e3 yJx4a65c_get_915e3, Cond.code yJx4a65c_get_915e3 cJx4a65c_get_915e3 2 (some (.object "java/lang/Object")), Cond.methodLink RJx4a65c 118 yJ15_checkIndex_7cf53, Cond.static yJ15_checkIndex_7cf53, Cond.initialized RJ15, Cond.code yJ15_checkIndex_7cf53 cJ15_checkIndex_7cf53 2 (some .int), Cond.methodLink RJ15 105 yJ3_checkIndex_8e157, Cond.static yJ3_checkIndex_8e157, Cond.initialized RJ3, Cond.code yJ3_checkIndex_8e157 cJ3_checkIndex_8e157 3 (some .int), Cond.methodLink RJx4a65c 123 yJx4a65c_elementData_915e3]
def wsX10_module_r3 : List Cond := [Cond.instanceMethod yJx4a65c_elementData_915e3, Cond.selects RJx4a65c yJx4a65c_elementData_915e3 yJx4a65c_elementData_915e3, Cond.code yJx4a65c_elementData_915e3 cJx4a65c_elementData_915e3 2 (some (.object "java/lang/Object")), Cond.methodLink RX10 353 yX10_sortOf, Cond.instanceMethod yX10_sortOf, Cond.selects RX10 yX10_sortOf yX10_sortOf, Cond.code yX10_sortOf cX10_sortOf 2 (some .char), Cond.fieldLink RX10 64 "CoatLine" "hour" "I", Cond.fieldLink RX10 263 "CoatLine$Cell" "plated" "Z", Cond.fieldLink RX10 226 "CoatLine$Cell" "wasCovered" "Z", Cond.fieldLink RX10 70 "CoatLine" "firstBound" "I", Cond.fieldLink RX10 240 "CoatLine$Cell" "resistance" "I", Cond.fieldLink RX10 76 "CoatLine" "resistanceLimit" "I", Cond.fieldLink RX10 73 "CoatLine" "secondBound" "I", Cond.methodLink RX10 481 yX0_isReadyAt, Cond.instanceMethod yX0_isReadyAt, Cond.selects RX0 yX0_isReadyAt yX0_isReadyAt, Cond.initialized RX0, Cond.code yX0_isReadyAt cX0_isReadyAt 2 (some .boolean), Cond.fieldLink RX0 28 "CoatLine$Cell" "formed" "Z", Cond.fieldLink RX0 31 "CoatLine$Cell" "readyAt" "I", Cond.methodLink RX10 540 yX10_placeByHold, Cond.instanceMethod yX10_placeByHold, Cond.selects RX10 yX10_placeByHold yX10_placeByHold]
def wsX10_module_r4 : List Cond := [Cond.code yX10_placeByHold cX10_placeByHold 3 (some .int), Cond.methodLink RX10 543 yJx4a65c_add_7a177, Cond.instanceMethod yJx4a65c_add_7a177, Cond.selects RJx4a65c yJx4a65c_add_7a177 yJx4a65c_add_7a177, Cond.code yJx4a65c_add_7a177 cJx4a65c_add_7a177 5 none, Cond.methodLink RJx4a65c 112 arraycopyName, Cond.native arraycopyName, Cond.static arraycopyName, Cond.initialized "java/lang/System", Cond.methodLink RJx4a65c 135 yJx4a65c_rangeCheckForAdd_d00df, Cond.instanceMethod yJx4a65c_rangeCheckForAdd_d00df, Cond.selects RJx4a65c yJx4a65c_rangeCheckForAdd_d00df yJx4a65c_rangeCheckForAdd_d00df, Cond.code yJx4a65c_rangeCheckForAdd_d00df cJx4a65c_rangeCheckForAdd_d00df 2 none, Cond.methodLink RJx4a65c 129 yJx4a65c_grow_d5877, Cond.instanceMethod yJx4a65c_grow_d5877, Cond.selects RJx4a65c yJx4a65c_grow_d5877 yJx4a65c_grow_d5877, Cond.code yJx4a65c_grow_d5877 cJx4a65c_grow_d5877 1 (some (.array (.object "java/lang/Object"))), Cond.methodLink RJx4a65c 69 yJx4a65c_grow_92f84, Cond.instanceMethod yJx4a65c_grow_92f84, Cond.selects RJx4a65c yJx4a65c_grow_92f84 yJx4a65c_grow_92f84, Cond.code yJx4a65c_grow_92f84 cJx4a65c_grow_92f84 4 (some (.array (.object "java/lang/Object"))), Cond.fieldLink RJx4a65c 39 "java/util/ArrayList" "DEFAULTCAPACITY_EMPTY_ELEMENTDATA" "[Ljava/lang/Object;", Cond.methodLink RJx4a65c 79 Lib.Math.max.name, Cond.static Lib.Math.max.name]
def wsX10_module_r5 : List Cond := [Cond.initialized "java/lang/Math", Cond.code Lib.Math.max.name Lib.Math.max.code 2 (some .int), Cond.classLink RJx4a65c 7 "java/lang/Object", Cond.methodLink RJx4a65c 73 yJ8_newLength_cabcc, Cond.static yJ8_newLength_cabcc, Cond.initialized RJ8, Cond.code yJ8_newLength_cabcc cJ8_newLength_cabcc 4 (some .int), Cond.methodLink RJ8 194 Lib.Math.max.name, Cond.constant RJ8 200 (2147483639), Cond.methodLink RJ8 201 yJ8_hugeLength_7cf53, Cond.static yJ8_hugeLength_7cf53, Cond.code yJ8_hugeLength_7cf53 cJ8_hugeLength_7cf53 3 (some .int), Cond.methodLink RJx4a65c 66 yJ7_copyOf_1904c, Cond.static yJ7_copyOf_1904c, Cond.initialized RJ7, Cond.code yJ7_copyOf_1904c cJ7_copyOf_1904c 2 (some (.array (.object "java/lang/Object"))), Cond.methodLink RJ7 86 ⟨"java/lang/Object", "getClass", "()Ljava/lang/Class;"⟩, Cond.selects "[Ljava/lang/Object;" ⟨"java/lang/Object", "getClass", "()Ljava/lang/Class;"⟩ ⟨"java/lang/Object", "getClass", "()Ljava/lang/Class;"⟩, Cond.instanceMethod ⟨"java/lang/Object", "getClass", "()Ljava/lang/Class;"⟩, Cond.native ⟨"java/lang/Object", "getClass", "()Ljava/lang/Class;"⟩, Cond.methodLink RJ7 300 yJ7_copyOf_6403c, Cond.static yJ7_copyOf_6403c, Cond.code yJ7_copyOf_6403c cJ7_copyOf_6403c 4 (some (.array (.object "java/lang/Object"))), Cond.classLink RJ7 110 "[Ljava/lang/Object;"]
def wsX10_module_r6 : List Cond := [Cond.classLink RJ7 2 "java/lang/Object", Cond.methodLink RJ7 304 Lib.Math.min.name, Cond.static Lib.Math.min.name, Cond.code Lib.Math.min.name Lib.Math.min.code 2 (some .int), Cond.methodLink RJ7 150 arraycopyName, Cond.methodLink RX10 94 yX10_requireSpace, Cond.static yX10_requireSpace, Cond.code yX10_requireSpace cX10_requireSpace 3 none, Cond.classLink RX10 295 "java/lang/IllegalStateException", Cond.initialized "java/lang/IllegalStateException", Cond.methodLink RX10 365 yX10_startOfLeastSpread, Cond.instanceMethod yX10_startOfLeastSpread, Cond.selects RX10 yX10_startOfLeastSpread yX10_startOfLeastSpread, Cond.code yX10_startOfLeastSpread cX10_startOfLeastSpread 6 (some .int), Cond.constant RX10 546 (2147483647), Cond.instanceMethod yX1_init, Cond.code yX1_init cX1_init 1 none, Cond.methodLink RX1 1 objectInit, Cond.instanceMethod objectInit, Cond.code objectInit ⟨#[0xb1]⟩ 1 none, Cond.classLink RX1 7 RJx4a65c, Cond.instantiable RJx4a65c 3, Cond.fieldLink RX1 10 "CoatLine$CellModule" "cells" "Ljava/util/ArrayList;", Cond.fieldLink RX1 16 "CoatLine$CellModule" "packed" "Z"]
def wsX10_module_r7 : List Cond := [Cond.methodLink RX1 9 yJx4a65c_init_da8c8, Cond.instanceMethod yJx4a65c_init_da8c8, Cond.code yJx4a65c_init_da8c8 cJx4a65c_init_da8c8 1 none, Cond.methodLink RJx4a65c 1 yJxc12de_init_da8c8, Cond.instanceMethod yJxc12de_init_da8c8, Cond.initialized RJxc12de, Cond.code yJxc12de_init_da8c8 cJxc12de_init_da8c8 1 none, Cond.fieldLink RJxc12de 7 "java/util/AbstractList" "modCount" "I", Cond.methodLink RJxc12de 1 yJxa1e45_init_da8c8, Cond.instanceMethod yJxa1e45_init_da8c8, Cond.initialized RJxa1e45, Cond.code yJxa1e45_init_da8c8 cJxa1e45_init_da8c8 1 none, Cond.methodLink RJxa1e45 1 objectInit, Cond.methodLink RX10 102 yJx4a65c_add_9ea2d, Cond.instanceMethod yJx4a65c_add_9ea2d, Cond.selects RJx4a65c yJx4a65c_add_9ea2d yJx4a65c_add_9ea2d, Cond.code yJx4a65c_add_9ea2d cJx4a65c_add_9ea2d 2 (some .boolean), Cond.methodLink RJx4a65c 131 yJx4a65c_add_72be8, Cond.instanceMethod yJx4a65c_add_72be8, Cond.selects RJx4a65c yJx4a65c_add_72be8 yJx4a65c_add_72be8, Cond.code yJx4a65c_add_72be8 cJx4a65c_add_72be8 4 none]
def wsX10_module : List Cond := .code yX10_module cX10_module 6 (some .int) :: ((wsX10_module_r1 ++ (wsX10_module_r2 ++ (wsX10_module_r3 ++ (wsX10_module_r4 ++ (wsX10_module_r5 ++ (wsX10_module_r6 ++ wsX10_module_r7)))))) ++ wsX100 ++ wsX10 ++ wsX00 ++ wsJx4a65c0 ++ (vx_atS RX10 83 "java/lang/IllegalArgumentException" ["java/lang/RuntimeException", "java/lang/Exception"]).filter goodWord ++ (vx_atS RX10 282 "java/util/NoSuchElementException" ["java/lang/RuntimeException", "java/lang/Exception"]).filter goodWord ++ (vx_atS RX10 299 "java/lang/IllegalStateException" ["java/lang/RuntimeException", "java/lang/Exception"]).filter goodWord)
def wsX10_addDoubt_r1 : List Cond := [Cond.fieldLink RX10 34 "CoatLine" "doubts" "Ljava/util/ArrayList;", Cond.fieldLink RX10 22 "CoatLine" "cells" "Ljava/util/ArrayList;", Cond.classLink RX10 217 "CoatLine$Cell", Cond.fieldLink RX10 226 "CoatLine$Cell" "wasCovered" "Z", Cond.methodLink RX10 90 yJx4a65c_size_8abf5, Cond.instanceMethod yJx4a65c_size_8abf5, Cond.selects RJx4a65c yJx4a65c_size_8abf5 yJx4a65c_size_8abf5, Cond.initialized RJx4a65c, Cond.code yJx4a65c_size_8abf5 cJx4a65c_size_8abf5 1 (some .int), Cond.fieldLink RJx4a65c 48 "java/util/ArrayList" "size" "I", Cond.methodLink RX10 94 yX10_requireSpace, Cond.static yX10_requireSpace, Cond.initialized RX10, Cond.code yX10_requireSpace cX10_requireSpace 3 none, Cond.classLink RX10 295 "java/lang/IllegalStateException", Cond.initialized "java/lang/IllegalStateException", Cond.methodLink RX10 300 yJx4a65c_get_915e3, Cond.instanceMethod yJx4a65c_get_915e3, Cond.selects RJx4a65c yJx4a65c_get_915e3 yJx4a65c_get_915e3, Cond.code yJx4a65c_get_915e3 cJx4a65c_get_915e3 2 (some (.object "java/lang/Object")), Cond.methodLink RJx4a65c 118 yJ15_checkIndex_7cf53, Cond.static yJ15_checkIndex_7cf53, Cond.initialized RJ15, Cond.code yJ15_checkIndex_7cf53 cJ15_checkIndex_7cf53 2 (some .int)]
def wsX10_addDoubt_r2 : List Cond := [Cond.methodLink RJ15 105 yJ3_checkIndex_8e157, Cond.static yJ3_checkIndex_8e157, Cond.initialized RJ3, Cond.code yJ3_checkIndex_8e157 cJ3_checkIndex_8e157 3 (some .int), Cond.methodLink RJx4a65c 123 yJx4a65c_elementData_915e3, Cond.instanceMethod yJx4a65c_elementData_915e3, Cond.selects RJx4a65c yJx4a65c_elementData_915e3 yJx4a65c_elementData_915e3, Cond.code yJx4a65c_elementData_915e3 cJx4a65c_elementData_915e3 2 (some (.object "java/lang/Object")), Cond.fieldLink RJx4a65c 9 "java/util/ArrayList" "elementData" "[Ljava/lang/Object;", Cond.methodLink RX10 469 yX4_reaches, Cond.instanceMethod yX4_reaches, Cond.selects RX4 yX4_reaches yX4_reaches, Cond.initialized RX4, Cond.code yX4_reaches cX4_reaches 2 (some .boolean), Cond.fieldLink RX4 27 "CoatLine$Cell" "positive" "LCoatLine$Stretch;", Cond.fieldLink RX4 37 "CoatLine$Cell" "negative" "LCoatLine$Stretch;", Cond.methodLink RX4 33 yX4_reachesMetresOf, Cond.instanceMethod yX4_reachesMetresOf, Cond.selects RX4 yX4_reachesMetresOf yX4_reachesMetresOf, Cond.code yX4_reachesMetresOf cX4_reachesMetresOf 3 (some .boolean), Cond.fieldLink RX4 40 "CoatLine$Stretch" "ribbon" "LCoatLine$Ribbon;", Cond.fieldLink RX4 13 "CoatLine$Doubt" "kind" "C", Cond.fieldLink RX4 46 "CoatLine$Ribbon" "coil" "LCoatLine$Coil;", Cond.fieldLink RX4 52 "CoatLine$Coil" "lot" "LCoatLine$Lot;"]
def wsX10_addDoubt_r3 : List Cond := [Cond.fieldLink RX4 58 "CoatLine$Lot" "number" "I", Cond.fieldLink RX4 17 "CoatLine$Doubt" "number" "I", Cond.fieldLink RX4 61 "CoatLine$Ribbon" "burr" "I", Cond.fieldLink RX4 64 "CoatLine$Coil" "number" "I", Cond.fieldLink RX4 21 "CoatLine$Doubt" "from" "I", Cond.fieldLink RX4 24 "CoatLine$Doubt" "to" "I", Cond.methodLink RX4 65 yX9_hasMetreWithin, Cond.instanceMethod yX9_hasMetreWithin, Cond.selects RX9 yX9_hasMetreWithin yX9_hasMetreWithin, Cond.initialized RX9, Cond.code yX9_hasMetreWithin cX9_hasMetreWithin 3 (some .boolean), Cond.fieldLink RX9 15 "CoatLine$Stretch" "start" "I", Cond.fieldLink RX9 19 "CoatLine$Stretch" "length" "I", Cond.methodLink RX10 102 yJx4a65c_add_9ea2d, Cond.instanceMethod yJx4a65c_add_9ea2d, Cond.selects RJx4a65c yJx4a65c_add_9ea2d yJx4a65c_add_9ea2d, Cond.code yJx4a65c_add_9ea2d cJx4a65c_add_9ea2d 2 (some .boolean), Cond.fieldLink RJx4a65c 63 "java/util/ArrayList" "modCount" "I", Cond.sameField "java/util/ArrayList" "java/util/AbstractList" "modCount" "I", Cond.methodLink RJx4a65c 131 yJx4a65c_add_72be8, Cond.instanceMethod yJx4a65c_add_72be8, Cond.selects RJx4a65c yJx4a65c_add_72be8 yJx4a65c_add_72be8, Cond.code yJx4a65c_add_72be8 cJx4a65c_add_72be8 4 none, Cond.methodLink RJx4a65c 129 yJx4a65c_grow_d5877]
def wsX10_addDoubt_r4 : List Cond := [Cond.instanceMethod yJx4a65c_grow_d5877, Cond.selects RJx4a65c yJx4a65c_grow_d5877 yJx4a65c_grow_d5877, Cond.code yJx4a65c_grow_d5877 cJx4a65c_grow_d5877 1 (some (.array (.object "java/lang/Object"))), Cond.methodLink RJx4a65c 69 yJx4a65c_grow_92f84, Cond.instanceMethod yJx4a65c_grow_92f84, Cond.selects RJx4a65c yJx4a65c_grow_92f84 yJx4a65c_grow_92f84, Cond.code yJx4a65c_grow_92f84 cJx4a65c_grow_92f84 4 (some (.array (.object "java/lang/Object"))), Cond.fieldLink RJx4a65c 39 "java/util/ArrayList" "DEFAULTCAPACITY_EMPTY_ELEMENTDATA" "[Ljava/lang/Object;", Cond.methodLink RJx4a65c 79 Lib.Math.max.name, Cond.static Lib.Math.max.name, Cond.initialized "java/lang/Math", Cond.code Lib.Math.max.name Lib.Math.max.code 2 (some .int), Cond.classLink RJx4a65c 7 "java/lang/Object", Cond.methodLink RJx4a65c 73 yJ8_newLength_cabcc, Cond.static yJ8_newLength_cabcc, Cond.initialized RJ8, Cond.code yJ8_newLength_cabcc cJ8_newLength_cabcc 4 (some .int), Cond.methodLink RJ8 194 Lib.Math.max.name, Cond.constant RJ8 200 (2147483639), Cond.methodLink RJ8 201 yJ8_hugeLength_7cf53, Cond.static yJ8_hugeLength_7cf53, Cond.code yJ8_hugeLength_7cf53 cJ8_hugeLength_7cf53 3 (some .int), Cond.methodLink RJx4a65c 66 yJ7_copyOf_1904c, Cond.static yJ7_copyOf_1904c]
def wsX10_addDoubt_r5 : List Cond := [Cond.initialized RJ7, Cond.code yJ7_copyOf_1904c cJ7_copyOf_1904c 2 (some (.array (.object "java/lang/Object"))), Cond.methodLink RJ7 86 ⟨"java/lang/Object", "getClass", "()Ljava/lang/Class;"⟩, Cond.selects "[Ljava/lang/Object;" ⟨"java/lang/Object", "getClass", "()Ljava/lang/Class;"⟩ ⟨"java/lang/Object", "getClass", "()Ljava/lang/Class;"⟩, Cond.instanceMethod ⟨"java/lang/Object", "getClass", "()Ljava/lang/Class;"⟩, Cond.native ⟨"java/lang/Object", "getClass", "()Ljava/lang/Class;"⟩, Cond.methodLink RJ7 300 yJ7_copyOf_6403c, Cond.static yJ7_copyOf_6403c, Cond.code yJ7_copyOf_6403c cJ7_copyOf_6403c 4 (some (.array (.object "java/lang/Object"))), Cond.classLink RJ7 110 "[Ljava/lang/Object;", Cond.classLink RJ7 2 "java/lang/Object", Cond.methodLink RJ7 304 Lib.Math.min.name, Cond.static Lib.Math.min.name, Cond.code Lib.Math.min.name Lib.Math.min.code 2 (some .int), Cond.methodLink RJ7 150 arraycopyName, Cond.native arraycopyName, Cond.static arraycopyName, Cond.initialized "java/lang/System"]
def wsX10_addDoubt : List Cond := .code yX10_addDoubt cX10_addDoubt 4 (some .int) :: ((wsX10_addDoubt_r1 ++ (wsX10_addDoubt_r2 ++ (wsX10_addDoubt_r3 ++ (wsX10_addDoubt_r4 ++ wsX10_addDoubt_r5)))) ++ wsX100 ++ wsX00 ++ wsJx4a65c0 ++ wsX90 ++ wsX40 ++ wsX80 ++ wsX30 ++ wsX50 ++ (vx_atS RX10 299 "java/lang/IllegalStateException" ["java/lang/RuntimeException", "java/lang/Exception"]).filter goodWord)
def wsX10_doubtAll_r1 : List Cond := [Cond.classLink RX10 79 "java/lang/IllegalArgumentException", Cond.initialized "java/lang/IllegalArgumentException", Cond.classLink RX10 449 RX4, Cond.instantiable RX4 5, Cond.initialized RX4, Cond.methodLink RX10 109 yX10_lotNumbered, Cond.instanceMethod yX10_lotNumbered, Cond.selects RX10 yX10_lotNumbered yX10_lotNumbered, Cond.initialized RX10, Cond.code yX10_lotNumbered cX10_lotNumbered 2 (some (.object "CoatLine$Lot")), Cond.classLink RX10 460 "java/lang/IndexOutOfBoundsException", Cond.initialized "java/lang/IndexOutOfBoundsException", Cond.fieldLink RX10 10 "CoatLine" "lots" "Ljava/util/ArrayList;", Cond.classLink RX10 97 "CoatLine$Lot", Cond.methodLink RX10 90 yJx4a65c_size_8abf5, Cond.instanceMethod yJx4a65c_size_8abf5, Cond.selects RJx4a65c yJx4a65c_size_8abf5 yJx4a65c_size_8abf5, Cond.initialized RJx4a65c, Cond.code yJx4a65c_size_8abf5 cJx4a65c_size_8abf5 1 (some .int), Cond.fieldLink RJx4a65c 48 "java/util/ArrayList" "size" "I", Cond.methodLink RX10 300 yJx4a65c_get_915e3, Cond.instanceMethod yJx4a65c_get_915e3, Cond.selects RJx4a65c yJx4a65c_get_915e3 yJx4a65c_get_915e3, Cond.code yJx4a65c_get_915e3 cJx4a65c_get_915e3 2 (some (.object "java/lang/Object"))]
def wsX10_doubtAll_r2 : List Cond := [Cond.methodLink RJx4a65c 118 yJ15_checkIndex_7cf53, Cond.static yJ15_checkIndex_7cf53, Cond.initialized RJ15, Cond.code yJ15_checkIndex_7cf53 cJ15_checkIndex_7cf53 2 (some .int), Cond.methodLink RJ15 105 yJ3_checkIndex_8e157, Cond.static yJ3_checkIndex_8e157, Cond.initialized RJ3, Cond.code yJ3_checkIndex_8e157 cJ3_checkIndex_8e157 3 (some .int), Cond.methodLink RJx4a65c 123 yJx4a65c_elementData_915e3, Cond.instanceMethod yJx4a65c_elementData_915e3, Cond.selects RJx4a65c yJx4a65c_elementData_915e3 yJx4a65c_elementData_915e3, Cond.code yJx4a65c_elementData_915e3 cJx4a65c_elementData_915e3 2 (some (.object "java/lang/Object")), Cond.fieldLink RJx4a65c 9 "java/util/ArrayList" "elementData" "[Ljava/lang/Object;", Cond.methodLink RX10 451 yX4_init, Cond.instanceMethod yX4_init, Cond.code yX4_init cX4_init 5 none, Cond.methodLink RX4 1 objectInit, Cond.instanceMethod objectInit, Cond.code objectInit ⟨#[0xb1]⟩ 1 none, Cond.fieldLink RX4 7 "CoatLine$Doubt" "cleared" "Z", Cond.fieldLink RX4 13 "CoatLine$Doubt" "kind" "C", Cond.fieldLink RX4 17 "CoatLine$Doubt" "number" "I", Cond.fieldLink RX4 21 "CoatLine$Doubt" "from" "I", Cond.fieldLink RX4 24 "CoatLine$Doubt" "to" "I"]
def wsX10_doubtAll_r3 : List Cond := [Cond.methodLink RX10 454 yX10_addDoubt, Cond.instanceMethod yX10_addDoubt, Cond.selects RX10 yX10_addDoubt yX10_addDoubt, Cond.code yX10_addDoubt cX10_addDoubt 4 (some .int), Cond.fieldLink RX10 34 "CoatLine" "doubts" "Ljava/util/ArrayList;", Cond.fieldLink RX10 22 "CoatLine" "cells" "Ljava/util/ArrayList;", Cond.classLink RX10 217 "CoatLine$Cell", Cond.fieldLink RX10 226 "CoatLine$Cell" "wasCovered" "Z", Cond.methodLink RX10 94 yX10_requireSpace, Cond.static yX10_requireSpace, Cond.code yX10_requireSpace cX10_requireSpace 3 none, Cond.classLink RX10 295 "java/lang/IllegalStateException", Cond.initialized "java/lang/IllegalStateException", Cond.methodLink RX10 469 yX4_reaches, Cond.instanceMethod yX4_reaches, Cond.selects RX4 yX4_reaches yX4_reaches, Cond.code yX4_reaches cX4_reaches 2 (some .boolean), Cond.fieldLink RX4 27 "CoatLine$Cell" "positive" "LCoatLine$Stretch;", Cond.fieldLink RX4 37 "CoatLine$Cell" "negative" "LCoatLine$Stretch;", Cond.methodLink RX4 33 yX4_reachesMetresOf, Cond.instanceMethod yX4_reachesMetresOf, Cond.selects RX4 yX4_reachesMetresOf yX4_reachesMetresOf, Cond.code yX4_reachesMetresOf cX4_reachesMetresOf 3 (some .boolean), Cond.fieldLink RX4 40 "CoatLine$Stretch" "ribbon" "LCoatLine$Ribbon;"]
def wsX10_doubtAll_r4 : List Cond := [Cond.fieldLink RX4 46 "CoatLine$Ribbon" "coil" "LCoatLine$Coil;", Cond.fieldLink RX4 52 "CoatLine$Coil" "lot" "LCoatLine$Lot;", Cond.fieldLink RX4 58 "CoatLine$Lot" "number" "I", Cond.fieldLink RX4 61 "CoatLine$Ribbon" "burr" "I", Cond.fieldLink RX4 64 "CoatLine$Coil" "number" "I", Cond.methodLink RX4 65 yX9_hasMetreWithin, Cond.instanceMethod yX9_hasMetreWithin, Cond.selects RX9 yX9_hasMetreWithin yX9_hasMetreWithin, Cond.initialized RX9, Cond.code yX9_hasMetreWithin cX9_hasMetreWithin 3 (some .boolean), Cond.fieldLink RX9 15 "CoatLine$Stretch" "start" "I", Cond.fieldLink RX9 19 "CoatLine$Stretch" "length" "I", Cond.methodLink RX10 102 yJx4a65c_add_9ea2d, Cond.instanceMethod yJx4a65c_add_9ea2d, Cond.selects RJx4a65c yJx4a65c_add_9ea2d yJx4a65c_add_9ea2d, Cond.code yJx4a65c_add_9ea2d cJx4a65c_add_9ea2d 2 (some .boolean), Cond.fieldLink RJx4a65c 63 "java/util/ArrayList" "modCount" "I", Cond.sameField "java/util/ArrayList" "java/util/AbstractList" "modCount" "I", Cond.methodLink RJx4a65c 131 yJx4a65c_add_72be8, Cond.instanceMethod yJx4a65c_add_72be8, Cond.selects RJx4a65c yJx4a65c_add_72be8 yJx4a65c_add_72be8, Cond.code yJx4a65c_add_72be8 cJx4a65c_add_72be8 4 none, Cond.methodLink RJx4a65c 129 yJx4a65c_grow_d5877, Cond.instanceMethod yJx4a65c_grow_d5877]
def wsX10_doubtAll_r5 : List Cond := [Cond.selects RJx4a65c yJx4a65c_grow_d5877 yJx4a65c_grow_d5877, Cond.code yJx4a65c_grow_d5877 cJx4a65c_grow_d5877 1 (some (.array (.object "java/lang/Object"))), Cond.methodLink RJx4a65c 69 yJx4a65c_grow_92f84, Cond.instanceMethod yJx4a65c_grow_92f84, Cond.selects RJx4a65c yJx4a65c_grow_92f84 yJx4a65c_grow_92f84, Cond.code yJx4a65c_grow_92f84 cJx4a65c_grow_92f84 4 (some (.array (.object "java/lang/Object"))), Cond.fieldLink RJx4a65c 39 "java/util/ArrayList" "DEFAULTCAPACITY_EMPTY_ELEMENTDATA" "[Ljava/lang/Object;", Cond.methodLink RJx4a65c 79 Lib.Math.max.name, Cond.static Lib.Math.max.name, Cond.initialized "java/lang/Math", Cond.code Lib.Math.max.name Lib.Math.max.code 2 (some .int), Cond.classLink RJx4a65c 7 "java/lang/Object", Cond.methodLink RJx4a65c 73 yJ8_newLength_cabcc, Cond.static yJ8_newLength_cabcc, Cond.initialized RJ8, Cond.code yJ8_newLength_cabcc cJ8_newLength_cabcc 4 (some .int), Cond.methodLink RJ8 194 Lib.Math.max.name, Cond.constant RJ8 200 (2147483639), Cond.methodLink RJ8 201 yJ8_hugeLength_7cf53, Cond.static yJ8_hugeLength_7cf53, Cond.code yJ8_hugeLength_7cf53 cJ8_hugeLength_7cf53 3 (some .int), Cond.methodLink RJx4a65c 66 yJ7_copyOf_1904c, Cond.static yJ7_copyOf_1904c, Cond.initialized RJ7]
def wsX10_doubtAll_r6 : List Cond := [Cond.code yJ7_copyOf_1904c cJ7_copyOf_1904c 2 (some (.array (.object "java/lang/Object"))), Cond.methodLink RJ7 86 ⟨"java/lang/Object", "getClass", "()Ljava/lang/Class;"⟩, Cond.selects "[Ljava/lang/Object;" ⟨"java/lang/Object", "getClass", "()Ljava/lang/Class;"⟩ ⟨"java/lang/Object", "getClass", "()Ljava/lang/Class;"⟩, Cond.instanceMethod ⟨"java/lang/Object", "getClass", "()Ljava/lang/Class;"⟩, Cond.native ⟨"java/lang/Object", "getClass", "()Ljava/lang/Class;"⟩, Cond.methodLink RJ7 300 yJ7_copyOf_6403c, Cond.static yJ7_copyOf_6403c, Cond.code yJ7_copyOf_6403c cJ7_copyOf_6403c 4 (some (.array (.object "java/lang/Object"))), Cond.classLink RJ7 110 "[Ljava/lang/Object;", Cond.classLink RJ7 2 "java/lang/Object", Cond.methodLink RJ7 304 Lib.Math.min.name, Cond.static Lib.Math.min.name, Cond.code Lib.Math.min.name Lib.Math.min.code 2 (some .int), Cond.methodLink RJ7 150 arraycopyName, Cond.native arraycopyName, Cond.static arraycopyName, Cond.initialized "java/lang/System"]
def wsX10_doubtAll : List Cond := .code yX10_doubtAll cX10_doubtAll 3 (some .int) :: ((wsX10_doubtAll_r1 ++ (wsX10_doubtAll_r2 ++ (wsX10_doubtAll_r3 ++ (wsX10_doubtAll_r4 ++ (wsX10_doubtAll_r5 ++ wsX10_doubtAll_r6))))) ++ wsX40 ++ wsX100 ++ wsJx4a65c0 ++ wsX00 ++ wsX90 ++ wsX80 ++ wsX30 ++ wsX50 ++ (vx_atS RX10 83 "java/lang/IllegalArgumentException" ["java/lang/RuntimeException", "java/lang/Exception"]).filter goodWord ++ (vx_atS RX10 464 "java/lang/IndexOutOfBoundsException" ["java/lang/RuntimeException", "java/lang/Exception"]).filter goodWord ++ (vx_atS RX10 299 "java/lang/IllegalStateException" ["java/lang/RuntimeException", "java/lang/Exception"]).filter goodWord)
theorem dX4_init_0 : decode cX4_init 0 = .ok (.aload_n 0, 1) := by decide +kernel
theorem dX4_init_1 : decode cX4_init 1 = .ok (.invokespecial 1, 3) := by decide +kernel
theorem dX4_init_4 : decode cX4_init 4 = .ok (.aload_n 0, 1) := by decide +kernel
theorem dX4_init_5 : decode cX4_init 5 = .ok (.iconst 0, 1) := by decide +kernel
theorem dX4_init_6 : decode cX4_init 6 = .ok (.putfield 7, 3) := by decide +kernel
theorem dX4_init_9 : decode cX4_init 9 = .ok (.aload_n 0, 1) := by decide +kernel
theorem dX4_init_10 : decode cX4_init 10 = .ok (.iload_n 1, 1) := by decide +kernel
theorem dX4_init_11 : decode cX4_init 11 = .ok (.putfield 13, 3) := by decide +kernel
theorem dX4_init_14 : decode cX4_init 14 = .ok (.aload_n 0, 1) := by decide +kernel
theorem dX4_init_15 : decode cX4_init 15 = .ok (.iload_n 2, 1) := by decide +kernel
theorem dX4_init_16 : decode cX4_init 16 = .ok (.putfield 17, 3) := by decide +kernel
theorem dX4_init_19 : decode cX4_init 19 = .ok (.aload_n 0, 1) := by decide +kernel
theorem dX4_init_20 : decode cX4_init 20 = .ok (.iload_n 3, 1) := by decide +kernel
theorem dX4_init_21 : decode cX4_init 21 = .ok (.putfield 21, 3) := by decide +kernel
theorem dX4_init_24 : decode cX4_init 24 = .ok (.aload_n 0, 1) := by decide +kernel
theorem dX4_init_25 : decode cX4_init 25 = .ok (.iload 4, 2) := by decide +kernel
theorem dX4_init_27 : decode cX4_init 27 = .ok (.putfield 24, 3) := by decide +kernel
theorem dX4_init_30 : decode cX4_init 30 = .ok (.return_, 1) := by decide +kernel
theorem dX5_init_0 : decode cX5_init 0 = .ok (.aload_n 0, 1) := by decide +kernel
theorem dX5_init_1 : decode cX5_init 1 = .ok (.invokespecial 1, 3) := by decide +kernel
theorem dX5_init_4 : decode cX5_init 4 = .ok (.aload_n 0, 1) := by decide +kernel
theorem dX5_init_5 : decode cX5_init 5 = .ok (.iload_n 1, 1) := by decide +kernel
theorem dX5_init_6 : decode cX5_init 6 = .ok (.putfield 7, 3) := by decide +kernel
theorem dX5_init_9 : decode cX5_init 9 = .ok (.aload_n 0, 1) := by decide +kernel
theorem dX5_init_10 : decode cX5_init 10 = .ok (.iload_n 2, 1) := by decide +kernel
theorem dX5_init_11 : decode cX5_init 11 = .ok (.putfield 13, 3) := by decide +kernel
theorem dX5_init_14 : decode cX5_init 14 = .ok (.aload_n 0, 1) := by decide +kernel
theorem dX5_init_15 : decode cX5_init 15 = .ok (.iload_n 3, 1) := by decide +kernel
theorem dX5_init_16 : decode cX5_init 16 = .ok (.putfield 17, 3) := by decide +kernel
theorem dX5_init_19 : decode cX5_init 19 = .ok (.aload_n 0, 1) := by decide +kernel
theorem dX5_init_20 : decode cX5_init 20 = .ok (.iload 4, 2) := by decide +kernel
theorem dX5_init_22 : decode cX5_init 22 = .ok (.putfield 20, 3) := by decide +kernel
theorem dX5_init_25 : decode cX5_init 25 = .ok (.return_, 1) := by decide +kernel
theorem dX7_init_0 : decode cX7_init 0 = .ok (.aload_n 0, 1) := by decide +kernel
theorem dX7_init_1 : decode cX7_init 1 = .ok (.invokespecial 3, 3) := by decide +kernel
theorem dX7_init_4 : decode cX7_init 4 = .ok (.aload_n 0, 1) := by decide +kernel
theorem dX7_init_5 : decode cX7_init 5 = .ok (.bipush 6, 2) := by decide +kernel
theorem dX7_init_7 : decode cX7_init 7 = .ok (.newarray .int, 2) := by decide +kernel
theorem dX7_init_9 : decode cX7_init 9 = .ok (.putfield 9, 3) := by decide +kernel
theorem dX7_init_12 : decode cX7_init 12 = .ok (.aload_n 0, 1) := by decide +kernel
theorem dX7_init_13 : decode cX7_init 13 = .ok (.bipush 6, 2) := by decide +kernel
theorem dX7_init_15 : decode cX7_init 15 = .ok (.newarray .int, 2) := by decide +kernel
theorem dX7_init_17 : decode cX7_init 17 = .ok (.putfield 15, 3) := by decide +kernel
theorem dX7_init_20 : decode cX7_init 20 = .ok (.aload_n 0, 1) := by decide +kernel
theorem dX7_init_21 : decode cX7_init 21 = .ok (.iconst 0, 1) := by decide +kernel
theorem dX7_init_22 : decode cX7_init 22 = .ok (.putfield 18, 3) := by decide +kernel
theorem dX7_init_25 : decode cX7_init 25 = .ok (.return_, 1) := by decide +kernel
theorem dX7_addStep_0 : decode cX7_addStep 0 = .ok (.aload_n 0, 1) := by decide +kernel
theorem dX7_addStep_1 : decode cX7_addStep 1 = .ok (.getfield 18, 3) := by decide +kernel
theorem dX7_addStep_4 : decode cX7_addStep 4 = .ok (.ifCond .lt 42, 3) := by decide +kernel
theorem dX7_addStep_7 : decode cX7_addStep 7 = .ok (.aload_n 0, 1) := by decide +kernel
theorem dX7_addStep_8 : decode cX7_addStep 8 = .ok (.getfield 18, 3) := by decide +kernel
theorem dX7_addStep_11 : decode cX7_addStep 11 = .ok (.bipush 6, 2) := by decide +kernel
theorem dX7_addStep_13 : decode cX7_addStep 13 = .ok (.if_icmp .ge 33, 3) := by decide +kernel
theorem dX7_addStep_16 : decode cX7_addStep 16 = .ok (.aload_n 0, 1) := by decide +kernel
theorem dX7_addStep_17 : decode cX7_addStep 17 = .ok (.getfield 9, 3) := by decide +kernel
theorem dX7_addStep_20 : decode cX7_addStep 20 = .ok (.aload_n 0, 1) := by decide +kernel
theorem dX7_addStep_21 : decode cX7_addStep 21 = .ok (.getfield 18, 3) := by decide +kernel
theorem dX7_addStep_24 : decode cX7_addStep 24 = .ok (.iload_n 1, 1) := by decide +kernel
theorem dX7_addStep_25 : decode cX7_addStep 25 = .ok (.iastore, 1) := by decide +kernel
theorem dX7_addStep_26 : decode cX7_addStep 26 = .ok (.aload_n 0, 1) := by decide +kernel
theorem dX7_addStep_27 : decode cX7_addStep 27 = .ok (.getfield 15, 3) := by decide +kernel
theorem dX7_addStep_30 : decode cX7_addStep 30 = .ok (.aload_n 0, 1) := by decide +kernel
theorem dX7_addStep_31 : decode cX7_addStep 31 = .ok (.getfield 18, 3) := by decide +kernel
theorem dX7_addStep_34 : decode cX7_addStep 34 = .ok (.iload_n 2, 1) := by decide +kernel
theorem dX7_addStep_35 : decode cX7_addStep 35 = .ok (.iastore, 1) := by decide +kernel
theorem dX7_addStep_36 : decode cX7_addStep 36 = .ok (.aload_n 0, 1) := by decide +kernel
theorem dX7_addStep_37 : decode cX7_addStep 37 = .ok (.dup, 1) := by decide +kernel
theorem dX7_addStep_38 : decode cX7_addStep 38 = .ok (.getfield 18, 3) := by decide +kernel
theorem dX7_addStep_41 : decode cX7_addStep 41 = .ok (.iconst 1, 1) := by decide +kernel
theorem dX7_addStep_42 : decode cX7_addStep 42 = .ok (.iadd, 1) := by decide +kernel
theorem dX7_addStep_43 : decode cX7_addStep 43 = .ok (.putfield 18, 3) := by decide +kernel
theorem dX7_addStep_46 : decode cX7_addStep 46 = .ok (.return_, 1) := by decide +kernel
set_option maxRecDepth 20000 in
theorem ggX10_init_X2_init : GoodIn wsX10_init wsX2_init := goodIn_r _ [47, 48, 2, 3, 49, 50, 74, 75] (by decide +kernel) (by decide +kernel)
set_option maxRecDepth 20000 in
theorem gX10_init_X2_init_n46 : GoodIn wsX10_init (wsX2_init) := ggX10_init_X2_init
set_option maxRecDepth 20000 in
theorem ggX10_lot_X10_requireWithin : GoodIn wsX10_lot wsX10_requireWithin := goodIn_ca (goodIn_r _ [11, 1, 2] (by decide +kernel) (by decide +kernel)) (goodIn_sub (fun _ h => List.mem_cons_of_mem _ (List.mem_append_left _ (List.mem_append_right _ h))) (by decide +kernel))
set_option maxRecDepth 20000 in
theorem gX10_lot_X10_requireWithin : GoodIn wsX10_lot (va_wsS RX10 86 yX10_requireWithin wsX10_requireWithin) := goodIn_app (goodIn_of _ (by decide +kernel)) ggX10_lot_X10_requireWithin
set_option maxRecDepth 20000 in
theorem ggX10_lot_Jx4a65c_size_8abf5 : GoodIn wsX10_lot wsJx4a65c_size_8abf5 := goodIn_r _ [16, 17, 111, 112, 113] (by decide +kernel) (by decide +kernel)
set_option maxRecDepth 20000 in
theorem gX10_lot_Jx4a65c_size_8abf5 : GoodIn wsX10_lot (wsV RX10 90 RJx4a65c yJx4a65c_size_8abf5 wsJx4a65c_size_8abf5) := goodIn_app (goodIn_of _ (by decide +kernel)) ggX10_lot_Jx4a65c_size_8abf5
set_option maxRecDepth 20000 in
theorem ggX10_lot_X10_requireSpace : GoodIn wsX10_lot wsX10_requireSpace := goodIn_ca (goodIn_r _ [20, 21, 22] (by decide +kernel) (by decide +kernel)) (goodIn_sub (fun _ h => List.mem_cons_of_mem _ (List.mem_append_right _ h)) (by decide +kernel))
set_option maxRecDepth 20000 in
theorem gX10_lot_X10_requireSpace : GoodIn wsX10_lot (va_wsS RX10 94 yX10_requireSpace wsX10_requireSpace) := goodIn_app (goodIn_of _ (by decide +kernel)) ggX10_lot_X10_requireSpace
set_option maxRecDepth 20000 in
theorem ggX10_lot_X5_init : GoodIn wsX10_lot wsX5_init := goodIn_r _ [25, 26, 27, 28, 29, 30, 31, 32, 107, 108, 109, 110] (by decide +kernel) (by decide +kernel)
set_option maxRecDepth 20000 in
theorem gX10_lot_X5_init : GoodIn wsX10_lot (wsX5_init) := ggX10_lot_X5_init
set_option maxRecDepth 20000 in
theorem ggX10_lot_Jx4a65c_add_9ea2d : GoodIn wsX10_lot wsJx4a65c_add_9ea2d := goodIn_r _ [36, 37, 38, 39, 17, 40, 41, 42, 15, 43, 44, 45, 46, 47, 48, 49, 50, 51, 52, 53, 54, 55, 56, 57, 58, 59, 60, 61, 62, 63, 64, 65, 66, 67, 68, 69, 70, 71, 72, 73, 74, 75, 76, 77, 78, 79, 80, 81, 82, 83, 84, 85, 86, 111, 112, 113] (by decide +kernel) (by decide +kernel)
set_option maxRecDepth 20000 in
theorem gX10_lot_Jx4a65c_add_9ea2d : GoodIn wsX10_lot (wsV RX10 102 RJx4a65c yJx4a65c_add_9ea2d wsJx4a65c_add_9ea2d) := goodIn_app (goodIn_of _ (by decide +kernel)) ggX10_lot_Jx4a65c_add_9ea2d
theorem dX10_lot_0 : decode cX10_lot 0 = .ok (.iload_n 1, 1) := by decide +kernel
theorem dX10_lot_1 : decode cX10_lot 1 = .ok (.bipush 112, 2) := by decide +kernel
theorem dX10_lot_3 : decode cX10_lot 3 = .ok (.if_icmp .eq 19, 3) := by decide +kernel
theorem dX10_lot_6 : decode cX10_lot 6 = .ok (.iload_n 1, 1) := by decide +kernel
theorem dX10_lot_7 : decode cX10_lot 7 = .ok (.bipush 110, 2) := by decide +kernel
theorem dX10_lot_9 : decode cX10_lot 9 = .ok (.if_icmp .eq 13, 3) := by decide +kernel
theorem dX10_lot_12 : decode cX10_lot 12 = .ok (.new 79, 3) := by decide +kernel
theorem dX10_lot_15 : decode cX10_lot 15 = .ok (.dup, 1) := by decide +kernel
theorem dX10_lot_16 : decode cX10_lot 16 = .ok (.ldc 81, 2) := by decide +kernel
theorem dX10_lot_18 : decode cX10_lot 18 = .ok (.invokespecial 83, 3) := by decide +kernel
theorem dX10_lot_21 : decode cX10_lot 21 = .ok (.athrow, 1) := by decide +kernel
theorem dX10_lot_22 : decode cX10_lot 22 = .ok (.iload_n 2, 1) := by decide +kernel
theorem dX10_lot_23 : decode cX10_lot 23 = .ok (.bipush 50, 2) := by decide +kernel
theorem dX10_lot_25 : decode cX10_lot 25 = .ok (.sipush 150, 3) := by decide +kernel
theorem dX10_lot_28 : decode cX10_lot 28 = .ok (.invokestatic 86, 3) := by decide +kernel
theorem dX10_lot_31 : decode cX10_lot 31 = .ok (.iload_n 3, 1) := by decide +kernel
theorem dX10_lot_32 : decode cX10_lot 32 = .ok (.iconst 1, 1) := by decide +kernel
theorem dX10_lot_33 : decode cX10_lot 33 = .ok (.sipush 999, 3) := by decide +kernel
theorem dX10_lot_36 : decode cX10_lot 36 = .ok (.invokestatic 86, 3) := by decide +kernel
theorem dX10_lot_39 : decode cX10_lot 39 = .ok (.aload_n 0, 1) := by decide +kernel
theorem dX10_lot_40 : decode cX10_lot 40 = .ok (.getfield 10, 3) := by decide +kernel
theorem dX10_lot_43 : decode cX10_lot 43 = .ok (.invokevirtual 90, 3) := by decide +kernel
theorem dX10_lot_46 : decode cX10_lot 46 = .ok (.iconst 1, 1) := by decide +kernel
theorem dX10_lot_47 : decode cX10_lot 47 = .ok (.bipush 8, 2) := by decide +kernel
theorem dX10_lot_49 : decode cX10_lot 49 = .ok (.invokestatic 94, 3) := by decide +kernel
theorem dX10_lot_52 : decode cX10_lot 52 = .ok (.new 97, 3) := by decide +kernel
theorem dX10_lot_55 : decode cX10_lot 55 = .ok (.dup, 1) := by decide +kernel
theorem dX10_lot_56 : decode cX10_lot 56 = .ok (.aload_n 0, 1) := by decide +kernel
theorem dX10_lot_57 : decode cX10_lot 57 = .ok (.getfield 10, 3) := by decide +kernel
theorem dX10_lot_60 : decode cX10_lot 60 = .ok (.invokevirtual 90, 3) := by decide +kernel
theorem dX10_lot_63 : decode cX10_lot 63 = .ok (.iload_n 1, 1) := by decide +kernel
theorem dX10_lot_64 : decode cX10_lot 64 = .ok (.iload_n 2, 1) := by decide +kernel
theorem dX10_lot_65 : decode cX10_lot 65 = .ok (.iload_n 3, 1) := by decide +kernel
theorem dX10_lot_66 : decode cX10_lot 66 = .ok (.invokespecial 99, 3) := by decide +kernel
theorem dX10_lot_69 : decode cX10_lot 69 = .ok (.astore 4, 2) := by decide +kernel
theorem dX10_lot_71 : decode cX10_lot 71 = .ok (.aload_n 0, 1) := by decide +kernel
theorem dX10_lot_72 : decode cX10_lot 72 = .ok (.getfield 10, 3) := by decide +kernel
theorem dX10_lot_75 : decode cX10_lot 75 = .ok (.aload 4, 2) := by decide +kernel
theorem dX10_lot_77 : decode cX10_lot 77 = .ok (.invokevirtual 102, 3) := by decide +kernel
theorem dX10_lot_80 : decode cX10_lot 80 = .ok (.pop, 1) := by decide +kernel
theorem dX10_lot_81 : decode cX10_lot 81 = .ok (.aload 4, 2) := by decide +kernel
theorem dX10_lot_83 : decode cX10_lot 83 = .ok (.getfield 106, 3) := by decide +kernel
theorem dX10_lot_86 : decode cX10_lot 86 = .ok (.ireturn, 1) := by decide +kernel
set_option maxRecDepth 20000 in
theorem ggX10_pass_X10_requireWithin : GoodIn wsX10_pass wsX10_requireWithin := goodIn_ca (goodIn_r _ [9, 10, 11] (by decide +kernel) (by decide +kernel)) (goodIn_sub (fun _ h => List.mem_cons_of_mem _ (List.mem_append_right _ h)) (by decide +kernel))
set_option maxRecDepth 20000 in
theorem gX10_pass_X10_requireWithin : GoodIn wsX10_pass (va_wsS RX10 86 yX10_requireWithin wsX10_requireWithin) := goodIn_app (goodIn_of _ (by decide +kernel)) ggX10_pass_X10_requireWithin
set_option maxRecDepth 20000 in
theorem ggX10_pass_Jx4a65c_size_8abf5 : GoodIn wsX10_pass wsJx4a65c_size_8abf5 := goodIn_r _ [16, 17, 91, 92, 93] (by decide +kernel) (by decide +kernel)
set_option maxRecDepth 20000 in
theorem gX10_pass_Jx4a65c_size_8abf5 : GoodIn wsX10_pass (wsV RX10 90 RJx4a65c yJx4a65c_size_8abf5 wsJx4a65c_size_8abf5) := goodIn_app (goodIn_of _ (by decide +kernel)) ggX10_pass_Jx4a65c_size_8abf5
theorem dX10_pass_0 : decode cX10_pass 0 = .ok (.iload_n 1, 1) := by decide +kernel
theorem dX10_pass_1 : decode cX10_pass 1 = .ok (.iconst 1, 1) := by decide +kernel
theorem dX10_pass_2 : decode cX10_pass 2 = .ok (.sipush 500, 3) := by decide +kernel
theorem dX10_pass_5 : decode cX10_pass 5 = .ok (.invokestatic 86, 3) := by decide +kernel
theorem dX10_pass_8 : decode cX10_pass 8 = .ok (.aload_n 0, 1) := by decide +kernel
theorem dX10_pass_9 : decode cX10_pass 9 = .ok (.getfield 64, 3) := by decide +kernel
theorem dX10_pass_12 : decode cX10_pass 12 = .ok (.iload_n 1, 1) := by decide +kernel
theorem dX10_pass_13 : decode cX10_pass 13 = .ok (.iadd, 1) := by decide +kernel
theorem dX10_pass_14 : decode cX10_pass 14 = .ok (.sipush 9999, 3) := by decide +kernel
theorem dX10_pass_17 : decode cX10_pass 17 = .ok (.if_icmp .le 14, 3) := by decide +kernel
theorem dX10_pass_31 : decode cX10_pass 31 = .ok (.aload_n 0, 1) := by decide +kernel
theorem dX10_pass_32 : decode cX10_pass 32 = .ok (.getfield 64, 3) := by decide +kernel
theorem dX10_pass_35 : decode cX10_pass 35 = .ok (.istore_n 2, 1) := by decide +kernel
theorem dX10_pass_36 : decode cX10_pass 36 = .ok (.aload_n 0, 1) := by decide +kernel
theorem dX10_pass_37 : decode cX10_pass 37 = .ok (.dup, 1) := by decide +kernel
theorem dX10_pass_38 : decode cX10_pass 38 = .ok (.getfield 64, 3) := by decide +kernel
theorem dX10_pass_41 : decode cX10_pass 41 = .ok (.iload_n 1, 1) := by decide +kernel
theorem dX10_pass_42 : decode cX10_pass 42 = .ok (.iadd, 1) := by decide +kernel
theorem dX10_pass_43 : decode cX10_pass 43 = .ok (.putfield 64, 3) := by decide +kernel
theorem dX10_pass_46 : decode cX10_pass 46 = .ok (.iconst 0, 1) := by decide +kernel
theorem dX10_pass_47 : decode cX10_pass 47 = .ok (.istore_n 3, 1) := by decide +kernel
theorem dX10_pass_48 : decode cX10_pass 48 = .ok (.iload_n 3, 1) := by decide +kernel
theorem dX10_pass_49 : decode cX10_pass 49 = .ok (.aload_n 0, 1) := by decide +kernel
theorem dX10_pass_50 : decode cX10_pass 50 = .ok (.getfield 22, 3) := by decide +kernel
theorem dX10_pass_53 : decode cX10_pass 53 = .ok (.invokevirtual 90, 3) := by decide +kernel
theorem dX10_pass_56 : decode cX10_pass 56 = .ok (.if_icmp .ge 38, 3) := by decide +kernel
theorem dX10_pass_94 : decode cX10_pass 94 = .ok (.aload_n 0, 1) := by decide +kernel
theorem dX10_pass_95 : decode cX10_pass 95 = .ok (.getfield 64, 3) := by decide +kernel
theorem dX10_pass_98 : decode cX10_pass 98 = .ok (.ireturn, 1) := by decide +kernel
set_option maxRecDepth 20000 in
theorem ggX10_protocol_X10_requireStep : GoodIn wsX10_protocol wsX10_requireStep := goodIn_ca (goodIn_r _ [8, 9, 10, 7, 11, 12, 13, 14, 15, 16] (by decide +kernel) (by decide +kernel)) (goodIn_sub (fun _ h => List.mem_cons_of_mem _ (List.mem_append_left _ (List.mem_append_left _ (List.mem_append_right _ h)))) (by decide +kernel))
set_option maxRecDepth 20000 in
theorem gX10_protocol_X10_requireStep : GoodIn wsX10_protocol (va_wsS RX10 311 yX10_requireStep wsX10_requireStep) := goodIn_app (goodIn_of _ (by decide +kernel)) ggX10_protocol_X10_requireStep
set_option maxRecDepth 20000 in
theorem ggX10_protocol_Jx4a65c_size_8abf5 : GoodIn wsX10_protocol wsJx4a65c_size_8abf5 := goodIn_r _ [21, 22, 118, 119, 120] (by decide +kernel) (by decide +kernel)
set_option maxRecDepth 20000 in
theorem gX10_protocol_Jx4a65c_size_8abf5 : GoodIn wsX10_protocol (wsV RX10 90 RJx4a65c yJx4a65c_size_8abf5 wsJx4a65c_size_8abf5) := goodIn_app (goodIn_of _ (by decide +kernel)) ggX10_protocol_Jx4a65c_size_8abf5
set_option maxRecDepth 20000 in
theorem ggX10_protocol_X10_requireSpace : GoodIn wsX10_protocol wsX10_requireSpace := goodIn_ca (goodIn_r _ [25, 26, 27] (by decide +kernel) (by decide +kernel)) (goodIn_sub (fun _ h => List.mem_cons_of_mem _ (List.mem_append_left _ (List.mem_append_right _ h))) (by decide +kernel))
set_option maxRecDepth 20000 in
theorem gX10_protocol_X10_requireSpace : GoodIn wsX10_protocol (va_wsS RX10 94 yX10_requireSpace wsX10_requireSpace) := goodIn_app (goodIn_of _ (by decide +kernel)) ggX10_protocol_X10_requireSpace
set_option maxRecDepth 20000 in
theorem ggX10_protocol_X7_init : GoodIn wsX10_protocol wsX7_init := goodIn_r _ [29, 30, 31, 32, 33, 34, 35, 36, 115, 116, 117] (by decide +kernel) (by decide +kernel)
set_option maxRecDepth 20000 in
theorem gX10_protocol_X7_init_n316 : GoodIn wsX10_protocol (wsX7_init) := ggX10_protocol_X7_init
set_option maxRecDepth 20000 in
theorem ggX10_protocol_X7_addStep : GoodIn wsX10_protocol wsX7_addStep := goodIn_ca (goodIn_r _ [40, 36, 34, 35, 115, 116, 117] (by decide +kernel) (by decide +kernel)) (goodIn_sub (fun _ h => List.mem_cons_of_mem _ (List.mem_append_right _ h)) (by decide +kernel))
set_option maxRecDepth 20000 in
theorem gX10_protocol_X7_addStep : GoodIn wsX10_protocol (wsV RX10 317 RX7 yX7_addStep wsX7_addStep) := goodIn_app (goodIn_of _ (by decide +kernel)) ggX10_protocol_X7_addStep
set_option maxRecDepth 20000 in
theorem ggX10_protocol_Jx4a65c_add_9ea2d : GoodIn wsX10_protocol wsJx4a65c_add_9ea2d := goodIn_r _ [44, 45, 46, 47, 22, 48, 49, 50, 20, 51, 52, 53, 54, 55, 56, 57, 58, 59, 60, 61, 62, 63, 64, 65, 66, 67, 68, 69, 70, 71, 72, 73, 74, 75, 76, 77, 78, 79, 80, 81, 82, 83, 84, 85, 86, 87, 88, 89, 90, 91, 92, 93, 94, 118, 119, 120] (by decide +kernel) (by decide +kernel)
set_option maxRecDepth 20000 in
theorem gX10_protocol_Jx4a65c_add_9ea2d : GoodIn wsX10_protocol (wsV RX10 102 RJx4a65c yJx4a65c_add_9ea2d wsJx4a65c_add_9ea2d) := goodIn_app (goodIn_of _ (by decide +kernel)) ggX10_protocol_Jx4a65c_add_9ea2d
theorem dX10_protocol_0 : decode cX10_protocol 0 = .ok (.iload_n 1, 1) := by decide +kernel
theorem dX10_protocol_1 : decode cX10_protocol 1 = .ok (.iload_n 2, 1) := by decide +kernel
theorem dX10_protocol_2 : decode cX10_protocol 2 = .ok (.invokestatic 311, 3) := by decide +kernel
theorem dX10_protocol_5 : decode cX10_protocol 5 = .ok (.aload_n 0, 1) := by decide +kernel
theorem dX10_protocol_6 : decode cX10_protocol 6 = .ok (.getfield 25, 3) := by decide +kernel
theorem dX10_protocol_9 : decode cX10_protocol 9 = .ok (.invokevirtual 90, 3) := by decide +kernel
theorem dX10_protocol_12 : decode cX10_protocol 12 = .ok (.iconst 1, 1) := by decide +kernel
theorem dX10_protocol_13 : decode cX10_protocol 13 = .ok (.iconst 4, 1) := by decide +kernel
theorem dX10_protocol_14 : decode cX10_protocol 14 = .ok (.invokestatic 94, 3) := by decide +kernel
theorem dX10_protocol_17 : decode cX10_protocol 17 = .ok (.new 314, 3) := by decide +kernel
theorem dX10_protocol_20 : decode cX10_protocol 20 = .ok (.dup, 1) := by decide +kernel
theorem dX10_protocol_21 : decode cX10_protocol 21 = .ok (.invokespecial 316, 3) := by decide +kernel
theorem dX10_protocol_24 : decode cX10_protocol 24 = .ok (.astore_n 3, 1) := by decide +kernel
theorem dX10_protocol_25 : decode cX10_protocol 25 = .ok (.aload_n 3, 1) := by decide +kernel
theorem dX10_protocol_26 : decode cX10_protocol 26 = .ok (.iload_n 1, 1) := by decide +kernel
theorem dX10_protocol_27 : decode cX10_protocol 27 = .ok (.iload_n 2, 1) := by decide +kernel
theorem dX10_protocol_28 : decode cX10_protocol 28 = .ok (.invokevirtual 317, 3) := by decide +kernel
theorem dX10_protocol_31 : decode cX10_protocol 31 = .ok (.aload_n 0, 1) := by decide +kernel
theorem dX10_protocol_32 : decode cX10_protocol 32 = .ok (.getfield 25, 3) := by decide +kernel
theorem dX10_protocol_35 : decode cX10_protocol 35 = .ok (.aload_n 3, 1) := by decide +kernel
theorem dX10_protocol_36 : decode cX10_protocol 36 = .ok (.invokevirtual 102, 3) := by decide +kernel
theorem dX10_protocol_39 : decode cX10_protocol 39 = .ok (.pop, 1) := by decide +kernel
theorem dX10_protocol_40 : decode cX10_protocol 40 = .ok (.aload_n 0, 1) := by decide +kernel
theorem dX10_protocol_41 : decode cX10_protocol 41 = .ok (.getfield 25, 3) := by decide +kernel
theorem dX10_protocol_44 : decode cX10_protocol 44 = .ok (.invokevirtual 90, 3) := by decide +kernel
theorem dX10_protocol_47 : decode cX10_protocol 47 = .ok (.iconst 1, 1) := by decide +kernel
theorem dX10_protocol_48 : decode cX10_protocol 48 = .ok (.isub, 1) := by decide +kernel
theorem dX10_protocol_49 : decode cX10_protocol 49 = .ok (.ireturn, 1) := by decide +kernel
set_option maxRecDepth 20000 in
theorem ggX10_freeAt_X10_requireChannel : GoodIn wsX10_freeAt wsX10_requireChannel := goodIn_ca (goodIn_r _ [4, 5, 6] (by decide +kernel) (by decide +kernel)) (goodIn_sub (fun _ h => List.mem_cons_of_mem _ (List.mem_append_left _ (List.mem_append_right _ h))) (by decide +kernel))
set_option maxRecDepth 20000 in
theorem gX10_freeAt_X10_requireChannel : GoodIn wsX10_freeAt (va_wsS RX10 327 yX10_requireChannel wsX10_requireChannel) := goodIn_app (goodIn_of _ (by decide +kernel)) ggX10_freeAt_X10_requireChannel
set_option maxRecDepth 20000 in
theorem ggX10_freeAt_X10_freeHourOf : GoodIn wsX10_freeAt wsX10_freeHourOf := goodIn_ca (goodIn_r _ [10, 11, 12, 13, 14, 15, 16, 17, 18, 19, 20, 21, 22, 23, 24, 25, 26, 27, 28, 29, 30, 31, 32, 33, 34, 35, 36] (by decide +kernel) (by decide +kernel)) (goodIn_sub (fun _ h => List.mem_cons_of_mem _ (List.mem_append_right _ h)) (by decide +kernel))
set_option maxRecDepth 20000 in
theorem gX10_freeAt_X10_freeHourOf : GoodIn wsX10_freeAt (wsV RX10 335 RX10 yX10_freeHourOf wsX10_freeHourOf) := goodIn_app (goodIn_of _ (by decide +kernel)) ggX10_freeAt_X10_freeHourOf
theorem dX10_freeAt_0 : decode cX10_freeAt 0 = .ok (.iload_n 1, 1) := by decide +kernel
theorem dX10_freeAt_1 : decode cX10_freeAt 1 = .ok (.invokestatic 327, 3) := by decide +kernel
theorem dX10_freeAt_4 : decode cX10_freeAt 4 = .ok (.aload_n 0, 1) := by decide +kernel
theorem dX10_freeAt_5 : decode cX10_freeAt 5 = .ok (.iload_n 1, 1) := by decide +kernel
theorem dX10_freeAt_6 : decode cX10_freeAt 6 = .ok (.invokevirtual 335, 3) := by decide +kernel
theorem dX10_freeAt_9 : decode cX10_freeAt 9 = .ok (.ireturn, 1) := by decide +kernel
set_option maxRecDepth 20000 in
theorem ggX10_module_X10_requireWithin : GoodIn wsX10_module wsX10_requireWithin := goodIn_ca (goodIn_r _ [17, 1, 2] (by decide +kernel) (by decide +kernel)) (goodIn_sub (fun _ h => List.mem_cons_of_mem _ (List.mem_append_left _ (List.mem_append_left _ (List.mem_append_right _ h)))) (by decide +kernel))
set_option maxRecDepth 20000 in
theorem gX10_module_X10_requireWithin : GoodIn wsX10_module (va_wsS RX10 86 yX10_requireWithin wsX10_requireWithin) := goodIn_app (goodIn_of _ (by decide +kernel)) ggX10_module_X10_requireWithin
set_option maxRecDepth 20000 in
theorem ggX10_module_X10_listCandidates : GoodIn wsX10_module wsX10_listCandidates := goodIn_r _ [21, 5, 12, 10, 11, 22, 23, 24, 25, 26, 27, 28, 29, 30, 31, 32, 33, 34, 35, 36, 37, 38, 39, 40, 41, 42, 43, 44, 45, 46, 47, 48, 49, 50, 51, 52, 53, 54, 16, 55, 56, 57, 58, 59, 60, 61, 62, 63, 64, 65, 66, 67, 68, 69, 70, 71, 72, 73, 74, 75, 76, 77, 78, 79, 80, 81, 82, 83, 84, 85, 86, 87, 88, 89, 90, 91, 92, 93, 94, 95, 96, 97, 98, 99, 100, 101, 102, 103, 104, 105, 106, 107, 108, 109, 110, 111, 112, 113, 114, 115, 116, 117, 118, 119, 120, 121, 122, 123, 124, 125, 166, 167, 168, 169, 170, 171, 172, 173, 174, 175, 176, 177, 178, 179, 180, 181, 182, 183, 184, 185, 188, 189, 190, 191, 192, 193, 194, 195, 196, 197, 198, 199, 200, 201, 202, 203, 204, 205, 206, 207, 208] (by decide +kernel) (by decide +kernel)
set_option maxRecDepth 20000 in
theorem gX10_module_X10_listCandidates : GoodIn wsX10_module (wsV RX10 359 RX10 yX10_listCandidates wsX10_listCandidates) := goodIn_app (goodIn_of _ (by decide +kernel)) ggX10_module_X10_listCandidates
set_option maxRecDepth 20000 in
theorem ggX10_module_Jx4a65c_size_8abf5 : GoodIn wsX10_module wsJx4a65c_size_8abf5 := goodIn_r _ [35, 31, 206, 207, 208] (by decide +kernel) (by decide +kernel)
set_option maxRecDepth 20000 in
theorem gX10_module_Jx4a65c_size_8abf5 : GoodIn wsX10_module (wsV RX10 90 RJx4a65c yJx4a65c_size_8abf5 wsJx4a65c_size_8abf5) := goodIn_app (goodIn_of _ (by decide +kernel)) ggX10_module_Jx4a65c_size_8abf5
theorem dX10_module_0 : decode cX10_module 0 = .ok (.iload_n 1, 1) := by decide +kernel
theorem dX10_module_1 : decode cX10_module 1 = .ok (.iconst 2, 1) := by decide +kernel
theorem dX10_module_2 : decode cX10_module 2 = .ok (.bipush 6, 2) := by decide +kernel
theorem dX10_module_4 : decode cX10_module 4 = .ok (.invokestatic 86, 3) := by decide +kernel
theorem dX10_module_7 : decode cX10_module 7 = .ok (.iload_n 2, 1) := by decide +kernel
theorem dX10_module_8 : decode cX10_module 8 = .ok (.bipush 97, 2) := by decide +kernel
theorem dX10_module_10 : decode cX10_module 10 = .ok (.if_icmp .eq 20, 3) := by decide +kernel
theorem dX10_module_13 : decode cX10_module 13 = .ok (.iload_n 2, 1) := by decide +kernel
theorem dX10_module_14 : decode cX10_module 14 = .ok (.bipush 98, 2) := by decide +kernel
theorem dX10_module_16 : decode cX10_module 16 = .ok (.if_icmp .eq 14, 3) := by decide +kernel
theorem dX10_module_19 : decode cX10_module 19 = .ok (.new 79, 3) := by decide +kernel
theorem dX10_module_22 : decode cX10_module 22 = .ok (.dup, 1) := by decide +kernel
theorem dX10_module_23 : decode cX10_module 23 = .ok (.ldc_w 357, 3) := by decide +kernel
theorem dX10_module_26 : decode cX10_module 26 = .ok (.invokespecial 83, 3) := by decide +kernel
theorem dX10_module_29 : decode cX10_module 29 = .ok (.athrow, 1) := by decide +kernel
theorem dX10_module_30 : decode cX10_module 30 = .ok (.aload_n 0, 1) := by decide +kernel
theorem dX10_module_31 : decode cX10_module 31 = .ok (.iload_n 2, 1) := by decide +kernel
theorem dX10_module_32 : decode cX10_module 32 = .ok (.invokevirtual 359, 3) := by decide +kernel
theorem dX10_module_35 : decode cX10_module 35 = .ok (.aload_n 0, 1) := by decide +kernel
theorem dX10_module_36 : decode cX10_module 36 = .ok (.getfield 37, 3) := by decide +kernel
theorem dX10_module_39 : decode cX10_module 39 = .ok (.invokevirtual 90, 3) := by decide +kernel
theorem dX10_module_42 : decode cX10_module 42 = .ok (.iload_n 1, 1) := by decide +kernel
theorem dX10_module_43 : decode cX10_module 43 = .ok (.if_icmp .ge 14, 3) := by decide +kernel
theorem dX10_module_46 : decode cX10_module 46 = .ok (.new 278, 3) := by decide +kernel
theorem dX10_module_49 : decode cX10_module 49 = .ok (.dup, 1) := by decide +kernel
theorem dX10_module_50 : decode cX10_module 50 = .ok (.ldc_w 363, 3) := by decide +kernel
theorem dX10_module_53 : decode cX10_module 53 = .ok (.invokespecial 282, 3) := by decide +kernel
theorem dX10_module_56 : decode cX10_module 56 = .ok (.athrow, 1) := by decide +kernel
set_option maxRecDepth 20000 in
theorem ggX10_doubtAll_X10_lotNumbered : GoodIn wsX10_doubtAll wsX10_lotNumbered := goodIn_ca (goodIn_r _ [10, 11, 12, 13, 14, 15, 16, 17, 18, 19, 20, 21, 22, 23, 24, 25, 26, 27, 28, 29, 30, 31, 32, 33, 34, 35, 36, 37, 143, 144, 145, 146, 147, 148, 149, 150, 151, 152, 153, 154, 155, 156, 157, 158, 159, 160, 161, 162, 163, 164, 165] (by decide +kernel) (by decide +kernel)) (goodIn_sub (fun _ h => List.mem_cons_of_mem _ (List.mem_append_left _ (List.mem_append_right _ h))) (by decide +kernel))
set_option maxRecDepth 20000 in
theorem gX10_doubtAll_X10_lotNumbered : GoodIn wsX10_doubtAll (wsV RX10 109 RX10 yX10_lotNumbered wsX10_lotNumbered) := goodIn_app (goodIn_of _ (by decide +kernel)) ggX10_doubtAll_X10_lotNumbered
set_option maxRecDepth 20000 in
theorem ggX10_doubtAll_X4_init : GoodIn wsX10_doubtAll wsX4_init := goodIn_r _ [40, 41, 42, 43, 44, 45, 46, 47, 48, 138, 139, 140, 141, 142] (by decide +kernel) (by decide +kernel)
set_option maxRecDepth 20000 in
theorem gX10_doubtAll_X4_init : GoodIn wsX10_doubtAll (wsX4_init) := ggX10_doubtAll_X4_init
set_option maxRecDepth 20000 in
theorem ggX10_doubtAll_X10_addDoubt : GoodIn wsX10_doubtAll wsX10_addDoubt := goodIn_ca (goodIn_r _ [52, 53, 54, 55, 56, 15, 16, 17, 18, 19, 20, 57, 58, 9, 59, 60, 61, 21, 22, 23, 24, 25, 26, 27, 28, 29, 30, 31, 32, 33, 34, 35, 36, 37, 62, 63, 64, 5, 65, 66, 67, 68, 69, 70, 71, 72, 45, 73, 74, 75, 46, 76, 77, 47, 48, 78, 79, 80, 81, 82, 83, 84, 85, 86, 87, 88, 89, 90, 91, 92, 93, 94, 95, 96, 97, 98, 99, 100, 101, 102, 103, 104, 105, 106, 107, 108, 109, 110, 111, 112, 113, 114, 115, 116, 117, 118, 119, 120, 121, 122, 123, 124, 125, 126, 127, 128, 129, 130, 131, 132, 133, 134, 135, 136, 137, 143, 144, 145, 146, 147, 148, 149, 150, 151, 152, 153, 154, 155, 156, 157, 158, 159, 160, 161, 162, 166, 167, 168, 169, 170, 171, 172, 173, 174, 175, 176, 177, 178, 179, 180, 181, 182, 183, 163, 164, 165, 184, 185, 186, 138, 139, 140, 141, 142, 187, 188, 189, 190, 191, 192, 193, 194, 195, 196, 197, 198, 199, 200] (by decide +kernel) (by decide +kernel)) (goodIn_sub (fun _ h => List.mem_cons_of_mem _ (List.mem_append_right _ h)) (by decide +kernel))
set_option maxRecDepth 20000 in
theorem gX10_doubtAll_X10_addDoubt : GoodIn wsX10_doubtAll (wsV RX10 454 RX10 yX10_addDoubt wsX10_addDoubt) := goodIn_app (goodIn_of _ (by decide +kernel)) ggX10_doubtAll_X10_addDoubt
theorem dX10_doubtAll_0 : decode cX10_doubtAll 0 = .ok (.iload_n 1, 1) := by decide +kernel
theorem dX10_doubtAll_1 : decode cX10_doubtAll 1 = .ok (.ifCond .eq 12, 3) := by decide +kernel
theorem dX10_doubtAll_4 : decode cX10_doubtAll 4 = .ok (.aload_n 0, 1) := by decide +kernel
theorem dX10_doubtAll_5 : decode cX10_doubtAll 5 = .ok (.iload_n 2, 1) := by decide +kernel
theorem dX10_doubtAll_6 : decode cX10_doubtAll 6 = .ok (.invokevirtual 109, 3) := by decide +kernel
theorem dX10_doubtAll_13 : decode cX10_doubtAll 13 = .ok (.iload_n 2, 1) := by decide +kernel
theorem dX10_doubtAll_14 : decode cX10_doubtAll 14 = .ok (.ifCond .ge 14, 3) := by decide +kernel
theorem dX10_doubtAll_17 : decode cX10_doubtAll 17 = .ok (.new 79, 3) := by decide +kernel
theorem dX10_doubtAll_20 : decode cX10_doubtAll 20 = .ok (.dup, 1) := by decide +kernel
theorem dX10_doubtAll_21 : decode cX10_doubtAll 21 = .ok (.ldc_w 458, 3) := by decide +kernel
theorem dX10_doubtAll_24 : decode cX10_doubtAll 24 = .ok (.invokespecial 83, 3) := by decide +kernel
theorem dX10_doubtAll_27 : decode cX10_doubtAll 27 = .ok (.athrow, 1) := by decide +kernel
theorem dX10_doubtAll_28 : decode cX10_doubtAll 28 = .ok (.aload_n 0, 1) := by decide +kernel
theorem dX10_doubtAll_29 : decode cX10_doubtAll 29 = .ok (.new 449, 3) := by decide +kernel
theorem dX10_doubtAll_32 : decode cX10_doubtAll 32 = .ok (.dup, 1) := by decide +kernel
theorem dX10_doubtAll_33 : decode cX10_doubtAll 33 = .ok (.iload_n 1, 1) := by decide +kernel
theorem dX10_doubtAll_34 : decode cX10_doubtAll 34 = .ok (.ifCond .eq 8, 3) := by decide +kernel
theorem dX10_doubtAll_42 : decode cX10_doubtAll 42 = .ok (.bipush 98, 2) := by decide +kernel
theorem dX10_doubtAll_44 : decode cX10_doubtAll 44 = .ok (.iload_n 2, 1) := by decide +kernel
theorem dX10_doubtAll_45 : decode cX10_doubtAll 45 = .ok (.iconst 0, 1) := by decide +kernel
theorem dX10_doubtAll_46 : decode cX10_doubtAll 46 = .ok (.iconst 0, 1) := by decide +kernel
theorem dX10_doubtAll_47 : decode cX10_doubtAll 47 = .ok (.invokespecial 451, 3) := by decide +kernel
theorem dX10_doubtAll_50 : decode cX10_doubtAll 50 = .ok (.invokevirtual 454, 3) := by decide +kernel
theorem dX10_doubtAll_53 : decode cX10_doubtAll 53 = .ok (.ireturn, 1) := by decide +kernel
theorem dX10_freeHourOf_0 : decode cX10_freeHourOf 0 = .ok (.aload_n 0, 1) := by decide +kernel
theorem dX10_freeHourOf_1 : decode cX10_freeHourOf 1 = .ok (.getfield 64, 3) := by decide +kernel
theorem dX10_freeHourOf_4 : decode cX10_freeHourOf 4 = .ok (.aload_n 0, 1) := by decide +kernel
theorem dX10_freeHourOf_5 : decode cX10_freeHourOf 5 = .ok (.getfield 40, 3) := by decide +kernel
theorem dX10_freeHourOf_8 : decode cX10_freeHourOf 8 = .ok (.iload_n 1, 1) := by decide +kernel
theorem dX10_freeHourOf_9 : decode cX10_freeHourOf 9 = .ok (.iaload, 1) := by decide +kernel
theorem dX10_freeHourOf_10 : decode cX10_freeHourOf 10 = .ok (.invokestatic 531, 3) := by decide +kernel
theorem dX10_freeHourOf_13 : decode cX10_freeHourOf 13 = .ok (.ireturn, 1) := by decide +kernel
set_option maxRecDepth 20000 in
theorem ggX10_listCandidates_Jx4a65c_clear_da8c8 : GoodIn wsX10_listCandidates wsJx4a65c_clear_da8c8 := goodIn_r _ [10, 11, 12, 13, 14, 148, 149, 150] (by decide +kernel) (by decide +kernel)
set_option maxRecDepth 20000 in
theorem gX10_listCandidates_Jx4a65c_clear_da8c8 : GoodIn wsX10_listCandidates (wsV RX10 537 RJx4a65c yJx4a65c_clear_da8c8 wsJx4a65c_clear_da8c8) := goodIn_app (goodIn_of _ (by decide +kernel)) ggX10_listCandidates_Jx4a65c_clear_da8c8
set_option maxRecDepth 20000 in
theorem ggX10_listCandidates_Jx4a65c_size_8abf5 : GoodIn wsX10_listCandidates wsJx4a65c_size_8abf5 := goodIn_r _ [18, 14, 148, 149, 150] (by decide +kernel) (by decide +kernel)
set_option maxRecDepth 20000 in
theorem gX10_listCandidates_Jx4a65c_size_8abf5 : GoodIn wsX10_listCandidates (wsV RX10 90 RJx4a65c yJx4a65c_size_8abf5 wsJx4a65c_size_8abf5) := goodIn_app (goodIn_of _ (by decide +kernel)) ggX10_listCandidates_Jx4a65c_size_8abf5
theorem dX10_listCandidates_0 : decode cX10_listCandidates 0 = .ok (.aload_n 0, 1) := by decide +kernel
theorem dX10_listCandidates_1 : decode cX10_listCandidates 1 = .ok (.getfield 37, 3) := by decide +kernel
theorem dX10_listCandidates_4 : decode cX10_listCandidates 4 = .ok (.invokevirtual 537, 3) := by decide +kernel
theorem dX10_listCandidates_7 : decode cX10_listCandidates 7 = .ok (.iconst 0, 1) := by decide +kernel
theorem dX10_listCandidates_8 : decode cX10_listCandidates 8 = .ok (.istore_n 2, 1) := by decide +kernel
theorem dX10_listCandidates_9 : decode cX10_listCandidates 9 = .ok (.iload_n 2, 1) := by decide +kernel
theorem dX10_listCandidates_10 : decode cX10_listCandidates 10 = .ok (.aload_n 0, 1) := by decide +kernel
theorem dX10_listCandidates_11 : decode cX10_listCandidates 11 = .ok (.getfield 22, 3) := by decide +kernel
theorem dX10_listCandidates_14 : decode cX10_listCandidates 14 = .ok (.invokevirtual 90, 3) := by decide +kernel
theorem dX10_listCandidates_17 : decode cX10_listCandidates 17 = .ok (.if_icmp .ge 53, 3) := by decide +kernel
theorem dX10_listCandidates_70 : decode cX10_listCandidates 70 = .ok (.return_, 1) := by decide +kernel
set_option maxRecDepth 20000 in
theorem ggX10_addDoubt_Jx4a65c_size_8abf5 : GoodIn wsX10_addDoubt wsJx4a65c_size_8abf5 := goodIn_r _ [9, 10, 153, 154, 155] (by decide +kernel) (by decide +kernel)
set_option maxRecDepth 20000 in
theorem gX10_addDoubt_Jx4a65c_size_8abf5 : GoodIn wsX10_addDoubt (wsV RX10 90 RJx4a65c yJx4a65c_size_8abf5 wsJx4a65c_size_8abf5) := goodIn_app (goodIn_of _ (by decide +kernel)) ggX10_addDoubt_Jx4a65c_size_8abf5
set_option maxRecDepth 20000 in
theorem ggX10_addDoubt_X10_requireSpace : GoodIn wsX10_addDoubt wsX10_requireSpace := goodIn_ca (goodIn_r _ [14, 15, 16] (by decide +kernel) (by decide +kernel)) (goodIn_sub (fun _ h => List.mem_cons_of_mem _ (List.mem_append_right _ h)) (by decide +kernel))
set_option maxRecDepth 20000 in
theorem gX10_addDoubt_X10_requireSpace : GoodIn wsX10_addDoubt (va_wsS RX10 94 yX10_requireSpace wsX10_requireSpace) := goodIn_app (goodIn_of _ (by decide +kernel)) ggX10_addDoubt_X10_requireSpace
set_option maxRecDepth 20000 in
theorem ggX10_addDoubt_Jx4a65c_add_9ea2d : GoodIn wsX10_addDoubt wsJx4a65c_add_9ea2d := goodIn_r _ [65, 66, 67, 33, 10, 68, 69, 70, 8, 71, 72, 73, 74, 75, 76, 77, 78, 79, 80, 81, 82, 83, 84, 85, 86, 87, 88, 89, 90, 91, 92, 93, 94, 95, 96, 97, 98, 99, 100, 101, 102, 103, 104, 105, 106, 107, 108, 109, 110, 111, 112, 113, 114, 153, 154, 155] (by decide +kernel) (by decide +kernel)
set_option maxRecDepth 20000 in
theorem gX10_addDoubt_Jx4a65c_add_9ea2d : GoodIn wsX10_addDoubt (wsV RX10 102 RJx4a65c yJx4a65c_add_9ea2d wsJx4a65c_add_9ea2d) := goodIn_app (goodIn_of _ (by decide +kernel)) ggX10_addDoubt_Jx4a65c_add_9ea2d
theorem dX10_addDoubt_0 : decode cX10_addDoubt 0 = .ok (.aload_n 0, 1) := by decide +kernel
theorem dX10_addDoubt_1 : decode cX10_addDoubt 1 = .ok (.getfield 34, 3) := by decide +kernel
theorem dX10_addDoubt_4 : decode cX10_addDoubt 4 = .ok (.invokevirtual 90, 3) := by decide +kernel
theorem dX10_addDoubt_7 : decode cX10_addDoubt 7 = .ok (.iconst 1, 1) := by decide +kernel
theorem dX10_addDoubt_8 : decode cX10_addDoubt 8 = .ok (.bipush 8, 2) := by decide +kernel
theorem dX10_addDoubt_10 : decode cX10_addDoubt 10 = .ok (.invokestatic 94, 3) := by decide +kernel
theorem dX10_addDoubt_13 : decode cX10_addDoubt 13 = .ok (.iconst 0, 1) := by decide +kernel
theorem dX10_addDoubt_14 : decode cX10_addDoubt 14 = .ok (.istore_n 2, 1) := by decide +kernel
theorem dX10_addDoubt_15 : decode cX10_addDoubt 15 = .ok (.iload_n 2, 1) := by decide +kernel
theorem dX10_addDoubt_16 : decode cX10_addDoubt 16 = .ok (.aload_n 0, 1) := by decide +kernel
theorem dX10_addDoubt_17 : decode cX10_addDoubt 17 = .ok (.getfield 22, 3) := by decide +kernel
theorem dX10_addDoubt_20 : decode cX10_addDoubt 20 = .ok (.invokevirtual 90, 3) := by decide +kernel
theorem dX10_addDoubt_23 : decode cX10_addDoubt 23 = .ok (.if_icmp .ge 34, 3) := by decide +kernel
theorem dX10_addDoubt_57 : decode cX10_addDoubt 57 = .ok (.aload_n 0, 1) := by decide +kernel
theorem dX10_addDoubt_58 : decode cX10_addDoubt 58 = .ok (.getfield 34, 3) := by decide +kernel
theorem dX10_addDoubt_61 : decode cX10_addDoubt 61 = .ok (.aload_n 1, 1) := by decide +kernel
theorem dX10_addDoubt_62 : decode cX10_addDoubt 62 = .ok (.invokevirtual 102, 3) := by decide +kernel
theorem dX10_addDoubt_65 : decode cX10_addDoubt 65 = .ok (.pop, 1) := by decide +kernel
theorem dX10_addDoubt_66 : decode cX10_addDoubt 66 = .ok (.aload_n 0, 1) := by decide +kernel
theorem dX10_addDoubt_67 : decode cX10_addDoubt 67 = .ok (.getfield 34, 3) := by decide +kernel
theorem dX10_addDoubt_70 : decode cX10_addDoubt 70 = .ok (.invokevirtual 90, 3) := by decide +kernel
theorem dX10_addDoubt_73 : decode cX10_addDoubt 73 = .ok (.iconst 1, 1) := by decide +kernel
theorem dX10_addDoubt_74 : decode cX10_addDoubt 74 = .ok (.isub, 1) := by decide +kernel
theorem dX10_addDoubt_75 : decode cX10_addDoubt 75 = .ok (.ireturn, 1) := by decide +kernel
