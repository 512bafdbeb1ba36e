abbrev cX14_lot : ByteArray := prog_13_method_6_code
def yX14_lot : MethodName := ⟨RX14, "lot", "(CII)I"⟩
abbrev cX14_protocol : ByteArray := prog_13_method_39_code
def yX14_protocol : MethodName := ⟨RX14, "protocol", "(II)I"⟩
abbrev cX14_freeAt : ByteArray := prog_13_method_42_code
def yX14_freeAt : MethodName := ⟨RX14, "freeAt", "(I)I"⟩
abbrev cX14_choose : ByteArray := prog_13_method_47_code
def yX14_choose : MethodName := ⟨RX14, "choose", "(Ljava/util/List;II[I[I)[I"⟩
abbrev cX14_isBetter : ByteArray := prog_13_method_49_code
def yX14_isBetter : MethodName := ⟨RX14, "isBetter", "([I[I)Z"⟩
abbrev cX14_module : ByteArray := prog_13_method_50_code
def yX14_module : MethodName := ⟨RX14, "module", "(IC)I"⟩
abbrev cX14_doubtAll : ByteArray := prog_13_method_76_code
def yX14_doubtAll : MethodName := ⟨RX14, "doubtAll", "(ZI)I"⟩
abbrev cX14_readyShare : ByteArray := prog_13_method_83_code
def yX14_readyShare : MethodName := ⟨RX14, "readyShare", "()F"⟩
abbrev cX14_meanHold : ByteArray := prog_13_method_84_code
def yX14_meanHold : MethodName := ⟨RX14, "meanHold", "()D"⟩
abbrev cX14_checksum : ByteArray := prog_13_method_85_code
def yX14_checksum : MethodName := ⟨RX14, "checksum", "()J"⟩
def wsX14_lot_r1 : List Cond := [Cond.fieldLink RX14 10 "CoatLineModel" "lots" "Ljava/util/List;", Cond.arrayClass .int, Cond.methodLink RX14 69 yX14_isBetween, Cond.static yX14_isBetween, Cond.initialized RX14, Cond.code yX14_isBetween cX14_isBetween 3 (some .boolean), Cond.methodLink RX14 63 ⟨"java/util/List", "size", "()I"⟩, Cond.selects RJx4a65c ⟨"java/util/List", "size", "()I"⟩ yJx4a65c_size_8abf5, Cond.instanceMethod yJx4a65c_size_8abf5, Cond.initialized RJx4a65c, Cond.code yJx4a65c_size_8abf5 cJx4a65c_size_8abf5 1 (some .int), Cond.fieldLink RJx4a65c 48 "java/util/ArrayList" "size" "I", Cond.methodLink RX14 73 yX14_isWrong, Cond.instanceMethod yX14_isWrong, Cond.selects RX14 yX14_isWrong yX14_isWrong, Cond.code yX14_isWrong cX14_isWrong 2 (some .boolean), Cond.fieldLink RX14 60 "CoatLineModel" "thrown" "I", Cond.methodLink RX14 77 ⟨"java/util/List", "add", "(Ljava/lang/Object;)Z"⟩, Cond.selects RJx4a65c ⟨"java/util/List", "add", "(Ljava/lang/Object;)Z"⟩ yJx4a65c_add_9ea2d, Cond.instanceMethod yJx4a65c_add_9ea2d, Cond.code yJx4a65c_add_9ea2d cJx4a65c_add_9ea2d 2 (some .boolean), Cond.fieldLink RJx4a65c 63 "java/util/ArrayList" "modCount" "I", Cond.sameField "java/util/ArrayList" "java/util/AbstractList" "modCount" "I", Cond.fieldLink RJx4a65c 9 "java/util/ArrayList" "elementData" "[Ljava/lang/Object;"]
def wsX14_lot_r2 : List Cond := [Cond.methodLink RJx4a65c 131 yJx4a65c_add_72be8, Cond.instanceMethod yJx4a65c_add_72be8, Cond.selects RJx4a65c yJx4a65c_add_72be8 yJx4a65c_add_72be8, Cond.code yJx4a65c_add_72be8 cJx4a65c_add_72be8 4 none, Cond.methodLink RJx4a65c 129 yJx4a65c_grow_d5877, Cond.instanceMethod yJx4a65c_grow_d5877, Cond.selects RJx4a65c yJx4a65c_grow_d5877 yJx4a65c_grow_d5877, Cond.code yJx4a65c_grow_d5877 cJx4a65c_grow_d5877 1 (some (.array (.object "java/lang/Object"))), Cond.methodLink RJx4a65c 69 yJx4a65c_grow_92f84, Cond.instanceMethod yJx4a65c_grow_92f84, Cond.selects RJx4a65c yJx4a65c_grow_92f84 yJx4a65c_grow_92f84, Cond.code yJx4a65c_grow_92f84 cJx4a65c_grow_92f84 4 (some (.array (.object "java/lang/Object"))), Cond.fieldLink RJx4a65c 39 "java/util/ArrayList" "DEFAULTCAPACITY_EMPTY_ELEMENTDATA" "[Ljava/lang/Object;", Cond.methodLink RJx4a65c 79 Lib.Math.max.name, Cond.static Lib.Math.max.name, Cond.initialized "java/lang/Math", Cond.code Lib.Math.max.name Lib.Math.max.code 2 (some .int), Cond.classLink RJx4a65c 7 "java/lang/Object", Cond.methodLink RJx4a65c 73 yJ8_newLength_cabcc, Cond.static yJ8_newLength_cabcc, Cond.initialized RJ8, Cond.code yJ8_newLength_cabcc cJ8_newLength_cabcc 4 (some .int), Cond.methodLink RJ8 194 Lib.Math.max.name, Cond.constant RJ8 200 (2147483639)]
def wsX14_lot_r3 : List Cond := [Cond.methodLink RJ8 201 yJ8_hugeLength_7cf53, Cond.static yJ8_hugeLength_7cf53, Cond.code yJ8_hugeLength_7cf53 cJ8_hugeLength_7cf53 3 (some .int), Cond.methodLink RJx4a65c 66 yJ7_copyOf_1904c, Cond.static yJ7_copyOf_1904c, Cond.initialized RJ7, Cond.code yJ7_copyOf_1904c cJ7_copyOf_1904c 2 (some (.array (.object "java/lang/Object"))), Cond.methodLink RJ7 86 ⟨"java/lang/Object", "getClass", "()Ljava/lang/Class;"⟩, Cond.selects "[Ljava/lang/Object;" ⟨"java/lang/Object", "getClass", "()Ljava/lang/Class;"⟩ ⟨"java/lang/Object", "getClass", "()Ljava/lang/Class;"⟩, Cond.instanceMethod ⟨"java/lang/Object", "getClass", "()Ljava/lang/Class;"⟩, Cond.native ⟨"java/lang/Object", "getClass", "()Ljava/lang/Class;"⟩, Cond.methodLink RJ7 300 yJ7_copyOf_6403c, Cond.static yJ7_copyOf_6403c, Cond.code yJ7_copyOf_6403c cJ7_copyOf_6403c 4 (some (.array (.object "java/lang/Object"))), Cond.classLink RJ7 110 "[Ljava/lang/Object;", Cond.classLink RJ7 2 "java/lang/Object", Cond.methodLink RJ7 304 Lib.Math.min.name, Cond.static Lib.Math.min.name, Cond.code Lib.Math.min.name Lib.Math.min.code 2 (some .int), Cond.methodLink RJ7 150 arraycopyName, Cond.native arraycopyName, Cond.static arraycopyName, Cond.initialized "java/lang/System"]
def wsX14_lot : List Cond := .code yX14_lot cX14_lot 4 (some .int) :: ((wsX14_lot_r1 ++ (wsX14_lot_r2 ++ wsX14_lot_r3)) ++ wsX140 ++ wsJx4a65c0 ++ (vx_atM "java/lang/ArrayIndexOutOfBoundsException" ["java/lang/IndexOutOfBoundsException", "java/lang/RuntimeException", "java/lang/Exception"]).filter goodWord)
def wsX14_coversAgain_r1 : List Cond := [Cond.fieldLink RX14 29 "CoatLineModel" "cells" "Ljava/util/List;", Cond.classLink RX14 150 "CoatLineModel$Cell", Cond.methodLink RX14 231 ⟨"java/util/List", "iterator", "()Ljava/util/Iterator;"⟩, Cond.selects RJx4a65c ⟨"java/util/List", "iterator", "()Ljava/util/Iterator;"⟩ yJx4a65c_iterator_32c93, Cond.instanceMethod yJx4a65c_iterator_32c93, Cond.initialized RJx4a65c, Cond.code yJx4a65c_iterator_32c93 cJx4a65c_iterator_32c93 1 (some (.object "java/util/Iterator")), Cond.classLink RJx4a65c 267 RJx35411, Cond.instantiable RJx35411 4, Cond.initialized RJx35411, Cond.methodLink RJx4a65c 269 yJx35411_init_45d68, Cond.instanceMethod yJx35411_init_45d68, Cond.code yJx35411_init_45d68 cJx35411_init_45d68 2 none, Cond.fieldLink RJx35411 1 "java/util/ArrayList$Itr" "this$0" "Ljava/util/ArrayList;", Cond.methodLink RJx35411 7 objectInit, Cond.instanceMethod objectInit, Cond.code objectInit ⟨#[0xb1]⟩ 1 none, Cond.fieldLink RJx35411 13 "java/util/ArrayList$Itr" "lastRet" "I", Cond.fieldLink RJx35411 17 "java/util/ArrayList" "modCount" "I", Cond.sameField "java/util/ArrayList" "java/util/AbstractList" "modCount" "I", Cond.fieldLink RJx35411 22 "java/util/ArrayList$Itr" "expectedModCount" "I", Cond.methodLink RX14 235 ⟨"java/util/Iterator", "hasNext", "()Z"⟩, Cond.selects RJx35411 ⟨"java/util/Iterator", "hasNext", "()Z"⟩ yJx35411_hasNext_aae02, Cond.instanceMethod yJx35411_hasNext_aae02]
def wsX14_coversAgain_r2 : List Cond := [Cond.code yJx35411_hasNext_aae02 cJx35411_hasNext_aae02 1 (some .boolean), Cond.fieldLink RJx35411 25 "java/util/ArrayList$Itr" "cursor" "I", Cond.methodLink RX14 241 ⟨"java/util/Iterator", "next", "()Ljava/lang/Object;"⟩, Cond.selects RJx35411 ⟨"java/util/Iterator", "next", "()Ljava/lang/Object;"⟩ yJx35411_next_0502b, Cond.instanceMethod yJx35411_next_0502b, Cond.code yJx35411_next_0502b cJx35411_next_0502b 3 (some (.object "java/lang/Object")), Cond.fieldLink RJx35411 37 "java/util/ArrayList" "elementData" "[Ljava/lang/Object;", Cond.methodLink RJx35411 31 yJx35411_checkForComodification_da8c8, Cond.instanceMethod yJx35411_checkForComodification_da8c8, Cond.selects RJx35411 yJx35411_checkForComodification_da8c8 yJx35411_checkForComodification_da8c8, Cond.code yJx35411_checkForComodification_da8c8 cJx35411_checkForComodification_da8c8 1 none, Cond.methodLink RX14 220 yX14_covered, Cond.instanceMethod yX14_covered, Cond.selects RX14 yX14_covered yX14_covered, Cond.initialized RX14, Cond.code yX14_covered cX14_covered 5 (some .boolean), Cond.fieldLink RX14 57 "CoatLineModel" "doubts" "Ljava/util/List;", Cond.classLink RX14 89 "[I", Cond.methodLink RX14 348 yX14_covers, Cond.instanceMethod yX14_covers, Cond.selects RX14 yX14_covers yX14_covers, Cond.code yX14_covers cX14_covers 8 (some .boolean), Cond.fieldLink RX14 19 "CoatLineModel" "ribbons" "Ljava/util/List;", Cond.fieldLink RX14 16 "CoatLineModel" "coils" "Ljava/util/List;"]
def wsX14_coversAgain_r3 : List Cond := [Cond.classLink RX14 96 "CoatLineModel$Coil", Cond.methodLink RX14 85 ⟨"java/util/List", "get", "(I)Ljava/lang/Object;"⟩, Cond.selects RJx4a65c ⟨"java/util/List", "get", "(I)Ljava/lang/Object;"⟩ yJx4a65c_get_915e3, Cond.instanceMethod yJx4a65c_get_915e3, Cond.code yJx4a65c_get_915e3 cJx4a65c_get_915e3 2 (some (.object "java/lang/Object")), Cond.fieldLink RJx4a65c 48 "java/util/ArrayList" "size" "I", Cond.methodLink RJx4a65c 118 yJ15_checkIndex_7cf53, Cond.static yJ15_checkIndex_7cf53, Cond.initialized RJ15, Cond.code yJ15_checkIndex_7cf53 cJ15_checkIndex_7cf53 2 (some .int), Cond.methodLink RJ15 105 yJ3_checkIndex_8e157, Cond.static yJ3_checkIndex_8e157, Cond.initialized RJ3, Cond.code yJ3_checkIndex_8e157 cJ3_checkIndex_8e157 3 (some .int), Cond.methodLink RJx4a65c 123 yJx4a65c_elementData_915e3, Cond.instanceMethod yJx4a65c_elementData_915e3, Cond.selects RJx4a65c yJx4a65c_elementData_915e3 yJx4a65c_elementData_915e3, Cond.code yJx4a65c_elementData_915e3 cJx4a65c_elementData_915e3 2 (some (.object "java/lang/Object")), Cond.fieldLink RJx4a65c 9 "java/util/ArrayList" "elementData" "[Ljava/lang/Object;"]
def wsX14_coversAgain : List Cond := .code yX14_coversAgain cX14_coversAgain 3 none :: ((wsX14_coversAgain_r1 ++ (wsX14_coversAgain_r2 ++ wsX14_coversAgain_r3)) ++ wsX140 ++ wsX110 ++ wsJx354110 ++ wsJx4a65c0 ++ wsX120 ++ (vx_atM "java/lang/ArrayIndexOutOfBoundsException" ["java/lang/IndexOutOfBoundsException", "java/lang/RuntimeException", "java/lang/Exception"]).filter goodWord)
def wsX14_protocol_r1 : List Cond := [Cond.fieldLink RX14 35 "CoatLineModel" "protocols" "Ljava/util/List;", Cond.classLink RX14 7 RJx4a65c, Cond.instantiable RJx4a65c 3, Cond.initialized RJx4a65c, Cond.arrayClass .int, Cond.methodLink RX14 252 yX14_isStep, Cond.static yX14_isStep, Cond.initialized RX14, Cond.code yX14_isStep cX14_isStep 2 (some .boolean), Cond.methodLink RX14 69 yX14_isBetween, Cond.static yX14_isBetween, Cond.code yX14_isBetween cX14_isBetween 3 (some .boolean), Cond.methodLink RX14 63 ⟨"java/util/List", "size", "()I"⟩, Cond.selects RJx4a65c ⟨"java/util/List", "size", "()I"⟩ yJx4a65c_size_8abf5, Cond.instanceMethod yJx4a65c_size_8abf5, Cond.code yJx4a65c_size_8abf5 cJx4a65c_size_8abf5 1 (some .int), Cond.fieldLink RJx4a65c 48 "java/util/ArrayList" "size" "I", Cond.methodLink RX14 73 yX14_isWrong, Cond.instanceMethod yX14_isWrong, Cond.selects RX14 yX14_isWrong yX14_isWrong, Cond.code yX14_isWrong cX14_isWrong 2 (some .boolean), Cond.fieldLink RX14 60 "CoatLineModel" "thrown" "I", Cond.methodLink RX14 9 yJx4a65c_init_da8c8, Cond.instanceMethod yJx4a65c_init_da8c8]
def wsX14_protocol_r2 : List Cond := [Cond.code yJx4a65c_init_da8c8 cJx4a65c_init_da8c8 1 none, Cond.fieldLink RJx4a65c 39 "java/util/ArrayList" "DEFAULTCAPACITY_EMPTY_ELEMENTDATA" "[Ljava/lang/Object;", Cond.fieldLink RJx4a65c 9 "java/util/ArrayList" "elementData" "[Ljava/lang/Object;", Cond.methodLink RJx4a65c 1 yJxc12de_init_da8c8, Cond.instanceMethod yJxc12de_init_da8c8, Cond.initialized RJxc12de, Cond.code yJxc12de_init_da8c8 cJxc12de_init_da8c8 1 none, Cond.fieldLink RJxc12de 7 "java/util/AbstractList" "modCount" "I", Cond.methodLink RJxc12de 1 yJxa1e45_init_da8c8, Cond.instanceMethod yJxa1e45_init_da8c8, Cond.initialized RJxa1e45, Cond.code yJxa1e45_init_da8c8 cJxa1e45_init_da8c8 1 none, Cond.methodLink RJxa1e45 1 objectInit, Cond.instanceMethod objectInit, Cond.code objectInit ⟨#[0xb1]⟩ 1 none, Cond.methodLink RX14 77 ⟨"java/util/List", "add", "(Ljava/lang/Object;)Z"⟩, Cond.selects RJx4a65c ⟨"java/util/List", "add", "(Ljava/lang/Object;)Z"⟩ yJx4a65c_add_9ea2d, Cond.instanceMethod yJx4a65c_add_9ea2d, Cond.code yJx4a65c_add_9ea2d cJx4a65c_add_9ea2d 2 (some .boolean), Cond.fieldLink RJx4a65c 63 "java/util/ArrayList" "modCount" "I", Cond.sameField "java/util/ArrayList" "java/util/AbstractList" "modCount" "I", Cond.methodLink RJx4a65c 131 yJx4a65c_add_72be8, Cond.instanceMethod yJx4a65c_add_72be8, Cond.selects RJx4a65c yJx4a65c_add_72be8 yJx4a65c_add_72be8]
def wsX14_protocol_r3 : List Cond := [Cond.code yJx4a65c_add_72be8 cJx4a65c_add_72be8 4 none, Cond.methodLink RJx4a65c 129 yJx4a65c_grow_d5877, Cond.instanceMethod yJx4a65c_grow_d5877, Cond.selects RJx4a65c yJx4a65c_grow_d5877 yJx4a65c_grow_d5877, Cond.code yJx4a65c_grow_d5877 cJx4a65c_grow_d5877 1 (some (.array (.object "java/lang/Object"))), Cond.methodLink RJx4a65c 69 yJx4a65c_grow_92f84, Cond.instanceMethod yJx4a65c_grow_92f84, Cond.selects RJx4a65c yJx4a65c_grow_92f84 yJx4a65c_grow_92f84, Cond.code yJx4a65c_grow_92f84 cJx4a65c_grow_92f84 4 (some (.array (.object "java/lang/Object"))), Cond.methodLink RJx4a65c 79 Lib.Math.max.name, Cond.static Lib.Math.max.name, Cond.initialized "java/lang/Math", Cond.code Lib.Math.max.name Lib.Math.max.code 2 (some .int), Cond.classLink RJx4a65c 7 "java/lang/Object", Cond.methodLink RJx4a65c 73 yJ8_newLength_cabcc, Cond.static yJ8_newLength_cabcc, Cond.initialized RJ8, Cond.code yJ8_newLength_cabcc cJ8_newLength_cabcc 4 (some .int), Cond.methodLink RJ8 194 Lib.Math.max.name, Cond.constant RJ8 200 (2147483639), Cond.methodLink RJ8 201 yJ8_hugeLength_7cf53, Cond.static yJ8_hugeLength_7cf53, Cond.code yJ8_hugeLength_7cf53 cJ8_hugeLength_7cf53 3 (some .int), Cond.methodLink RJx4a65c 66 yJ7_copyOf_1904c]
def wsX14_protocol_r4 : List Cond := [Cond.static yJ7_copyOf_1904c, Cond.initialized RJ7, Cond.code yJ7_copyOf_1904c cJ7_copyOf_1904c 2 (some (.array (.object "java/lang/Object"))), Cond.methodLink RJ7 86 ⟨"java/lang/Object", "getClass", "()Ljava/lang/Class;"⟩, Cond.selects "[Ljava/lang/Object;" ⟨"java/lang/Object", "getClass", "()Ljava/lang/Class;"⟩ ⟨"java/lang/Object", "getClass", "()Ljava/lang/Class;"⟩, Cond.instanceMethod ⟨"java/lang/Object", "getClass", "()Ljava/lang/Class;"⟩, Cond.native ⟨"java/lang/Object", "getClass", "()Ljava/lang/Class;"⟩, Cond.methodLink RJ7 300 yJ7_copyOf_6403c, Cond.static yJ7_copyOf_6403c, Cond.code yJ7_copyOf_6403c cJ7_copyOf_6403c 4 (some (.array (.object "java/lang/Object"))), Cond.classLink RJ7 110 "[Ljava/lang/Object;", Cond.classLink RJ7 2 "java/lang/Object", Cond.methodLink RJ7 304 Lib.Math.min.name, Cond.static Lib.Math.min.name, Cond.code Lib.Math.min.name Lib.Math.min.code 2 (some .int), Cond.methodLink RJ7 150 arraycopyName, Cond.native arraycopyName, Cond.static arraycopyName, Cond.initialized "java/lang/System"]
def wsX14_protocol : List Cond := .code yX14_protocol cX14_protocol 4 (some .int) :: ((wsX14_protocol_r1 ++ (wsX14_protocol_r2 ++ (wsX14_protocol_r3 ++ wsX14_protocol_r4))) ++ wsX140 ++ wsJx4a65c0 ++ (vx_atM "java/lang/ArrayIndexOutOfBoundsException" ["java/lang/IndexOutOfBoundsException", "java/lang/RuntimeException", "java/lang/Exception"]).filter goodWord)
def wsX14_freeAt : List Cond := .code yX14_freeAt cX14_freeAt 2 (some .int) :: ([.fieldLink RX14 191 "CoatLineModel" "hour" "I", .fieldLink RX14 38 "CoatLineModel" "free" "[I", .methodLink RX14 224 Lib.Math.max.name, .static Lib.Math.max.name, .initialized "java/lang/Math", .code Lib.Math.max.name Lib.Math.max.code 2 (some .int), .methodLink RX14 69 yX14_isBetween, .static yX14_isBetween, .initialized RX14, .code yX14_isBetween cX14_isBetween 3 (some .boolean), .methodLink RX14 73 yX14_isWrong, .instanceMethod yX14_isWrong, .selects RX14 yX14_isWrong yX14_isWrong, .code yX14_isWrong cX14_isWrong 2 (some .boolean), .fieldLink RX14 60 "CoatLineModel" "thrown" "I"] ++ wsX140 ++ (vx_atM "java/lang/ArrayIndexOutOfBoundsException" ["java/lang/IndexOutOfBoundsException", "java/lang/RuntimeException", "java/lang/Exception"]).filter goodWord)
def wsX14_module_r1 : List Cond := [Cond.classLink RX14 7 RJx4a65c, Cond.instantiable RJx4a65c 3, Cond.initialized RJx4a65c, Cond.fieldLink RX14 29 "CoatLineModel" "cells" "Ljava/util/List;", Cond.classLink RX14 150 "CoatLineModel$Cell", Cond.fieldLink RX14 51 "CoatLineModel" "modules" "Ljava/util/List;", Cond.arrayClass .int, Cond.methodLink RX14 69 yX14_isBetween, Cond.static yX14_isBetween, Cond.initialized RX14, Cond.code yX14_isBetween cX14_isBetween 3 (some .boolean), Cond.methodLink RX14 73 yX14_isWrong, Cond.instanceMethod yX14_isWrong, Cond.selects RX14 yX14_isWrong yX14_isWrong, Cond.code yX14_isWrong cX14_isWrong 2 (some .boolean), Cond.fieldLink RX14 60 "CoatLineModel" "thrown" "I", Cond.methodLink RX14 9 yJx4a65c_init_da8c8, Cond.instanceMethod yJx4a65c_init_da8c8, Cond.code yJx4a65c_init_da8c8 cJx4a65c_init_da8c8 1 none, Cond.fieldLink RJx4a65c 39 "java/util/ArrayList" "DEFAULTCAPACITY_EMPTY_ELEMENTDATA" "[Ljava/lang/Object;", Cond.fieldLink RJx4a65c 9 "java/util/ArrayList" "elementData" "[Ljava/lang/Object;", Cond.methodLink RJx4a65c 1 yJxc12de_init_da8c8, Cond.instanceMethod yJxc12de_init_da8c8, Cond.initialized RJxc12de]
def wsX14_module_r2 : List Cond := [Cond.code yJxc12de_init_da8c8 cJxc12de_init_da8c8 1 none, Cond.fieldLink RJxc12de 7 "java/util/AbstractList" "modCount" "I", Cond.methodLink RJxc12de 1 yJxa1e45_init_da8c8, Cond.instanceMethod yJxa1e45_init_da8c8, Cond.initialized RJxa1e45, Cond.code yJxa1e45_init_da8c8 cJxa1e45_init_da8c8 1 none, Cond.methodLink RJxa1e45 1 objectInit, Cond.instanceMethod objectInit, Cond.code objectInit ⟨#[0xb1]⟩ 1 none, Cond.methodLink RX14 63 ⟨"java/util/List", "size", "()I"⟩, Cond.selects RJx4a65c ⟨"java/util/List", "size", "()I"⟩ yJx4a65c_size_8abf5, Cond.instanceMethod yJx4a65c_size_8abf5, Cond.code yJx4a65c_size_8abf5 cJx4a65c_size_8abf5 1 (some .int), Cond.fieldLink RJx4a65c 48 "java/util/ArrayList" "size" "I", Cond.methodLink RX14 85 ⟨"java/util/List", "get", "(I)Ljava/lang/Object;"⟩, Cond.selects RJx4a65c ⟨"java/util/List", "get", "(I)Ljava/lang/Object;"⟩ yJx4a65c_get_915e3, Cond.instanceMethod yJx4a65c_get_915e3, Cond.code yJx4a65c_get_915e3 cJx4a65c_get_915e3 2 (some (.object "java/lang/Object")), Cond.methodLink RJx4a65c 118 yJ15_checkIndex_7cf53, Cond.static yJ15_checkIndex_7cf53, Cond.initialized RJ15, Cond.code yJ15_checkIndex_7cf53 cJ15_checkIndex_7cf53 2 (some .int), Cond.methodLink RJ15 105 yJ3_checkIndex_8e157, Cond.static yJ3_checkIndex_8e157]
def wsX14_module_r3 : List Cond := [Cond.initialized RJ3, Cond.code yJ3_checkIndex_8e157 cJ3_checkIndex_8e157 3 (some .int), Cond.methodLink RJx4a65c 123 yJx4a65c_elementData_915e3, Cond.instanceMethod yJx4a65c_elementData_915e3, Cond.selects RJx4a65c yJx4a65c_elementData_915e3 yJx4a65c_elementData_915e3, Cond.code yJx4a65c_elementData_915e3 cJx4a65c_elementData_915e3 2 (some (.object "java/lang/Object")), Cond.methodLink RX14 264 yX14_sortOf, Cond.instanceMethod yX14_sortOf, Cond.selects RX14 yX14_sortOf yX14_sortOf, Cond.code yX14_sortOf cX14_sortOf 2 (some .char), Cond.fieldLink RX14 42 "CoatLineModel" "first" "I", Cond.fieldLink RX14 48 "CoatLineModel" "limit" "I", Cond.fieldLink RX14 45 "CoatLineModel" "second" "I", Cond.methodLink RX14 245 yX14_isReady, Cond.instanceMethod yX14_isReady, Cond.selects RX14 yX14_isReady yX14_isReady, Cond.code yX14_isReady cX14_isReady 2 (some .boolean), Cond.fieldLink RX14 191 "CoatLineModel" "hour" "I", Cond.methodLink RX14 220 yX14_covered, Cond.instanceMethod yX14_covered, Cond.selects RX14 yX14_covered yX14_covered, Cond.code yX14_covered cX14_covered 5 (some .boolean), Cond.fieldLink RX14 57 "CoatLineModel" "doubts" "Ljava/util/List;", Cond.classLink RX14 89 "[I"]
def wsX14_module_r4 : List Cond := [Cond.methodLink RX14 231 ⟨"java/util/List", "iterator", "()Ljava/util/Iterator;"⟩, Cond.selects RJx4a65c ⟨"java/util/List", "iterator", "()Ljava/util/Iterator;"⟩ yJx4a65c_iterator_32c93, Cond.instanceMethod yJx4a65c_iterator_32c93, Cond.code yJx4a65c_iterator_32c93 cJx4a65c_iterator_32c93 1 (some (.object "java/util/Iterator")), Cond.classLink RJx4a65c 267 RJx35411, Cond.instantiable RJx35411 4, Cond.initialized RJx35411, Cond.methodLink RJx4a65c 269 yJx35411_init_45d68, Cond.instanceMethod yJx35411_init_45d68, Cond.code yJx35411_init_45d68 cJx35411_init_45d68 2 none, Cond.fieldLink RJx35411 1 "java/util/ArrayList$Itr" "this$0" "Ljava/util/ArrayList;", Cond.methodLink RJx35411 7 objectInit, Cond.fieldLink RJx35411 13 "java/util/ArrayList$Itr" "lastRet" "I", Cond.fieldLink RJx35411 17 "java/util/ArrayList" "modCount" "I", Cond.sameField "java/util/ArrayList" "java/util/AbstractList" "modCount" "I", Cond.fieldLink RJx35411 22 "java/util/ArrayList$Itr" "expectedModCount" "I", Cond.methodLink RX14 235 ⟨"java/util/Iterator", "hasNext", "()Z"⟩, Cond.selects RJx35411 ⟨"java/util/Iterator", "hasNext", "()Z"⟩ yJx35411_hasNext_aae02, Cond.instanceMethod yJx35411_hasNext_aae02, Cond.code yJx35411_hasNext_aae02 cJx35411_hasNext_aae02 1 (some .boolean), Cond.fieldLink RJx35411 25 "java/util/ArrayList$Itr" "cursor" "I", Cond.methodLink RX14 241 ⟨"java/util/Iterator", "next", "()Ljava/lang/Object;"⟩, Cond.selects RJx35411 ⟨"java/util/Iterator", "next", "()Ljava/lang/Object;"⟩ yJx35411_next_0502b, Cond.instanceMethod yJx35411_next_0502b]
def wsX14_module_r5 : List Cond := [Cond.code yJx35411_next_0502b cJx35411_next_0502b 3 (some (.object "java/lang/Object")), Cond.fieldLink RJx35411 37 "java/util/ArrayList" "elementData" "[Ljava/lang/Object;", Cond.methodLink RJx35411 31 yJx35411_checkForComodification_da8c8, Cond.instanceMethod yJx35411_checkForComodification_da8c8, Cond.selects RJx35411 yJx35411_checkForComodification_da8c8 yJx35411_checkForComodification_da8c8, Cond.code yJx35411_checkForComodification_da8c8 cJx35411_checkForComodification_da8c8 1 none, Cond.methodLink RX14 348 yX14_covers, Cond.instanceMethod yX14_covers, Cond.selects RX14 yX14_covers yX14_covers, Cond.code yX14_covers cX14_covers 8 (some .boolean), Cond.fieldLink RX14 19 "CoatLineModel" "ribbons" "Ljava/util/List;", Cond.fieldLink RX14 16 "CoatLineModel" "coils" "Ljava/util/List;", Cond.classLink RX14 96 "CoatLineModel$Coil", Cond.methodLink RX14 292 yJ6_valueOf_2dffe, Cond.static yJ6_valueOf_2dffe, Cond.initialized RJ6, Cond.code yJ6_valueOf_2dffe cJ6_valueOf_2dffe 1 (some (.object "java/lang/Integer")), Cond.fieldLink RJ6 191 "java/lang/Integer$IntegerCache" "high" "I", Cond.fieldLink RJ6 195 "java/lang/Integer$IntegerCache" "cache" "[Ljava/lang/Integer;", Cond.classLink RJ6 1 RJ6, Cond.instantiable RJ6 1, Cond.methodLink RJ6 199 yJ6_init_d00df, Cond.instanceMethod yJ6_init_d00df, Cond.code yJ6_init_d00df cJ6_init_d00df 2 none]
def wsX14_module_r6 : List Cond := [Cond.fieldLink RJ6 205 "java/lang/Integer" "value" "I", Cond.methodLink RJ6 202 yJxd2413_init_da8c8, Cond.instanceMethod yJxd2413_init_da8c8, Cond.initialized RJxd2413, Cond.code yJxd2413_init_da8c8 cJxd2413_init_da8c8 1 none, Cond.methodLink RJxd2413 1 objectInit, Cond.methodLink RX14 77 ⟨"java/util/List", "add", "(Ljava/lang/Object;)Z"⟩, Cond.selects RJx4a65c ⟨"java/util/List", "add", "(Ljava/lang/Object;)Z"⟩ yJx4a65c_add_9ea2d, Cond.instanceMethod yJx4a65c_add_9ea2d, Cond.code yJx4a65c_add_9ea2d cJx4a65c_add_9ea2d 2 (some .boolean), Cond.fieldLink RJx4a65c 63 "java/util/ArrayList" "modCount" "I", Cond.methodLink RJx4a65c 131 yJx4a65c_add_72be8, Cond.instanceMethod yJx4a65c_add_72be8, Cond.selects RJx4a65c yJx4a65c_add_72be8 yJx4a65c_add_72be8, Cond.code yJx4a65c_add_72be8 cJx4a65c_add_72be8 4 none, Cond.methodLink RJx4a65c 129 yJx4a65c_grow_d5877, Cond.instanceMethod yJx4a65c_grow_d5877, Cond.selects RJx4a65c yJx4a65c_grow_d5877 yJx4a65c_grow_d5877, Cond.code yJx4a65c_grow_d5877 cJx4a65c_grow_d5877 1 (some (.array (.object "java/lang/Object"))), Cond.methodLink RJx4a65c 69 yJx4a65c_grow_92f84, Cond.instanceMethod yJx4a65c_grow_92f84, Cond.selects RJx4a65c yJx4a65c_grow_92f84 yJx4a65c_grow_92f84, Cond.code yJx4a65c_grow_92f84 cJx4a65c_grow_92f84 4 (some (.array (.object "java/lang/Object"))), Cond.methodLink RJx4a65c 79 Lib.Math.max.name]
def wsX14_module_r7 : List Cond := [Cond.static Lib.Math.max.name, Cond.initialized "java/lang/Math", Cond.code Lib.Math.max.name Lib.Math.max.code 2 (some .int), Cond.classLink RJx4a65c 7 "java/lang/Object", Cond.methodLink RJx4a65c 73 yJ8_newLength_cabcc, Cond.static yJ8_newLength_cabcc, Cond.initialized RJ8, Cond.code yJ8_newLength_cabcc cJ8_newLength_cabcc 4 (some .int), Cond.methodLink RJ8 194 Lib.Math.max.name, Cond.constant RJ8 200 (2147483639), Cond.methodLink RJ8 201 yJ8_hugeLength_7cf53, Cond.static yJ8_hugeLength_7cf53, Cond.code yJ8_hugeLength_7cf53 cJ8_hugeLength_7cf53 3 (some .int), Cond.methodLink RJx4a65c 66 yJ7_copyOf_1904c, Cond.static yJ7_copyOf_1904c, Cond.initialized RJ7, Cond.code yJ7_copyOf_1904c cJ7_copyOf_1904c 2 (some (.array (.object "java/lang/Object"))), Cond.methodLink RJ7 86 ⟨"java/lang/Object", "getClass", "()Ljava/lang/Class;"⟩, Cond.selects "[Ljava/lang/Object;" ⟨"java/lang/Object", "getClass", "()Ljava/lang/Class;"⟩ ⟨"java/lang/Object", "getClass", "()Ljava/lang/Class;"⟩, Cond.instanceMethod ⟨"java/lang/Object", "getClass", "()Ljava/lang/Class;"⟩, Cond.native ⟨"java/lang/Object", "getClass", "()Ljava/lang/Class;"⟩, Cond.methodLink RJ7 300 yJ7_copyOf_6403c, Cond.static yJ7_copyOf_6403c, Cond.code yJ7_copyOf_6403c cJ7_copyOf_6403c 4 (some (.array (.object "java/lang/Object")))]
def wsX14_module_r8 : List Cond := [Cond.classLink RJ7 110 "[Ljava/lang/Object;", Cond.classLink RJ7 2 "java/lang/Object", Cond.methodLink RJ7 304 Lib.Math.min.name, Cond.static Lib.Math.min.name, Cond.code Lib.Math.min.name Lib.Math.min.code 2 (some .int), Cond.methodLink RJ7 150 arraycopyName, Cond.native arraycopyName, Cond.static arraycopyName, Cond.initialized "java/lang/System", Cond.methodLink RX14 280 yX14_choose, Cond.instanceMethod yX14_choose, Cond.selects RX14 yX14_choose yX14_choose, Cond.code yX14_choose cX14_choose 8 (some (.array .int)), Cond.methodLink RX14 272 ⟨"[I", "clone", "()Ljava/lang/Object;"⟩, Cond.sameMethod "[I" "java/lang/Object" "clone" "()Ljava/lang/Object;", Cond.native ⟨"java/lang/Object", "clone", "()Ljava/lang/Object;"⟩, Cond.instanceMethod ⟨"java/lang/Object", "clone", "()Ljava/lang/Object;"⟩, Cond.selects "[I" ⟨"[I", "clone", "()Ljava/lang/Object;"⟩ ⟨"java/lang/Object", "clone", "()Ljava/lang/Object;"⟩, Cond.classLink RX14 275 "java/lang/Integer", Cond.methodLink RX14 268 yX14_isBetter, Cond.instanceMethod yX14_isBetter, Cond.selects RX14 yX14_isBetter yX14_isBetter, Cond.code yX14_isBetter cX14_isBetter 5 (some .boolean), Cond.methodLink RX14 285 yX14_figures]
def wsX14_module_r9 : List Cond := [Cond.instanceMethod yX14_figures, Cond.selects RX14 yX14_figures yX14_figures, Cond.code yX14_figures cX14_figures 9 (some (.array .int)), Cond.constant RX14 284 (2147483647), Cond.methodLink RX14 162 Lib.Math.min.name, Cond.methodLink RX14 224 Lib.Math.max.name, Cond.methodLink RX14 277 yJ6_intValue_8abf5, Cond.instanceMethod yJ6_intValue_8abf5, Cond.selects RJ6 yJ6_intValue_8abf5 yJ6_intValue_8abf5, Cond.code yJ6_intValue_8abf5 cJ6_intValue_8abf5 1 (some .int)]
def wsX14_module : List Cond := .code yX14_module cX14_module 9 (some .int) :: ((wsX14_module_r1 ++ (wsX14_module_r2 ++ (wsX14_module_r3 ++ (wsX14_module_r4 ++ (wsX14_module_r5 ++ (wsX14_module_r6 ++ (wsX14_module_r7 ++ (wsX14_module_r8 ++ wsX14_module_r9)))))))) ++ wsJx4a65c0 ++ wsX140 ++ wsX110 ++ wsJx354110 ++ wsX120 ++ wsJ60 ++ (vx_atM "java/lang/ArrayIndexOutOfBoundsException" ["java/lang/IndexOutOfBoundsException", "java/lang/RuntimeException", "java/lang/Exception"]).filter goodWord)
def wsX14_doubtAll_r1 : List Cond := [Cond.fieldLink RX14 10 "CoatLineModel" "lots" "Ljava/util/List;", Cond.fieldLink RX14 57 "CoatLineModel" "doubts" "Ljava/util/List;", Cond.arrayClass .int, Cond.methodLink RX14 81 yX14_isOf, Cond.static yX14_isOf, Cond.initialized RX14, Cond.code yX14_isOf cX14_isOf 2 (some .boolean), Cond.methodLink RX14 63 ⟨"java/util/List", "size", "()I"⟩, Cond.selects RJx4a65c ⟨"java/util/List", "size", "()I"⟩ yJx4a65c_size_8abf5, Cond.instanceMethod yJx4a65c_size_8abf5, Cond.initialized RJx4a65c, Cond.code yJx4a65c_size_8abf5 cJx4a65c_size_8abf5 1 (some .int), Cond.fieldLink RJx4a65c 48 "java/util/ArrayList" "size" "I", Cond.methodLink RX14 69 yX14_isBetween, Cond.static yX14_isBetween, Cond.code yX14_isBetween cX14_isBetween 3 (some .boolean), Cond.methodLink RX14 73 yX14_isWrong, Cond.instanceMethod yX14_isWrong, Cond.selects RX14 yX14_isWrong yX14_isWrong, Cond.code yX14_isWrong cX14_isWrong 2 (some .boolean), Cond.fieldLink RX14 60 "CoatLineModel" "thrown" "I", Cond.methodLink RX14 77 ⟨"java/util/List", "add", "(Ljava/lang/Object;)Z"⟩, Cond.selects RJx4a65c ⟨"java/util/List", "add", "(Ljava/lang/Object;)Z"⟩ yJx4a65c_add_9ea2d, Cond.instanceMethod yJx4a65c_add_9ea2d]
def wsX14_doubtAll_r2 : List Cond := [Cond.code yJx4a65c_add_9ea2d cJx4a65c_add_9ea2d 2 (some .boolean), Cond.fieldLink RJx4a65c 63 "java/util/ArrayList" "modCount" "I", Cond.sameField "java/util/ArrayList" "java/util/AbstractList" "modCount" "I", Cond.fieldLink RJx4a65c 9 "java/util/ArrayList" "elementData" "[Ljava/lang/Object;", Cond.methodLink RJx4a65c 131 yJx4a65c_add_72be8, Cond.instanceMethod yJx4a65c_add_72be8, Cond.selects RJx4a65c yJx4a65c_add_72be8 yJx4a65c_add_72be8, Cond.code yJx4a65c_add_72be8 cJx4a65c_add_72be8 4 none, Cond.methodLink RJx4a65c 129 yJx4a65c_grow_d5877, Cond.instanceMethod yJx4a65c_grow_d5877, Cond.selects RJx4a65c yJx4a65c_grow_d5877 yJx4a65c_grow_d5877, Cond.code yJx4a65c_grow_d5877 cJx4a65c_grow_d5877 1 (some (.array (.object "java/lang/Object"))), Cond.methodLink RJx4a65c 69 yJx4a65c_grow_92f84, Cond.instanceMethod yJx4a65c_grow_92f84, Cond.selects RJx4a65c yJx4a65c_grow_92f84 yJx4a65c_grow_92f84, Cond.code yJx4a65c_grow_92f84 cJx4a65c_grow_92f84 4 (some (.array (.object "java/lang/Object"))), Cond.fieldLink RJx4a65c 39 "java/util/ArrayList" "DEFAULTCAPACITY_EMPTY_ELEMENTDATA" "[Ljava/lang/Object;", Cond.methodLink RJx4a65c 79 Lib.Math.max.name, Cond.static Lib.Math.max.name, Cond.initialized "java/lang/Math", Cond.code Lib.Math.max.name Lib.Math.max.code 2 (some .int), Cond.classLink RJx4a65c 7 "java/lang/Object", Cond.methodLink RJx4a65c 73 yJ8_newLength_cabcc, Cond.static yJ8_newLength_cabcc]
def wsX14_doubtAll_r3 : List Cond := [Cond.initialized RJ8, Cond.code yJ8_newLength_cabcc cJ8_newLength_cabcc 4 (some .int), Cond.methodLink RJ8 194 Lib.Math.max.name, Cond.constant RJ8 200 (2147483639), Cond.methodLink RJ8 201 yJ8_hugeLength_7cf53, Cond.static yJ8_hugeLength_7cf53, Cond.code yJ8_hugeLength_7cf53 cJ8_hugeLength_7cf53 3 (some .int), Cond.methodLink RJx4a65c 66 yJ7_copyOf_1904c, Cond.static yJ7_copyOf_1904c, Cond.initialized RJ7, Cond.code yJ7_copyOf_1904c cJ7_copyOf_1904c 2 (some (.array (.object "java/lang/Object"))), Cond.methodLink RJ7 86 ⟨"java/lang/Object", "getClass", "()Ljava/lang/Class;"⟩, Cond.selects "[Ljava/lang/Object;" ⟨"java/lang/Object", "getClass", "()Ljava/lang/Class;"⟩ ⟨"java/lang/Object", "getClass", "()Ljava/lang/Class;"⟩, Cond.instanceMethod ⟨"java/lang/Object", "getClass", "()Ljava/lang/Class;"⟩, Cond.native ⟨"java/lang/Object", "getClass", "()Ljava/lang/Class;"⟩, Cond.methodLink RJ7 300 yJ7_copyOf_6403c, Cond.static yJ7_copyOf_6403c, Cond.code yJ7_copyOf_6403c cJ7_copyOf_6403c 4 (some (.array (.object "java/lang/Object"))), Cond.classLink RJ7 110 "[Ljava/lang/Object;", Cond.classLink RJ7 2 "java/lang/Object", Cond.methodLink RJ7 304 Lib.Math.min.name, Cond.static Lib.Math.min.name, Cond.code Lib.Math.min.name Lib.Math.min.code 2 (some .int), Cond.methodLink RJ7 150 arraycopyName]
def wsX14_doubtAll_r4 : List Cond := [Cond.native arraycopyName, Cond.static arraycopyName, Cond.initialized "java/lang/System", Cond.methodLink RX14 185 yX14_coversAgain, Cond.instanceMethod yX14_coversAgain, Cond.selects RX14 yX14_coversAgain yX14_coversAgain, Cond.code yX14_coversAgain cX14_coversAgain 3 none, Cond.fieldLink RX14 29 "CoatLineModel" "cells" "Ljava/util/List;", Cond.classLink RX14 150 "CoatLineModel$Cell", Cond.methodLink RX14 231 ⟨"java/util/List", "iterator", "()Ljava/util/Iterator;"⟩, Cond.selects RJx4a65c ⟨"java/util/List", "iterator", "()Ljava/util/Iterator;"⟩ yJx4a65c_iterator_32c93, Cond.instanceMethod yJx4a65c_iterator_32c93, Cond.code yJx4a65c_iterator_32c93 cJx4a65c_iterator_32c93 1 (some (.object "java/util/Iterator")), Cond.classLink RJx4a65c 267 RJx35411, Cond.instantiable RJx35411 4, Cond.initialized RJx35411, Cond.methodLink RJx4a65c 269 yJx35411_init_45d68, Cond.instanceMethod yJx35411_init_45d68, Cond.code yJx35411_init_45d68 cJx35411_init_45d68 2 none, Cond.fieldLink RJx35411 1 "java/util/ArrayList$Itr" "this$0" "Ljava/util/ArrayList;", Cond.methodLink RJx35411 7 objectInit, Cond.instanceMethod objectInit, Cond.code objectInit ⟨#[0xb1]⟩ 1 none, Cond.fieldLink RJx35411 13 "java/util/ArrayList$Itr" "lastRet" "I"]
def wsX14_doubtAll_r5 : List Cond := [Cond.fieldLink RJx35411 17 "java/util/ArrayList" "modCount" "I", Cond.fieldLink RJx35411 22 "java/util/ArrayList$Itr" "expectedModCount" "I", Cond.methodLink RX14 235 ⟨"java/util/Iterator", "hasNext", "()Z"⟩, Cond.selects RJx35411 ⟨"java/util/Iterator", "hasNext", "()Z"⟩ yJx35411_hasNext_aae02, Cond.instanceMethod yJx35411_hasNext_aae02, Cond.code yJx35411_hasNext_aae02 cJx35411_hasNext_aae02 1 (some .boolean), Cond.fieldLink RJx35411 25 "java/util/ArrayList$Itr" "cursor" "I", Cond.methodLink RX14 241 ⟨"java/util/Iterator", "next", "()Ljava/lang/Object;"⟩, Cond.selects RJx35411 ⟨"java/util/Iterator", "next", "()Ljava/lang/Object;"⟩ yJx35411_next_0502b, Cond.instanceMethod yJx35411_next_0502b, Cond.code yJx35411_next_0502b cJx35411_next_0502b 3 (some (.object "java/lang/Object")), Cond.fieldLink RJx35411 37 "java/util/ArrayList" "elementData" "[Ljava/lang/Object;", Cond.methodLink RJx35411 31 yJx35411_checkForComodification_da8c8, Cond.instanceMethod yJx35411_checkForComodification_da8c8, Cond.selects RJx35411 yJx35411_checkForComodification_da8c8 yJx35411_checkForComodification_da8c8, Cond.code yJx35411_checkForComodification_da8c8 cJx35411_checkForComodification_da8c8 1 none, Cond.methodLink RX14 220 yX14_covered, Cond.instanceMethod yX14_covered, Cond.selects RX14 yX14_covered yX14_covered, Cond.code yX14_covered cX14_covered 5 (some .boolean), Cond.classLink RX14 89 "[I", Cond.methodLink RX14 348 yX14_covers, Cond.instanceMethod yX14_covers, Cond.selects RX14 yX14_covers yX14_covers]
def wsX14_doubtAll_r6 : List Cond := [Cond.code yX14_covers cX14_covers 8 (some .boolean), Cond.fieldLink RX14 19 "CoatLineModel" "ribbons" "Ljava/util/List;", Cond.fieldLink RX14 16 "CoatLineModel" "coils" "Ljava/util/List;", Cond.classLink RX14 96 "CoatLineModel$Coil", Cond.methodLink RX14 85 ⟨"java/util/List", "get", "(I)Ljava/lang/Object;"⟩, Cond.selects RJx4a65c ⟨"java/util/List", "get", "(I)Ljava/lang/Object;"⟩ yJx4a65c_get_915e3, Cond.instanceMethod yJx4a65c_get_915e3, Cond.code yJx4a65c_get_915e3 cJx4a65c_get_915e3 2 (some (.object "java/lang/Object")), Cond.methodLink RJx4a65c 118 yJ15_checkIndex_7cf53, Cond.static yJ15_checkIndex_7cf53, Cond.initialized RJ15, Cond.code yJ15_checkIndex_7cf53 cJ15_checkIndex_7cf53 2 (some .int), Cond.methodLink RJ15 105 yJ3_checkIndex_8e157, Cond.static yJ3_checkIndex_8e157, Cond.initialized RJ3, Cond.code yJ3_checkIndex_8e157 cJ3_checkIndex_8e157 3 (some .int), Cond.methodLink RJx4a65c 123 yJx4a65c_elementData_915e3, Cond.instanceMethod yJx4a65c_elementData_915e3, Cond.selects RJx4a65c yJx4a65c_elementData_915e3 yJx4a65c_elementData_915e3, Cond.code yJx4a65c_elementData_915e3 cJx4a65c_elementData_915e3 2 (some (.object "java/lang/Object"))]
def wsX14_doubtAll : List Cond := .code yX14_doubtAll cX14_doubtAll 3 (some .int) :: ((wsX14_doubtAll_r1 ++ (wsX14_doubtAll_r2 ++ (wsX14_doubtAll_r3 ++ (wsX14_doubtAll_r4 ++ (wsX14_doubtAll_r5 ++ wsX14_doubtAll_r6))))) ++ wsX140 ++ wsJx4a65c0 ++ wsX110 ++ wsJx354110 ++ wsX120 ++ (vx_atM "java/lang/ArrayIndexOutOfBoundsException" ["java/lang/IndexOutOfBoundsException", "java/lang/RuntimeException", "java/lang/Exception"]).filter goodWord)
def wsX14_readyShare_r1 : List Cond := [Cond.fieldLink RX14 29 "CoatLineModel" "cells" "Ljava/util/List;", Cond.classLink RX14 150 "CoatLineModel$Cell", Cond.methodLink RX14 231 ⟨"java/util/List", "iterator", "()Ljava/util/Iterator;"⟩, Cond.selects RJx4a65c ⟨"java/util/List", "iterator", "()Ljava/util/Iterator;"⟩ yJx4a65c_iterator_32c93, Cond.instanceMethod yJx4a65c_iterator_32c93, Cond.initialized RJx4a65c, Cond.code yJx4a65c_iterator_32c93 cJx4a65c_iterator_32c93 1 (some (.object "java/util/Iterator")), Cond.classLink RJx4a65c 267 RJx35411, Cond.instantiable RJx35411 4, Cond.initialized RJx35411, Cond.methodLink RJx4a65c 269 yJx35411_init_45d68, Cond.instanceMethod yJx35411_init_45d68, Cond.code yJx35411_init_45d68 cJx35411_init_45d68 2 none, Cond.fieldLink RJx35411 1 "java/util/ArrayList$Itr" "this$0" "Ljava/util/ArrayList;", Cond.methodLink RJx35411 7 objectInit, Cond.instanceMethod objectInit, Cond.code objectInit ⟨#[0xb1]⟩ 1 none, Cond.fieldLink RJx35411 13 "java/util/ArrayList$Itr" "lastRet" "I", Cond.fieldLink RJx35411 17 "java/util/ArrayList" "modCount" "I", Cond.sameField "java/util/ArrayList" "java/util/AbstractList" "modCount" "I", Cond.fieldLink RJx35411 22 "java/util/ArrayList$Itr" "expectedModCount" "I", Cond.methodLink RX14 235 ⟨"java/util/Iterator", "hasNext", "()Z"⟩, Cond.selects RJx35411 ⟨"java/util/Iterator", "hasNext", "()Z"⟩ yJx35411_hasNext_aae02, Cond.instanceMethod yJx35411_hasNext_aae02]
def wsX14_readyShare_r2 : List Cond := [Cond.code yJx35411_hasNext_aae02 cJx35411_hasNext_aae02 1 (some .boolean), Cond.fieldLink RJx35411 25 "java/util/ArrayList$Itr" "cursor" "I", Cond.methodLink RX14 241 ⟨"java/util/Iterator", "next", "()Ljava/lang/Object;"⟩, Cond.selects RJx35411 ⟨"java/util/Iterator", "next", "()Ljava/lang/Object;"⟩ yJx35411_next_0502b, Cond.instanceMethod yJx35411_next_0502b, Cond.code yJx35411_next_0502b cJx35411_next_0502b 3 (some (.object "java/lang/Object")), Cond.fieldLink RJx35411 37 "java/util/ArrayList" "elementData" "[Ljava/lang/Object;", Cond.methodLink RJx35411 31 yJx35411_checkForComodification_da8c8, Cond.instanceMethod yJx35411_checkForComodification_da8c8, Cond.selects RJx35411 yJx35411_checkForComodification_da8c8 yJx35411_checkForComodification_da8c8, Cond.code yJx35411_checkForComodification_da8c8 cJx35411_checkForComodification_da8c8 1 none, Cond.methodLink RX14 245 yX14_isReady, Cond.instanceMethod yX14_isReady, Cond.selects RX14 yX14_isReady yX14_isReady, Cond.initialized RX14, Cond.code yX14_isReady cX14_isReady 2 (some .boolean), Cond.fieldLink RX14 191 "CoatLineModel" "hour" "I", Cond.methodLink RX14 356 ⟨"java/util/List", "isEmpty", "()Z"⟩, Cond.selects RJx4a65c ⟨"java/util/List", "isEmpty", "()Z"⟩ yJx4a65c_isEmpty_aae02, Cond.instanceMethod yJx4a65c_isEmpty_aae02, Cond.code yJx4a65c_isEmpty_aae02 cJx4a65c_isEmpty_aae02 1 (some .boolean), Cond.fieldLink RJx4a65c 48 "java/util/ArrayList" "size" "I", Cond.methodLink RX14 73 yX14_isWrong, Cond.instanceMethod yX14_isWrong]
def wsX14_readyShare_r3 : List Cond := [Cond.selects RX14 yX14_isWrong yX14_isWrong, Cond.code yX14_isWrong cX14_isWrong 2 (some .boolean), Cond.fieldLink RX14 60 "CoatLineModel" "thrown" "I", Cond.methodLink RX14 63 ⟨"java/util/List", "size", "()I"⟩, Cond.selects RJx4a65c ⟨"java/util/List", "size", "()I"⟩ yJx4a65c_size_8abf5, Cond.instanceMethod yJx4a65c_size_8abf5, Cond.code yJx4a65c_size_8abf5 cJx4a65c_size_8abf5 1 (some .int)]
def wsX14_readyShare : List Cond := .code yX14_readyShare cX14_readyShare 4 (some .float) :: ((wsX14_readyShare_r1 ++ (wsX14_readyShare_r2 ++ wsX14_readyShare_r3)) ++ wsX140 ++ wsJx354110 ++ wsJx4a65c0 ++ wsX110)
def wsX14_meanHold_r1 : List Cond := [Cond.fieldLink RX14 29 "CoatLineModel" "cells" "Ljava/util/List;", Cond.classLink RX14 150 "CoatLineModel$Cell", Cond.methodLink RX14 231 ⟨"java/util/List", "iterator", "()Ljava/util/Iterator;"⟩, Cond.selects RJx4a65c ⟨"java/util/List", "iterator", "()Ljava/util/Iterator;"⟩ yJx4a65c_iterator_32c93, Cond.instanceMethod yJx4a65c_iterator_32c93, Cond.initialized RJx4a65c, Cond.code yJx4a65c_iterator_32c93 cJx4a65c_iterator_32c93 1 (some (.object "java/util/Iterator")), Cond.classLink RJx4a65c 267 RJx35411, Cond.instantiable RJx35411 4, Cond.initialized RJx35411, Cond.methodLink RJx4a65c 269 yJx35411_init_45d68, Cond.instanceMethod yJx35411_init_45d68, Cond.code yJx35411_init_45d68 cJx35411_init_45d68 2 none, Cond.fieldLink RJx35411 1 "java/util/ArrayList$Itr" "this$0" "Ljava/util/ArrayList;", Cond.methodLink RJx35411 7 objectInit, Cond.instanceMethod objectInit, Cond.code objectInit ⟨#[0xb1]⟩ 1 none, Cond.fieldLink RJx35411 13 "java/util/ArrayList$Itr" "lastRet" "I", Cond.fieldLink RJx35411 17 "java/util/ArrayList" "modCount" "I", Cond.sameField "java/util/ArrayList" "java/util/AbstractList" "modCount" "I", Cond.fieldLink RJx35411 22 "java/util/ArrayList$Itr" "expectedModCount" "I", Cond.methodLink RX14 235 ⟨"java/util/Iterator", "hasNext", "()Z"⟩, Cond.selects RJx35411 ⟨"java/util/Iterator", "hasNext", "()Z"⟩ yJx35411_hasNext_aae02, Cond.instanceMethod yJx35411_hasNext_aae02]
def wsX14_meanHold_r2 : List Cond := [Cond.code yJx35411_hasNext_aae02 cJx35411_hasNext_aae02 1 (some .boolean), Cond.fieldLink RJx35411 25 "java/util/ArrayList$Itr" "cursor" "I", Cond.methodLink RX14 241 ⟨"java/util/Iterator", "next", "()Ljava/lang/Object;"⟩, Cond.selects RJx35411 ⟨"java/util/Iterator", "next", "()Ljava/lang/Object;"⟩ yJx35411_next_0502b, Cond.instanceMethod yJx35411_next_0502b, Cond.code yJx35411_next_0502b cJx35411_next_0502b 3 (some (.object "java/lang/Object")), Cond.fieldLink RJx35411 37 "java/util/ArrayList" "elementData" "[Ljava/lang/Object;", Cond.methodLink RJx35411 31 yJx35411_checkForComodification_da8c8, Cond.instanceMethod yJx35411_checkForComodification_da8c8, Cond.selects RJx35411 yJx35411_checkForComodification_da8c8 yJx35411_checkForComodification_da8c8, Cond.code yJx35411_checkForComodification_da8c8 cJx35411_checkForComodification_da8c8 1 none, Cond.methodLink RX14 356 ⟨"java/util/List", "isEmpty", "()Z"⟩, Cond.selects RJx4a65c ⟨"java/util/List", "isEmpty", "()Z"⟩ yJx4a65c_isEmpty_aae02, Cond.instanceMethod yJx4a65c_isEmpty_aae02, Cond.code yJx4a65c_isEmpty_aae02 cJx4a65c_isEmpty_aae02 1 (some .boolean), Cond.fieldLink RJx4a65c 48 "java/util/ArrayList" "size" "I", Cond.methodLink RX14 73 yX14_isWrong, Cond.instanceMethod yX14_isWrong, Cond.selects RX14 yX14_isWrong yX14_isWrong, Cond.initialized RX14, Cond.code yX14_isWrong cX14_isWrong 2 (some .boolean), Cond.fieldLink RX14 60 "CoatLineModel" "thrown" "I", Cond.methodLink RX14 63 ⟨"java/util/List", "size", "()I"⟩, Cond.selects RJx4a65c ⟨"java/util/List", "size", "()I"⟩ yJx4a65c_size_8abf5]
def wsX14_meanHold_r3 : List Cond := [Cond.instanceMethod yJx4a65c_size_8abf5, Cond.code yJx4a65c_size_8abf5 cJx4a65c_size_8abf5 1 (some .int)]
def wsX14_meanHold : List Cond := .code yX14_meanHold cX14_meanHold 4 (some .double) :: ((wsX14_meanHold_r1 ++ (wsX14_meanHold_r2 ++ wsX14_meanHold_r3)) ++ wsX140 ++ wsX110 ++ wsJx354110 ++ wsJx4a65c0)
def wsX14_checksum_r1 : List Cond := [Cond.fieldLink RX14 60 "CoatLineModel" "thrown" "I", Cond.constantLong RX14 359 (7), Cond.fieldLink RX14 29 "CoatLineModel" "cells" "Ljava/util/List;", Cond.classLink RX14 150 "CoatLineModel$Cell", Cond.constantLong RX14 361 (31), Cond.methodLink RX14 231 ⟨"java/util/List", "iterator", "()Ljava/util/Iterator;"⟩, Cond.selects RJx4a65c ⟨"java/util/List", "iterator", "()Ljava/util/Iterator;"⟩ yJx4a65c_iterator_32c93, Cond.instanceMethod yJx4a65c_iterator_32c93, Cond.initialized RJx4a65c, Cond.code yJx4a65c_iterator_32c93 cJx4a65c_iterator_32c93 1 (some (.object "java/util/Iterator")), Cond.classLink RJx4a65c 267 RJx35411, Cond.instantiable RJx35411 4, Cond.initialized RJx35411, Cond.methodLink RJx4a65c 269 yJx35411_init_45d68, Cond.instanceMethod yJx35411_init_45d68, Cond.code yJx35411_init_45d68 cJx35411_init_45d68 2 none, Cond.fieldLink RJx35411 1 "java/util/ArrayList$Itr" "this$0" "Ljava/util/ArrayList;", Cond.methodLink RJx35411 7 objectInit, Cond.instanceMethod objectInit, Cond.code objectInit ⟨#[0xb1]⟩ 1 none, Cond.fieldLink RJx35411 13 "java/util/ArrayList$Itr" "lastRet" "I", Cond.fieldLink RJx35411 17 "java/util/ArrayList" "modCount" "I", Cond.sameField "java/util/ArrayList" "java/util/AbstractList" "modCount" "I", Cond.fieldLink RJx35411 22 "java/util/ArrayList$Itr" "expectedModCount" "I"]
def wsX14_checksum_r2 : List Cond := [Cond.methodLink RX14 235 ⟨"java/util/Iterator", "hasNext", "()Z"⟩, Cond.selects RJx35411 ⟨"java/util/Iterator", "hasNext", "()Z"⟩ yJx35411_hasNext_aae02, Cond.instanceMethod yJx35411_hasNext_aae02, Cond.code yJx35411_hasNext_aae02 cJx35411_hasNext_aae02 1 (some .boolean), Cond.fieldLink RJx35411 25 "java/util/ArrayList$Itr" "cursor" "I", Cond.methodLink RX14 241 ⟨"java/util/Iterator", "next", "()Ljava/lang/Object;"⟩, Cond.selects RJx35411 ⟨"java/util/Iterator", "next", "()Ljava/lang/Object;"⟩ yJx35411_next_0502b, Cond.instanceMethod yJx35411_next_0502b, Cond.code yJx35411_next_0502b cJx35411_next_0502b 3 (some (.object "java/lang/Object")), Cond.fieldLink RJx35411 37 "java/util/ArrayList" "elementData" "[Ljava/lang/Object;", Cond.methodLink RJx35411 31 yJx35411_checkForComodification_da8c8, Cond.instanceMethod yJx35411_checkForComodification_da8c8, Cond.selects RJx35411 yJx35411_checkForComodification_da8c8 yJx35411_checkForComodification_da8c8, Cond.code yJx35411_checkForComodification_da8c8 cJx35411_checkForComodification_da8c8 1 none]
def wsX14_checksum : List Cond := .code yX14_checksum cX14_checksum 5 (some .long) :: ((wsX14_checksum_r1 ++ wsX14_checksum_r2) ++ wsX140 ++ wsX110 ++ wsJx354110 ++ wsJx4a65c0)
set_option maxRecDepth 20000 in
theorem ggX14_lot_X14_isBetween : GoodIn wsX14_lot wsX14_isBetween := goodIn_r _ [6] (by decide +kernel) (by decide +kernel)
set_option maxRecDepth 20000 in
theorem gX14_lot_X14_isBetween : GoodIn wsX14_lot (va_wsS RX14 69 yX14_isBetween wsX14_isBetween) := goodIn_app (goodIn_of _ (by decide +kernel)) ggX14_lot_X14_isBetween
set_option maxRecDepth 20000 in
theorem ggX14_lot_Jx4a65c_size_8abf5 : GoodIn wsX14_lot wsJx4a65c_size_8abf5 := goodIn_r _ [11, 12, 93, 94, 95] (by decide +kernel) (by decide +kernel)
set_option maxRecDepth 20000 in
theorem gX14_lot_Jx4a65c_size_8abf5_f63Jx4a65c : GoodIn wsX14_lot (va_wsF RX14 63 RJx4a65c ⟨"java/util/List", "size", "()I"⟩ yJx4a65c_size_8abf5 wsJx4a65c_size_8abf5) := goodIn_app (goodIn_of _ (by decide +kernel)) ggX14_lot_Jx4a65c_size_8abf5
set_option maxRecDepth 20000 in
theorem ggX14_lot_X14_isWrong : GoodIn wsX14_lot wsX14_isWrong := goodIn_r _ [16, 17, 72, 73, 74, 75, 76, 77, 78, 79, 80, 81, 82, 83, 84, 85, 86, 87, 88, 89, 90, 91, 92] (by decide +kernel) (by decide +kernel)
set_option maxRecDepth 20000 in
theorem gX14_lot_X14_isWrong : GoodIn wsX14_lot (wsV RX14 73 RX14 yX14_isWrong wsX14_isWrong) := goodIn_app (goodIn_of _ (by decide +kernel)) ggX14_lot_X14_isWrong
set_option maxRecDepth 20000 in
theorem ggX14_lot_Jx4a65c_add_9ea2d : GoodIn wsX14_lot wsJx4a65c_add_9ea2d := goodIn_r _ [21, 22, 23, 24, 12, 25, 26, 27, 10, 28, 29, 30, 31, 32, 33, 34, 35, 36, 37, 38, 39, 40, 41, 42, 43, 44, 45, 46, 47, 48, 49, 50, 51, 52, 53, 54, 55, 56, 57, 58, 59, 60, 61, 62, 63, 64, 65, 66, 67, 68, 69, 70, 71, 93, 94, 95] (by decide +kernel) (by decide +kernel)
set_option maxRecDepth 20000 in
theorem gX14_lot_Jx4a65c_add_9ea2d_f77Jx4a65c : GoodIn wsX14_lot (va_wsF RX14 77 RJx4a65c ⟨"java/util/List", "add", "(Ljava/lang/Object;)Z"⟩ yJx4a65c_add_9ea2d wsJx4a65c_add_9ea2d) := goodIn_app (goodIn_of _ (by decide +kernel)) ggX14_lot_Jx4a65c_add_9ea2d
theorem dX14_lot_0 : decode cX14_lot 0 = .ok (.aload_n 0, 1) := by decide +kernel
theorem dX14_lot_1 : decode cX14_lot 1 = .ok (.iload_n 1, 1) := by decide +kernel
theorem dX14_lot_2 : decode cX14_lot 2 = .ok (.bipush 112, 2) := by decide +kernel
theorem dX14_lot_4 : decode cX14_lot 4 = .ok (.if_icmp .eq 9, 3) := by decide +kernel
theorem dX14_lot_7 : decode cX14_lot 7 = .ok (.iload_n 1, 1) := by decide +kernel
theorem dX14_lot_8 : decode cX14_lot 8 = .ok (.bipush 110, 2) := by decide +kernel
theorem dX14_lot_10 : decode cX14_lot 10 = .ok (.if_icmp .ne 26, 3) := by decide +kernel
theorem dX14_lot_13 : decode cX14_lot 13 = .ok (.iload_n 2, 1) := by decide +kernel
theorem dX14_lot_14 : decode cX14_lot 14 = .ok (.bipush 50, 2) := by decide +kernel
theorem dX14_lot_16 : decode cX14_lot 16 = .ok (.sipush 150, 3) := by decide +kernel
theorem dX14_lot_19 : decode cX14_lot 19 = .ok (.invokestatic 69, 3) := by decide +kernel
theorem dX14_lot_22 : decode cX14_lot 22 = .ok (.ifCond .eq 14, 3) := by decide +kernel
theorem dX14_lot_25 : decode cX14_lot 25 = .ok (.iload_n 3, 1) := by decide +kernel
theorem dX14_lot_26 : decode cX14_lot 26 = .ok (.iconst 1, 1) := by decide +kernel
theorem dX14_lot_27 : decode cX14_lot 27 = .ok (.sipush 999, 3) := by decide +kernel
theorem dX14_lot_30 : decode cX14_lot 30 = .ok (.invokestatic 69, 3) := by decide +kernel
theorem dX14_lot_33 : decode cX14_lot 33 = .ok (.ifCond .ne 7, 3) := by decide +kernel
theorem dX14_lot_36 : decode cX14_lot 36 = .ok (.iconst 1, 1) := by decide +kernel
theorem dX14_lot_37 : decode cX14_lot 37 = .ok (.goto 22, 3) := by decide +kernel
theorem dX14_lot_40 : decode cX14_lot 40 = .ok (.aload_n 0, 1) := by decide +kernel
theorem dX14_lot_41 : decode cX14_lot 41 = .ok (.getfield 10, 3) := by decide +kernel
theorem dX14_lot_44 : decode cX14_lot 44 = .ok (.invokeinterface 63 1, 5) := by decide +kernel
theorem dX14_lot_49 : decode cX14_lot 49 = .ok (.bipush 8, 2) := by decide +kernel
theorem dX14_lot_51 : decode cX14_lot 51 = .ok (.if_icmp .ne 7, 3) := by decide +kernel
theorem dX14_lot_58 : decode cX14_lot 58 = .ok (.iconst 0, 1) := by decide +kernel
theorem dX14_lot_59 : decode cX14_lot 59 = .ok (.invokevirtual 73, 3) := by decide +kernel
theorem dX14_lot_62 : decode cX14_lot 62 = .ok (.ifCond .eq 5, 3) := by decide +kernel
theorem dX14_lot_65 : decode cX14_lot 65 = .ok (.iconst 0, 1) := by decide +kernel
theorem dX14_lot_66 : decode cX14_lot 66 = .ok (.ireturn, 1) := by decide +kernel
theorem dX14_lot_67 : decode cX14_lot 67 = .ok (.aload_n 0, 1) := by decide +kernel
theorem dX14_lot_68 : decode cX14_lot 68 = .ok (.getfield 10, 3) := by decide +kernel
theorem dX14_lot_71 : decode cX14_lot 71 = .ok (.iconst 3, 1) := by decide +kernel
theorem dX14_lot_72 : decode cX14_lot 72 = .ok (.newarray .int, 2) := by decide +kernel
theorem dX14_lot_74 : decode cX14_lot 74 = .ok (.dup, 1) := by decide +kernel
theorem dX14_lot_75 : decode cX14_lot 75 = .ok (.iconst 0, 1) := by decide +kernel
theorem dX14_lot_76 : decode cX14_lot 76 = .ok (.iload_n 1, 1) := by decide +kernel
theorem dX14_lot_77 : decode cX14_lot 77 = .ok (.iastore, 1) := by decide +kernel
theorem dX14_lot_78 : decode cX14_lot 78 = .ok (.dup, 1) := by decide +kernel
theorem dX14_lot_79 : decode cX14_lot 79 = .ok (.iconst 1, 1) := by decide +kernel
theorem dX14_lot_80 : decode cX14_lot 80 = .ok (.iload_n 2, 1) := by decide +kernel
theorem dX14_lot_81 : decode cX14_lot 81 = .ok (.iastore, 1) := by decide +kernel
theorem dX14_lot_82 : decode cX14_lot 82 = .ok (.dup, 1) := by decide +kernel
theorem dX14_lot_83 : decode cX14_lot 83 = .ok (.iconst 2, 1) := by decide +kernel
theorem dX14_lot_84 : decode cX14_lot 84 = .ok (.iload_n 3, 1) := by decide +kernel
theorem dX14_lot_85 : decode cX14_lot 85 = .ok (.iastore, 1) := by decide +kernel
theorem dX14_lot_86 : decode cX14_lot 86 = .ok (.invokeinterface 77 2, 5) := by decide +kernel
theorem dX14_lot_91 : decode cX14_lot 91 = .ok (.pop, 1) := by decide +kernel
theorem dX14_lot_92 : decode cX14_lot 92 = .ok (.aload_n 0, 1) := by decide +kernel
theorem dX14_lot_93 : decode cX14_lot 93 = .ok (.getfield 10, 3) := by decide +kernel
theorem dX14_lot_96 : decode cX14_lot 96 = .ok (.invokeinterface 63 1, 5) := by decide +kernel
theorem dX14_lot_101 : decode cX14_lot 101 = .ok (.iconst 1, 1) := by decide +kernel
theorem dX14_lot_102 : decode cX14_lot 102 = .ok (.isub, 1) := by decide +kernel
theorem dX14_lot_103 : decode cX14_lot 103 = .ok (.ireturn, 1) := by decide +kernel
set_option maxRecDepth 20000 in
theorem ggX14_protocol_X14_isStep : GoodIn wsX14_protocol wsX14_isStep := goodIn_r _ [9, 10, 11, 8, 12] (by decide +kernel) (by decide +kernel)
set_option maxRecDepth 20000 in
theorem gX14_protocol_X14_isStep : GoodIn wsX14_protocol (va_wsS RX14 252 yX14_isStep wsX14_isStep) := goodIn_app (goodIn_of _ (by decide +kernel)) ggX14_protocol_X14_isStep
set_option maxRecDepth 20000 in
theorem ggX14_protocol_Jx4a65c_size_8abf5 : GoodIn wsX14_protocol wsJx4a65c_size_8abf5 := goodIn_r _ [16, 17, 113, 114, 115] (by decide +kernel) (by decide +kernel)
set_option maxRecDepth 20000 in
theorem gX14_protocol_Jx4a65c_size_8abf5_f63Jx4a65c : GoodIn wsX14_protocol (va_wsF RX14 63 RJx4a65c ⟨"java/util/List", "size", "()I"⟩ yJx4a65c_size_8abf5 wsJx4a65c_size_8abf5) := goodIn_app (goodIn_of _ (by decide +kernel)) ggX14_protocol_Jx4a65c_size_8abf5
set_option maxRecDepth 20000 in
theorem ggX14_protocol_X14_isWrong : GoodIn wsX14_protocol wsX14_isWrong := goodIn_r _ [21, 22, 92, 93, 94, 95, 96, 97, 98, 99, 100, 101, 102, 103, 104, 105, 106, 107, 108, 109, 110, 111, 112] (by decide +kernel) (by decide +kernel)
set_option maxRecDepth 20000 in
theorem gX14_protocol_X14_isWrong : GoodIn wsX14_protocol (wsV RX14 73 RX14 yX14_isWrong wsX14_isWrong) := goodIn_app (goodIn_of _ (by decide +kernel)) ggX14_protocol_X14_isWrong
set_option maxRecDepth 20000 in
theorem ggX14_protocol_Jx4a65c_init_da8c8 : GoodIn wsX14_protocol wsJx4a65c_init_da8c8 := goodIn_r _ [25, 26, 27, 28, 29, 30, 31, 32, 33, 34, 35, 36, 37, 38, 39, 113, 114, 115] (by decide +kernel) (by decide +kernel)
set_option maxRecDepth 20000 in
theorem gX14_protocol_Jx4a65c_init_da8c8 : GoodIn wsX14_protocol (wsJx4a65c_init_da8c8) := ggX14_protocol_Jx4a65c_init_da8c8
set_option maxRecDepth 20000 in
theorem ggX14_protocol_Jx4a65c_add_9ea2d : GoodIn wsX14_protocol wsJx4a65c_add_9ea2d := goodIn_r _ [43, 44, 45, 27, 17, 46, 47, 48, 4, 49, 50, 51, 52, 53, 54, 55, 56, 57, 26, 58, 59, 60, 61, 62, 63, 64, 65, 66, 67, 68, 69, 70, 71, 72, 73, 74, 75, 76, 77, 78, 79, 80, 81, 82, 83, 84, 85, 86, 87, 88, 89, 90, 91, 113, 114, 115] (by decide +kernel) (by decide +kernel)
set_option maxRecDepth 20000 in
theorem gX14_protocol_Jx4a65c_add_9ea2d_f77Jx4a65c : GoodIn wsX14_protocol (va_wsF RX14 77 RJx4a65c ⟨"java/util/List", "add", "(Ljava/lang/Object;)Z"⟩ yJx4a65c_add_9ea2d wsJx4a65c_add_9ea2d) := goodIn_app (goodIn_of _ (by decide +kernel)) ggX14_protocol_Jx4a65c_add_9ea2d
theorem dX14_protocol_0 : decode cX14_protocol 0 = .ok (.aload_n 0, 1) := by decide +kernel
theorem dX14_protocol_1 : decode cX14_protocol 1 = .ok (.iload_n 1, 1) := by decide +kernel
theorem dX14_protocol_2 : decode cX14_protocol 2 = .ok (.iload_n 2, 1) := by decide +kernel
theorem dX14_protocol_3 : decode cX14_protocol 3 = .ok (.invokestatic 252, 3) := by decide +kernel
theorem dX14_protocol_6 : decode cX14_protocol 6 = .ok (.ifCond .ne 7, 3) := by decide +kernel
theorem dX14_protocol_9 : decode cX14_protocol 9 = .ok (.iconst 1, 1) := by decide +kernel
theorem dX14_protocol_10 : decode cX14_protocol 10 = .ok (.goto 21, 3) := by decide +kernel
theorem dX14_protocol_13 : decode cX14_protocol 13 = .ok (.aload_n 0, 1) := by decide +kernel
theorem dX14_protocol_14 : decode cX14_protocol 14 = .ok (.getfield 35, 3) := by decide +kernel
theorem dX14_protocol_17 : decode cX14_protocol 17 = .ok (.invokeinterface 63 1, 5) := by decide +kernel
theorem dX14_protocol_22 : decode cX14_protocol 22 = .ok (.iconst 4, 1) := by decide +kernel
theorem dX14_protocol_23 : decode cX14_protocol 23 = .ok (.if_icmp .ne 7, 3) := by decide +kernel
theorem dX14_protocol_30 : decode cX14_protocol 30 = .ok (.iconst 0, 1) := by decide +kernel
theorem dX14_protocol_31 : decode cX14_protocol 31 = .ok (.invokevirtual 73, 3) := by decide +kernel
theorem dX14_protocol_34 : decode cX14_protocol 34 = .ok (.ifCond .eq 5, 3) := by decide +kernel
theorem dX14_protocol_37 : decode cX14_protocol 37 = .ok (.iconst 0, 1) := by decide +kernel
theorem dX14_protocol_38 : decode cX14_protocol 38 = .ok (.ireturn, 1) := by decide +kernel
theorem dX14_protocol_39 : decode cX14_protocol 39 = .ok (.new 7, 3) := by decide +kernel
theorem dX14_protocol_42 : decode cX14_protocol 42 = .ok (.dup, 1) := by decide +kernel
theorem dX14_protocol_43 : decode cX14_protocol 43 = .ok (.invokespecial 9, 3) := by decide +kernel
theorem dX14_protocol_46 : decode cX14_protocol 46 = .ok (.astore_n 3, 1) := by decide +kernel
theorem dX14_protocol_47 : decode cX14_protocol 47 = .ok (.aload_n 3, 1) := by decide +kernel
theorem dX14_protocol_48 : decode cX14_protocol 48 = .ok (.iconst 2, 1) := by decide +kernel
theorem dX14_protocol_49 : decode cX14_protocol 49 = .ok (.newarray .int, 2) := by decide +kernel
theorem dX14_protocol_51 : decode cX14_protocol 51 = .ok (.dup, 1) := by decide +kernel
theorem dX14_protocol_52 : decode cX14_protocol 52 = .ok (.iconst 0, 1) := by decide +kernel
theorem dX14_protocol_53 : decode cX14_protocol 53 = .ok (.iload_n 1, 1) := by decide +kernel
theorem dX14_protocol_54 : decode cX14_protocol 54 = .ok (.iastore, 1) := by decide +kernel
theorem dX14_protocol_55 : decode cX14_protocol 55 = .ok (.dup, 1) := by decide +kernel
theorem dX14_protocol_56 : decode cX14_protocol 56 = .ok (.iconst 1, 1) := by decide +kernel
theorem dX14_protocol_57 : decode cX14_protocol 57 = .ok (.iload_n 2, 1) := by decide +kernel
theorem dX14_protocol_58 : decode cX14_protocol 58 = .ok (.iastore, 1) := by decide +kernel
theorem dX14_protocol_59 : decode cX14_protocol 59 = .ok (.invokeinterface 77 2, 5) := by decide +kernel
theorem dX14_protocol_64 : decode cX14_protocol 64 = .ok (.pop, 1) := by decide +kernel
theorem dX14_protocol_65 : decode cX14_protocol 65 = .ok (.aload_n 0, 1) := by decide +kernel
theorem dX14_protocol_66 : decode cX14_protocol 66 = .ok (.getfield 35, 3) := by decide +kernel
theorem dX14_protocol_69 : decode cX14_protocol 69 = .ok (.aload_n 3, 1) := by decide +kernel
theorem dX14_protocol_70 : decode cX14_protocol 70 = .ok (.invokeinterface 77 2, 5) := by decide +kernel
theorem dX14_protocol_75 : decode cX14_protocol 75 = .ok (.pop, 1) := by decide +kernel
theorem dX14_protocol_76 : decode cX14_protocol 76 = .ok (.aload_n 0, 1) := by decide +kernel
theorem dX14_protocol_77 : decode cX14_protocol 77 = .ok (.getfield 35, 3) := by decide +kernel
theorem dX14_protocol_80 : decode cX14_protocol 80 = .ok (.invokeinterface 63 1, 5) := by decide +kernel
theorem dX14_protocol_85 : decode cX14_protocol 85 = .ok (.iconst 1, 1) := by decide +kernel
theorem dX14_protocol_86 : decode cX14_protocol 86 = .ok (.isub, 1) := by decide +kernel
theorem dX14_protocol_87 : decode cX14_protocol 87 = .ok (.ireturn, 1) := by decide +kernel
set_option maxRecDepth 20000 in
theorem ggX14_freeAt_X14_isBetween : GoodIn wsX14_freeAt wsX14_isBetween := goodIn_r _ [10] (by decide +kernel) (by decide +kernel)
set_option maxRecDepth 20000 in
theorem gX14_freeAt_X14_isBetween : GoodIn wsX14_freeAt (va_wsS RX14 69 yX14_isBetween wsX14_isBetween) := goodIn_app (goodIn_of _ (by decide +kernel)) ggX14_freeAt_X14_isBetween
set_option maxRecDepth 20000 in
theorem ggX14_freeAt_X14_isWrong : GoodIn wsX14_freeAt wsX14_isWrong := goodIn_r _ [14, 15, 16, 17, 18, 19, 20, 21, 22, 23, 24, 25, 26, 27, 28, 29, 30, 31, 32, 33, 34, 35, 36] (by decide +kernel) (by decide +kernel)
set_option maxRecDepth 20000 in
theorem gX14_freeAt_X14_isWrong : GoodIn wsX14_freeAt (wsV RX14 73 RX14 yX14_isWrong wsX14_isWrong) := goodIn_app (goodIn_of _ (by decide +kernel)) ggX14_freeAt_X14_isWrong
theorem dX14_freeAt_0 : decode cX14_freeAt 0 = .ok (.aload_n 0, 1) := by decide +kernel
theorem dX14_freeAt_1 : decode cX14_freeAt 1 = .ok (.iload_n 1, 1) := by decide +kernel
theorem dX14_freeAt_2 : decode cX14_freeAt 2 = .ok (.iconst 0, 1) := by decide +kernel
theorem dX14_freeAt_3 : decode cX14_freeAt 3 = .ok (.iconst 3, 1) := by decide +kernel
theorem dX14_freeAt_4 : decode cX14_freeAt 4 = .ok (.invokestatic 69, 3) := by decide +kernel
theorem dX14_freeAt_7 : decode cX14_freeAt 7 = .ok (.ifCond .eq 7, 3) := by decide +kernel
theorem dX14_freeAt_10 : decode cX14_freeAt 10 = .ok (.iconst 0, 1) := by decide +kernel
theorem dX14_freeAt_11 : decode cX14_freeAt 11 = .ok (.goto 4, 3) := by decide +kernel
theorem dX14_freeAt_14 : decode cX14_freeAt 14 = .ok (.iconst 1, 1) := by decide +kernel
theorem dX14_freeAt_15 : decode cX14_freeAt 15 = .ok (.invokevirtual 73, 3) := by decide +kernel
theorem dX14_freeAt_18 : decode cX14_freeAt 18 = .ok (.ifCond .eq 7, 3) := by decide +kernel
theorem dX14_freeAt_21 : decode cX14_freeAt 21 = .ok (.iconst 0, 1) := by decide +kernel
theorem dX14_freeAt_22 : decode cX14_freeAt 22 = .ok (.goto 16, 3) := by decide +kernel
theorem dX14_freeAt_25 : decode cX14_freeAt 25 = .ok (.aload_n 0, 1) := by decide +kernel
theorem dX14_freeAt_26 : decode cX14_freeAt 26 = .ok (.getfield 191, 3) := by decide +kernel
theorem dX14_freeAt_29 : decode cX14_freeAt 29 = .ok (.aload_n 0, 1) := by decide +kernel
theorem dX14_freeAt_30 : decode cX14_freeAt 30 = .ok (.getfield 38, 3) := by decide +kernel
theorem dX14_freeAt_33 : decode cX14_freeAt 33 = .ok (.iload_n 1, 1) := by decide +kernel
theorem dX14_freeAt_34 : decode cX14_freeAt 34 = .ok (.iaload, 1) := by decide +kernel
theorem dX14_freeAt_35 : decode cX14_freeAt 35 = .ok (.invokestatic 224, 3) := by decide +kernel
theorem dX14_freeAt_38 : decode cX14_freeAt 38 = .ok (.ireturn, 1) := by decide +kernel
set_option maxRecDepth 20000 in
theorem ggX14_module_X14_isBetween : GoodIn wsX14_module wsX14_isBetween := goodIn_r _ [11] (by decide +kernel) (by decide +kernel)
set_option maxRecDepth 20000 in
theorem gX14_module_X14_isBetween : GoodIn wsX14_module (va_wsS RX14 69 yX14_isBetween wsX14_isBetween) := goodIn_app (goodIn_of _ (by decide +kernel)) ggX14_module_X14_isBetween
set_option maxRecDepth 20000 in
theorem ggX14_module_X14_isWrong : GoodIn wsX14_module wsX14_isWrong := goodIn_r _ [15, 16, 206, 207, 208, 209, 210, 211, 212, 213, 214, 215, 216, 217, 218, 219, 220, 221, 222, 223, 224, 225, 226] (by decide +kernel) (by decide +kernel)
set_option maxRecDepth 20000 in
theorem gX14_module_X14_isWrong : GoodIn wsX14_module (wsV RX14 73 RX14 yX14_isWrong wsX14_isWrong) := goodIn_app (goodIn_of _ (by decide +kernel)) ggX14_module_X14_isWrong
set_option maxRecDepth 20000 in
theorem ggX14_module_Jx4a65c_init_da8c8 : GoodIn wsX14_module wsJx4a65c_init_da8c8 := goodIn_r _ [19, 20, 21, 22, 23, 24, 25, 26, 27, 28, 29, 30, 31, 32, 33, 203, 204, 205] (by decide +kernel) (by decide +kernel)
set_option maxRecDepth 20000 in
theorem gX14_module_Jx4a65c_init_da8c8 : GoodIn wsX14_module (wsJx4a65c_init_da8c8) := ggX14_module_Jx4a65c_init_da8c8
set_option maxRecDepth 20000 in
theorem ggX14_module_Jx4a65c_size_8abf5 : GoodIn wsX14_module wsJx4a65c_size_8abf5 := goodIn_r _ [37, 38, 203, 204, 205] (by decide +kernel) (by decide +kernel)
set_option maxRecDepth 20000 in
theorem gX14_module_Jx4a65c_size_8abf5_f63Jx4a65c : GoodIn wsX14_module (va_wsF RX14 63 RJx4a65c ⟨"java/util/List", "size", "()I"⟩ yJx4a65c_size_8abf5 wsJx4a65c_size_8abf5) := goodIn_app (goodIn_of _ (by decide +kernel)) ggX14_module_Jx4a65c_size_8abf5
theorem dX14_module_0 : decode cX14_module 0 = .ok (.aload_n 0, 1) := by decide +kernel
theorem dX14_module_1 : decode cX14_module 1 = .ok (.iload_n 1, 1) := by decide +kernel
theorem dX14_module_2 : decode cX14_module 2 = .ok (.iconst 2, 1) := by decide +kernel
theorem dX14_module_3 : decode cX14_module 3 = .ok (.bipush 6, 2) := by decide +kernel
theorem dX14_module_5 : decode cX14_module 5 = .ok (.invokestatic 69, 3) := by decide +kernel
theorem dX14_module_8 : decode cX14_module 8 = .ok (.ifCond .eq 15, 3) := by decide +kernel
theorem dX14_module_11 : decode cX14_module 11 = .ok (.iload_n 2, 1) := by decide +kernel
theorem dX14_module_12 : decode cX14_module 12 = .ok (.bipush 97, 2) := by decide +kernel
theorem dX14_module_14 : decode cX14_module 14 = .ok (.if_icmp .eq 13, 3) := by decide +kernel
theorem dX14_module_17 : decode cX14_module 17 = .ok (.iload_n 2, 1) := by decide +kernel
theorem dX14_module_18 : decode cX14_module 18 = .ok (.bipush 98, 2) := by decide +kernel
theorem dX14_module_20 : decode cX14_module 20 = .ok (.if_icmp .eq 7, 3) := by decide +kernel
theorem dX14_module_23 : decode cX14_module 23 = .ok (.iconst 1, 1) := by decide +kernel
theorem dX14_module_24 : decode cX14_module 24 = .ok (.goto 4, 3) := by decide +kernel
theorem dX14_module_27 : decode cX14_module 27 = .ok (.iconst 0, 1) := by decide +kernel
theorem dX14_module_28 : decode cX14_module 28 = .ok (.invokevirtual 73, 3) := by decide +kernel
theorem dX14_module_31 : decode cX14_module 31 = .ok (.ifCond .eq 5, 3) := by decide +kernel
theorem dX14_module_34 : decode cX14_module 34 = .ok (.iconst 0, 1) := by decide +kernel
theorem dX14_module_35 : decode cX14_module 35 = .ok (.ireturn, 1) := by decide +kernel
theorem dX14_module_36 : decode cX14_module 36 = .ok (.new 7, 3) := by decide +kernel
theorem dX14_module_39 : decode cX14_module 39 = .ok (.dup, 1) := by decide +kernel
theorem dX14_module_40 : decode cX14_module 40 = .ok (.invokespecial 9, 3) := by decide +kernel
theorem dX14_module_43 : decode cX14_module 43 = .ok (.astore_n 3, 1) := by decide +kernel
theorem dX14_module_44 : decode cX14_module 44 = .ok (.iconst 0, 1) := by decide +kernel
theorem dX14_module_45 : decode cX14_module 45 = .ok (.istore 4, 2) := by decide +kernel
theorem dX14_module_47 : decode cX14_module 47 = .ok (.iload 4, 2) := by decide +kernel
theorem dX14_module_49 : decode cX14_module 49 = .ok (.aload_n 0, 1) := by decide +kernel
theorem dX14_module_50 : decode cX14_module 50 = .ok (.getfield 29, 3) := by decide +kernel
theorem dX14_module_53 : decode cX14_module 53 = .ok (.invokeinterface 63 1, 5) := by decide +kernel
theorem dX14_module_58 : decode cX14_module 58 = .ok (.if_icmp .ge 65, 3) := by decide +kernel
theorem dX14_module_123 : decode cX14_module 123 = .ok (.aload_n 0, 1) := by decide +kernel
theorem dX14_module_124 : decode cX14_module 124 = .ok (.aload_n 3, 1) := by decide +kernel
theorem dX14_module_125 : decode cX14_module 125 = .ok (.invokeinterface 63 1, 5) := by decide +kernel
theorem dX14_module_130 : decode cX14_module 130 = .ok (.iload_n 1, 1) := by decide +kernel
theorem dX14_module_131 : decode cX14_module 131 = .ok (.if_icmp .ge 7, 3) := by decide +kernel
theorem dX14_module_134 : decode cX14_module 134 = .ok (.iconst 2, 1) := by decide +kernel
theorem dX14_module_135 : decode cX14_module 135 = .ok (.goto 22, 3) := by decide +kernel
theorem dX14_module_157 : decode cX14_module 157 = .ok (.invokevirtual 73, 3) := by decide +kernel
theorem dX14_module_160 : decode cX14_module 160 = .ok (.ifCond .eq 5, 3) := by decide +kernel
theorem dX14_module_163 : decode cX14_module 163 = .ok (.iconst 0, 1) := by decide +kernel
theorem dX14_module_164 : decode cX14_module 164 = .ok (.ireturn, 1) := by decide +kernel
set_option maxRecDepth 20000 in
theorem ggX14_coversAgain_Jx4a65c_iterator_32c93 : GoodIn wsX14_coversAgain wsJx4a65c_iterator_32c93 := goodIn_r _ [7, 8, 9, 10, 11, 12, 13, 14, 15, 16, 17, 18, 19, 20, 21, 106, 107, 108, 109, 110, 111, 112] (by decide +kernel) (by decide +kernel)
set_option maxRecDepth 20000 in
theorem gX14_coversAgain_Jx4a65c_iterator_32c93_f231Jx4a65c : GoodIn wsX14_coversAgain (va_wsF RX14 231 RJx4a65c ⟨"java/util/List", "iterator", "()Ljava/util/Iterator;"⟩ yJx4a65c_iterator_32c93 wsJx4a65c_iterator_32c93) := goodIn_app (goodIn_of _ (by decide +kernel)) ggX14_coversAgain_Jx4a65c_iterator_32c93
set_option maxRecDepth 20000 in
theorem ggX14_coversAgain_Jx35411_hasNext_aae02 : GoodIn wsX14_coversAgain wsJx35411_hasNext_aae02 := goodIn_r _ [25, 26, 14, 106, 107, 108, 109, 110, 111, 112] (by decide +kernel) (by decide +kernel)
set_option maxRecDepth 20000 in
theorem gX14_coversAgain_Jx35411_hasNext_aae02_f235Jx35411 : GoodIn wsX14_coversAgain (va_wsF RX14 235 RJx35411 ⟨"java/util/Iterator", "hasNext", "()Z"⟩ yJx35411_hasNext_aae02 wsJx35411_hasNext_aae02) := goodIn_app (goodIn_of _ (by decide +kernel)) ggX14_coversAgain_Jx35411_hasNext_aae02
theorem dX14_coversAgain_0 : decode cX14_coversAgain 0 = .ok (.aload_n 0, 1) := by decide +kernel
theorem dX14_coversAgain_1 : decode cX14_coversAgain 1 = .ok (.getfield 29, 3) := by decide +kernel
theorem dX14_coversAgain_4 : decode cX14_coversAgain 4 = .ok (.invokeinterface 231 1, 5) := by decide +kernel
theorem dX14_coversAgain_9 : decode cX14_coversAgain 9 = .ok (.astore_n 1, 1) := by decide +kernel
theorem dX14_coversAgain_10 : decode cX14_coversAgain 10 = .ok (.aload_n 1, 1) := by decide +kernel
theorem dX14_coversAgain_11 : decode cX14_coversAgain 11 = .ok (.invokeinterface 235 1, 5) := by decide +kernel
theorem dX14_coversAgain_16 : decode cX14_coversAgain 16 = .ok (.ifCond .eq 30, 3) := by decide +kernel
theorem dX14_coversAgain_46 : decode cX14_coversAgain 46 = .ok (.return_, 1) := by decide +kernel
set_option maxRecDepth 20000 in
theorem ggX14_doubtAll_X14_isOf : GoodIn wsX14_doubtAll wsX14_isOf := goodIn_r _ [7, 8, 9, 10, 11, 12, 13, 14, 15, 6, 16, 162, 163, 164] (by decide +kernel) (by decide +kernel)
set_option maxRecDepth 20000 in
theorem gX14_doubtAll_X14_isOf : GoodIn wsX14_doubtAll (va_wsS RX14 81 yX14_isOf wsX14_isOf) := goodIn_app (goodIn_of _ (by decide +kernel)) ggX14_doubtAll_X14_isOf
set_option maxRecDepth 20000 in
theorem ggX14_doubtAll_Jx4a65c_size_8abf5 : GoodIn wsX14_doubtAll wsJx4a65c_size_8abf5 := goodIn_r _ [12, 13, 162, 163, 164] (by decide +kernel) (by decide +kernel)
set_option maxRecDepth 20000 in
theorem gX14_doubtAll_Jx4a65c_size_8abf5_f63Jx4a65c : GoodIn wsX14_doubtAll (va_wsF RX14 63 RJx4a65c ⟨"java/util/List", "size", "()I"⟩ yJx4a65c_size_8abf5 wsJx4a65c_size_8abf5) := goodIn_app (goodIn_of _ (by decide +kernel)) ggX14_doubtAll_Jx4a65c_size_8abf5
set_option maxRecDepth 20000 in
theorem ggX14_doubtAll_X14_isWrong : GoodIn wsX14_doubtAll wsX14_isWrong := goodIn_r _ [20, 21, 141, 142, 143, 144, 145, 146, 147, 148, 149, 150, 151, 152, 153, 154, 155, 156, 157, 158, 159, 160, 161] (by decide +kernel) (by decide +kernel)
set_option maxRecDepth 20000 in
theorem gX14_doubtAll_X14_isWrong : GoodIn wsX14_doubtAll (wsV RX14 73 RX14 yX14_isWrong wsX14_isWrong) := goodIn_app (goodIn_of _ (by decide +kernel)) ggX14_doubtAll_X14_isWrong
set_option maxRecDepth 20000 in
theorem ggX14_doubtAll_Jx4a65c_add_9ea2d : GoodIn wsX14_doubtAll wsJx4a65c_add_9ea2d := goodIn_r _ [25, 26, 27, 28, 13, 29, 30, 31, 11, 32, 33, 34, 35, 36, 37, 38, 39, 40, 41, 42, 43, 44, 45, 46, 47, 48, 49, 50, 51, 52, 53, 54, 55, 56, 57, 58, 59, 60, 61, 62, 63, 64, 65, 66, 67, 68, 69, 70, 71, 72, 73, 74, 75, 162, 163, 164] (by decide +kernel) (by decide +kernel)
set_option maxRecDepth 20000 in
theorem gX14_doubtAll_Jx4a65c_add_9ea2d_f77Jx4a65c : GoodIn wsX14_doubtAll (va_wsF RX14 77 RJx4a65c ⟨"java/util/List", "add", "(Ljava/lang/Object;)Z"⟩ yJx4a65c_add_9ea2d wsJx4a65c_add_9ea2d) := goodIn_app (goodIn_of _ (by decide +kernel)) ggX14_doubtAll_Jx4a65c_add_9ea2d
set_option maxRecDepth 20000 in
theorem ggX14_doubtAll_X14_coversAgain : GoodIn wsX14_doubtAll wsX14_coversAgain := goodIn_ca (goodIn_r _ [79, 80, 81, 82, 83, 84, 11, 85, 86, 87, 88, 89, 90, 91, 92, 93, 94, 95, 96, 97, 27, 98, 99, 100, 101, 102, 103, 104, 105, 106, 107, 108, 109, 110, 111, 112, 113, 114, 115, 6, 116, 2, 117, 118, 119, 120, 121, 122, 123, 124, 125, 126, 127, 128, 13, 129, 130, 131, 132, 133, 134, 135, 136, 137, 138, 139, 140, 28, 141, 142, 143, 144, 145, 146, 147, 148, 149, 150, 151, 152, 153, 154, 155, 156, 157, 158, 159, 160, 161, 165, 166, 167, 168, 169, 170, 171, 172, 173, 174, 175, 176, 177, 178, 179, 180, 181, 182, 183, 184, 185, 162, 163, 164, 186, 187, 188, 189, 190, 191] (by decide +kernel) (by decide +kernel)) (goodIn_sub (fun _ h => List.mem_cons_of_mem _ (List.mem_append_right _ h)) (by decide +kernel))
set_option maxRecDepth 20000 in
theorem gX14_doubtAll_X14_coversAgain : GoodIn wsX14_doubtAll (wsV RX14 185 RX14 yX14_coversAgain wsX14_coversAgain) := goodIn_app (goodIn_of _ (by decide +kernel)) ggX14_doubtAll_X14_coversAgain
theorem dX14_doubtAll_0 : decode cX14_doubtAll 0 = .ok (.aload_n 0, 1) := by decide +kernel
theorem dX14_doubtAll_1 : decode cX14_doubtAll 1 = .ok (.iload_n 1, 1) := by decide +kernel
theorem dX14_doubtAll_2 : decode cX14_doubtAll 2 = .ok (.ifCond .eq 18, 3) := by decide +kernel
theorem dX14_doubtAll_5 : decode cX14_doubtAll 5 = .ok (.aload_n 0, 1) := by decide +kernel
theorem dX14_doubtAll_6 : decode cX14_doubtAll 6 = .ok (.getfield 10, 3) := by decide +kernel
theorem dX14_doubtAll_9 : decode cX14_doubtAll 9 = .ok (.iload_n 2, 1) := by decide +kernel
theorem dX14_doubtAll_10 : decode cX14_doubtAll 10 = .ok (.invokestatic 81, 3) := by decide +kernel
theorem dX14_doubtAll_13 : decode cX14_doubtAll 13 = .ok (.ifCond .ne 7, 3) := by decide +kernel
theorem dX14_doubtAll_16 : decode cX14_doubtAll 16 = .ok (.iconst 1, 1) := by decide +kernel
theorem dX14_doubtAll_17 : decode cX14_doubtAll 17 = .ok (.goto 34, 3) := by decide +kernel
theorem dX14_doubtAll_20 : decode cX14_doubtAll 20 = .ok (.iload_n 1, 1) := by decide +kernel
theorem dX14_doubtAll_21 : decode cX14_doubtAll 21 = .ok (.ifCond .ne 11, 3) := by decide +kernel
theorem dX14_doubtAll_24 : decode cX14_doubtAll 24 = .ok (.iload_n 2, 1) := by decide +kernel
theorem dX14_doubtAll_25 : decode cX14_doubtAll 25 = .ok (.ifCond .ge 7, 3) := by decide +kernel
theorem dX14_doubtAll_28 : decode cX14_doubtAll 28 = .ok (.iconst 2, 1) := by decide +kernel
theorem dX14_doubtAll_29 : decode cX14_doubtAll 29 = .ok (.goto 22, 3) := by decide +kernel
theorem dX14_doubtAll_32 : decode cX14_doubtAll 32 = .ok (.aload_n 0, 1) := by decide +kernel
theorem dX14_doubtAll_33 : decode cX14_doubtAll 33 = .ok (.getfield 57, 3) := by decide +kernel
theorem dX14_doubtAll_36 : decode cX14_doubtAll 36 = .ok (.invokeinterface 63 1, 5) := by decide +kernel
theorem dX14_doubtAll_41 : decode cX14_doubtAll 41 = .ok (.bipush 8, 2) := by decide +kernel
theorem dX14_doubtAll_43 : decode cX14_doubtAll 43 = .ok (.if_icmp .ne 7, 3) := by decide +kernel
theorem dX14_doubtAll_50 : decode cX14_doubtAll 50 = .ok (.iconst 0, 1) := by decide +kernel
theorem dX14_doubtAll_51 : decode cX14_doubtAll 51 = .ok (.invokevirtual 73, 3) := by decide +kernel
theorem dX14_doubtAll_54 : decode cX14_doubtAll 54 = .ok (.ifCond .eq 5, 3) := by decide +kernel
theorem dX14_doubtAll_57 : decode cX14_doubtAll 57 = .ok (.iconst 0, 1) := by decide +kernel
theorem dX14_doubtAll_58 : decode cX14_doubtAll 58 = .ok (.ireturn, 1) := by decide +kernel
theorem dX14_doubtAll_59 : decode cX14_doubtAll 59 = .ok (.aload_n 0, 1) := by decide +kernel
theorem dX14_doubtAll_60 : decode cX14_doubtAll 60 = .ok (.getfield 57, 3) := by decide +kernel
theorem dX14_doubtAll_63 : decode cX14_doubtAll 63 = .ok (.iconst 4, 1) := by decide +kernel
theorem dX14_doubtAll_64 : decode cX14_doubtAll 64 = .ok (.newarray .int, 2) := by decide +kernel
theorem dX14_doubtAll_66 : decode cX14_doubtAll 66 = .ok (.dup, 1) := by decide +kernel
theorem dX14_doubtAll_67 : decode cX14_doubtAll 67 = .ok (.iconst 0, 1) := by decide +kernel
theorem dX14_doubtAll_68 : decode cX14_doubtAll 68 = .ok (.iload_n 1, 1) := by decide +kernel
theorem dX14_doubtAll_69 : decode cX14_doubtAll 69 = .ok (.ifCond .eq 7, 3) := by decide +kernel
theorem dX14_doubtAll_76 : decode cX14_doubtAll 76 = .ok (.iconst 2, 1) := by decide +kernel
theorem dX14_doubtAll_77 : decode cX14_doubtAll 77 = .ok (.iastore, 1) := by decide +kernel
theorem dX14_doubtAll_78 : decode cX14_doubtAll 78 = .ok (.dup, 1) := by decide +kernel
theorem dX14_doubtAll_79 : decode cX14_doubtAll 79 = .ok (.iconst 1, 1) := by decide +kernel
theorem dX14_doubtAll_80 : decode cX14_doubtAll 80 = .ok (.iload_n 2, 1) := by decide +kernel
theorem dX14_doubtAll_81 : decode cX14_doubtAll 81 = .ok (.iastore, 1) := by decide +kernel
theorem dX14_doubtAll_82 : decode cX14_doubtAll 82 = .ok (.dup, 1) := by decide +kernel
theorem dX14_doubtAll_83 : decode cX14_doubtAll 83 = .ok (.iconst 2, 1) := by decide +kernel
theorem dX14_doubtAll_84 : decode cX14_doubtAll 84 = .ok (.iconst 0, 1) := by decide +kernel
theorem dX14_doubtAll_85 : decode cX14_doubtAll 85 = .ok (.iastore, 1) := by decide +kernel
theorem dX14_doubtAll_86 : decode cX14_doubtAll 86 = .ok (.dup, 1) := by decide +kernel
theorem dX14_doubtAll_87 : decode cX14_doubtAll 87 = .ok (.iconst 3, 1) := by decide +kernel
theorem dX14_doubtAll_88 : decode cX14_doubtAll 88 = .ok (.iconst 0, 1) := by decide +kernel
theorem dX14_doubtAll_89 : decode cX14_doubtAll 89 = .ok (.iastore, 1) := by decide +kernel
theorem dX14_doubtAll_90 : decode cX14_doubtAll 90 = .ok (.invokeinterface 77 2, 5) := by decide +kernel
theorem dX14_doubtAll_95 : decode cX14_doubtAll 95 = .ok (.pop, 1) := by decide +kernel
theorem dX14_doubtAll_96 : decode cX14_doubtAll 96 = .ok (.aload_n 0, 1) := by decide +kernel
theorem dX14_doubtAll_97 : decode cX14_doubtAll 97 = .ok (.invokevirtual 185, 3) := by decide +kernel
theorem dX14_doubtAll_100 : decode cX14_doubtAll 100 = .ok (.aload_n 0, 1) := by decide +kernel
theorem dX14_doubtAll_101 : decode cX14_doubtAll 101 = .ok (.getfield 57, 3) := by decide +kernel
theorem dX14_doubtAll_104 : decode cX14_doubtAll 104 = .ok (.invokeinterface 63 1, 5) := by decide +kernel
theorem dX14_doubtAll_109 : decode cX14_doubtAll 109 = .ok (.iconst 1, 1) := by decide +kernel
theorem dX14_doubtAll_110 : decode cX14_doubtAll 110 = .ok (.isub, 1) := by decide +kernel
theorem dX14_doubtAll_111 : decode cX14_doubtAll 111 = .ok (.ireturn, 1) := by decide +kernel
set_option maxRecDepth 20000 in
theorem ggX14_readyShare_Jx4a65c_iterator_32c93 : GoodIn wsX14_readyShare wsJx4a65c_iterator_32c93 := goodIn_r _ [7, 8, 9, 10, 11, 12, 13, 14, 15, 16, 17, 18, 19, 20, 21, 77, 78, 79, 80, 81, 82, 83] (by decide +kernel) (by decide +kernel)
set_option maxRecDepth 20000 in
theorem gX14_readyShare_Jx4a65c_iterator_32c93_f231Jx4a65c : GoodIn wsX14_readyShare (va_wsF RX14 231 RJx4a65c ⟨"java/util/List", "iterator", "()Ljava/util/Iterator;"⟩ yJx4a65c_iterator_32c93 wsJx4a65c_iterator_32c93) := goodIn_app (goodIn_of _ (by decide +kernel)) ggX14_readyShare_Jx4a65c_iterator_32c93
set_option maxRecDepth 20000 in
theorem ggX14_readyShare_Jx35411_hasNext_aae02 : GoodIn wsX14_readyShare wsJx35411_hasNext_aae02 := goodIn_r _ [25, 26, 14, 77, 78, 79, 80, 81, 82, 83] (by decide +kernel) (by decide +kernel)
set_option maxRecDepth 20000 in
theorem gX14_readyShare_Jx35411_hasNext_aae02_f235Jx35411 : GoodIn wsX14_readyShare (va_wsF RX14 235 RJx35411 ⟨"java/util/Iterator", "hasNext", "()Z"⟩ yJx35411_hasNext_aae02 wsJx35411_hasNext_aae02) := goodIn_app (goodIn_of _ (by decide +kernel)) ggX14_readyShare_Jx35411_hasNext_aae02
set_option maxRecDepth 20000 in
theorem ggX14_readyShare_Jx4a65c_isEmpty_aae02 : GoodIn wsX14_readyShare wsJx4a65c_isEmpty_aae02 := goodIn_r _ [45, 46, 81, 82, 83] (by decide +kernel) (by decide +kernel)
set_option maxRecDepth 20000 in
theorem gX14_readyShare_Jx4a65c_isEmpty_aae02_f356Jx4a65c : GoodIn wsX14_readyShare (va_wsF RX14 356 RJx4a65c ⟨"java/util/List", "isEmpty", "()Z"⟩ yJx4a65c_isEmpty_aae02 wsJx4a65c_isEmpty_aae02) := goodIn_app (goodIn_of _ (by decide +kernel)) ggX14_readyShare_Jx4a65c_isEmpty_aae02
set_option maxRecDepth 20000 in
theorem ggX14_readyShare_X14_isWrong : GoodIn wsX14_readyShare wsX14_isWrong := goodIn_r _ [50, 51, 56, 57, 58, 59, 60, 61, 62, 63, 64, 65, 66, 67, 68, 69, 70, 71, 72, 73, 74, 75, 76] (by decide +kernel) (by decide +kernel)
set_option maxRecDepth 20000 in
theorem gX14_readyShare_X14_isWrong : GoodIn wsX14_readyShare (wsV RX14 73 RX14 yX14_isWrong wsX14_isWrong) := goodIn_app (goodIn_of _ (by decide +kernel)) ggX14_readyShare_X14_isWrong
theorem dX14_readyShare_0 : decode cX14_readyShare 0 = .ok (.iconst 0, 1) := by decide +kernel
theorem dX14_readyShare_1 : decode cX14_readyShare 1 = .ok (.istore_n 1, 1) := by decide +kernel
theorem dX14_readyShare_2 : decode cX14_readyShare 2 = .ok (.aload_n 0, 1) := by decide +kernel
theorem dX14_readyShare_3 : decode cX14_readyShare 3 = .ok (.getfield 29, 3) := by decide +kernel
theorem dX14_readyShare_6 : decode cX14_readyShare 6 = .ok (.invokeinterface 231 1, 5) := by decide +kernel
theorem dX14_readyShare_11 : decode cX14_readyShare 11 = .ok (.astore_n 2, 1) := by decide +kernel
theorem dX14_readyShare_12 : decode cX14_readyShare 12 = .ok (.aload_n 2, 1) := by decide +kernel
theorem dX14_readyShare_13 : decode cX14_readyShare 13 = .ok (.invokeinterface 235 1, 5) := by decide +kernel
theorem dX14_readyShare_18 : decode cX14_readyShare 18 = .ok (.ifCond .eq 32, 3) := by decide +kernel
theorem dX14_readyShare_50 : decode cX14_readyShare 50 = .ok (.aload_n 0, 1) := by decide +kernel
theorem dX14_readyShare_51 : decode cX14_readyShare 51 = .ok (.aload_n 0, 1) := by decide +kernel
theorem dX14_readyShare_52 : decode cX14_readyShare 52 = .ok (.getfield 29, 3) := by decide +kernel
theorem dX14_readyShare_55 : decode cX14_readyShare 55 = .ok (.invokeinterface 356 1, 5) := by decide +kernel
theorem dX14_readyShare_60 : decode cX14_readyShare 60 = .ok (.ifCond .eq 7, 3) := by decide +kernel
theorem dX14_readyShare_63 : decode cX14_readyShare 63 = .ok (.iconst 1, 1) := by decide +kernel
theorem dX14_readyShare_64 : decode cX14_readyShare 64 = .ok (.goto 4, 3) := by decide +kernel
theorem dX14_readyShare_68 : decode cX14_readyShare 68 = .ok (.invokevirtual 73, 3) := by decide +kernel
theorem dX14_readyShare_71 : decode cX14_readyShare 71 = .ok (.ifCond .eq 7, 3) := by decide +kernel
theorem dX14_readyShare_74 : decode cX14_readyShare 74 = .ok (.fconst 0, 1) := by decide +kernel
theorem dX14_readyShare_75 : decode cX14_readyShare 75 = .ok (.goto 16, 3) := by decide +kernel
theorem dX14_readyShare_91 : decode cX14_readyShare 91 = .ok (.freturn, 1) := by decide +kernel
set_option maxRecDepth 20000 in
theorem ggX14_meanHold_Jx4a65c_iterator_32c93 : GoodIn wsX14_meanHold wsJx4a65c_iterator_32c93 := goodIn_r _ [7, 8, 9, 10, 11, 12, 13, 14, 15, 16, 17, 18, 19, 20, 21, 89, 90, 91, 92, 93, 94, 95] (by decide +kernel) (by decide +kernel)
set_option maxRecDepth 20000 in
theorem gX14_meanHold_Jx4a65c_iterator_32c93_f231Jx4a65c : GoodIn wsX14_meanHold (va_wsF RX14 231 RJx4a65c ⟨"java/util/List", "iterator", "()Ljava/util/Iterator;"⟩ yJx4a65c_iterator_32c93 wsJx4a65c_iterator_32c93) := goodIn_app (goodIn_of _ (by decide +kernel)) ggX14_meanHold_Jx4a65c_iterator_32c93
set_option maxRecDepth 20000 in
theorem ggX14_meanHold_Jx35411_hasNext_aae02 : GoodIn wsX14_meanHold wsJx35411_hasNext_aae02 := goodIn_r _ [25, 26, 14, 89, 90, 91, 92, 93, 94, 95] (by decide +kernel) (by decide +kernel)
set_option maxRecDepth 20000 in
theorem gX14_meanHold_Jx35411_hasNext_aae02_f235Jx35411 : GoodIn wsX14_meanHold (va_wsF RX14 235 RJx35411 ⟨"java/util/Iterator", "hasNext", "()Z"⟩ yJx35411_hasNext_aae02 wsJx35411_hasNext_aae02) := goodIn_app (goodIn_of _ (by decide +kernel)) ggX14_meanHold_Jx35411_hasNext_aae02
set_option maxRecDepth 20000 in
theorem ggX14_meanHold_Jx4a65c_isEmpty_aae02 : GoodIn wsX14_meanHold wsJx4a65c_isEmpty_aae02 := goodIn_r _ [39, 40, 93, 94, 95] (by decide +kernel) (by decide +kernel)
set_option maxRecDepth 20000 in
theorem gX14_meanHold_Jx4a65c_isEmpty_aae02_f356Jx4a65c : GoodIn wsX14_meanHold (va_wsF RX14 356 RJx4a65c ⟨"java/util/List", "isEmpty", "()Z"⟩ yJx4a65c_isEmpty_aae02 wsJx4a65c_isEmpty_aae02) := goodIn_app (goodIn_of _ (by decide +kernel)) ggX14_meanHold_Jx4a65c_isEmpty_aae02
set_option maxRecDepth 20000 in
theorem ggX14_meanHold_X14_isWrong : GoodIn wsX14_meanHold wsX14_isWrong := goodIn_r _ [45, 46, 51, 52, 53, 54, 55, 56, 57, 58, 59, 60, 61, 62, 63, 64, 65, 66, 67, 68, 69, 70, 71] (by decide +kernel) (by decide +kernel)
set_option maxRecDepth 20000 in
theorem gX14_meanHold_X14_isWrong : GoodIn wsX14_meanHold (wsV RX14 73 RX14 yX14_isWrong wsX14_isWrong) := goodIn_app (goodIn_of _ (by decide +kernel)) ggX14_meanHold_X14_isWrong
theorem dX14_meanHold_0 : decode cX14_meanHold 0 = .ok (.iconst 0, 1) := by decide +kernel
theorem dX14_meanHold_1 : decode cX14_meanHold 1 = .ok (.istore_n 1, 1) := by decide +kernel
theorem dX14_meanHold_2 : decode cX14_meanHold 2 = .ok (.aload_n 0, 1) := by decide +kernel
theorem dX14_meanHold_3 : decode cX14_meanHold 3 = .ok (.getfield 29, 3) := by decide +kernel
theorem dX14_meanHold_6 : decode cX14_meanHold 6 = .ok (.invokeinterface 231 1, 5) := by decide +kernel
theorem dX14_meanHold_11 : decode cX14_meanHold 11 = .ok (.astore_n 2, 1) := by decide +kernel
theorem dX14_meanHold_12 : decode cX14_meanHold 12 = .ok (.aload_n 2, 1) := by decide +kernel
theorem dX14_meanHold_13 : decode cX14_meanHold 13 = .ok (.invokeinterface 235 1, 5) := by decide +kernel
theorem dX14_meanHold_18 : decode cX14_meanHold 18 = .ok (.ifCond .eq 23, 3) := by decide +kernel
theorem dX14_meanHold_41 : decode cX14_meanHold 41 = .ok (.aload_n 0, 1) := by decide +kernel
theorem dX14_meanHold_42 : decode cX14_meanHold 42 = .ok (.aload_n 0, 1) := by decide +kernel
theorem dX14_meanHold_43 : decode cX14_meanHold 43 = .ok (.getfield 29, 3) := by decide +kernel
theorem dX14_meanHold_46 : decode cX14_meanHold 46 = .ok (.invokeinterface 356 1, 5) := by decide +kernel
theorem dX14_meanHold_51 : decode cX14_meanHold 51 = .ok (.ifCond .eq 7, 3) := by decide +kernel
theorem dX14_meanHold_54 : decode cX14_meanHold 54 = .ok (.iconst 1, 1) := by decide +kernel
theorem dX14_meanHold_55 : decode cX14_meanHold 55 = .ok (.goto 4, 3) := by decide +kernel
theorem dX14_meanHold_59 : decode cX14_meanHold 59 = .ok (.invokevirtual 73, 3) := by decide +kernel
theorem dX14_meanHold_62 : decode cX14_meanHold 62 = .ok (.ifCond .eq 7, 3) := by decide +kernel
theorem dX14_meanHold_65 : decode cX14_meanHold 65 = .ok (.dconst 0, 1) := by decide +kernel
theorem dX14_meanHold_66 : decode cX14_meanHold 66 = .ok (.goto 16, 3) := by decide +kernel
theorem dX14_meanHold_82 : decode cX14_meanHold 82 = .ok (.dreturn, 1) := by decide +kernel
set_option maxRecDepth 20000 in
theorem ggX14_checksum_Jx4a65c_iterator_32c93 : GoodIn wsX14_checksum wsJx4a65c_iterator_32c93 := goodIn_r _ [10, 11, 12, 13, 14, 15, 16, 17, 18, 19, 20, 21, 22, 23, 24, 77, 78, 79, 80, 81, 82, 83] (by decide +kernel) (by decide +kernel)
set_option maxRecDepth 20000 in
theorem gX14_checksum_Jx4a65c_iterator_32c93_f231Jx4a65c : GoodIn wsX14_checksum (va_wsF RX14 231 RJx4a65c ⟨"java/util/List", "iterator", "()Ljava/util/Iterator;"⟩ yJx4a65c_iterator_32c93 wsJx4a65c_iterator_32c93) := goodIn_app (goodIn_of _ (by decide +kernel)) ggX14_checksum_Jx4a65c_iterator_32c93
set_option maxRecDepth 20000 in
theorem ggX14_checksum_Jx35411_hasNext_aae02 : GoodIn wsX14_checksum wsJx35411_hasNext_aae02 := goodIn_r _ [28, 29, 17, 77, 78, 79, 80, 81, 82, 83] (by decide +kernel) (by decide +kernel)
set_option maxRecDepth 20000 in
theorem gX14_checksum_Jx35411_hasNext_aae02_f235Jx35411 : GoodIn wsX14_checksum (va_wsF RX14 235 RJx35411 ⟨"java/util/Iterator", "hasNext", "()Z"⟩ yJx35411_hasNext_aae02 wsJx35411_hasNext_aae02) := goodIn_app (goodIn_of _ (by decide +kernel)) ggX14_checksum_Jx35411_hasNext_aae02
theorem dX14_checksum_0 : decode cX14_checksum 0 = .ok (.aload_n 0, 1) := by decide +kernel
theorem dX14_checksum_1 : decode cX14_checksum 1 = .ok (.iconst 0, 1) := by decide +kernel
theorem dX14_checksum_2 : decode cX14_checksum 2 = .ok (.putfield 60, 3) := by decide +kernel
theorem dX14_checksum_5 : decode cX14_checksum 5 = .ok (.ldc2_w 359, 3) := by decide +kernel
theorem dX14_checksum_8 : decode cX14_checksum 8 = .ok (.lstore_n 1, 1) := by decide +kernel
theorem dX14_checksum_9 : decode cX14_checksum 9 = .ok (.aload_n 0, 1) := by decide +kernel
theorem dX14_checksum_10 : decode cX14_checksum 10 = .ok (.getfield 29, 3) := by decide +kernel
theorem dX14_checksum_13 : decode cX14_checksum 13 = .ok (.invokeinterface 231 1, 5) := by decide +kernel
theorem dX14_checksum_18 : decode cX14_checksum 18 = .ok (.astore_n 3, 1) := by decide +kernel
theorem dX14_checksum_19 : decode cX14_checksum 19 = .ok (.aload_n 3, 1) := by decide +kernel
theorem dX14_checksum_20 : decode cX14_checksum 20 = .ok (.invokeinterface 235 1, 5) := by decide +kernel
theorem dX14_checksum_25 : decode cX14_checksum 25 = .ok (.ifCond .eq 52, 3) := by decide +kernel
theorem dX14_checksum_77 : decode cX14_checksum 77 = .ok (.lload_n 1, 1) := by decide +kernel
theorem dX14_checksum_78 : decode cX14_checksum 78 = .ok (.lreturn, 1) := by decide +kernel
