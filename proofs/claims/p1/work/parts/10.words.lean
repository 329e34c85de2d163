theorem we0 : Cond.instanceMethod ({ cls := "java/lang/Object", name := "<init>", desc := "()V" } : MethodName) ∈ pg_T := pg_t0 (List.mem_of_getElem? (i := 28) (by decide +kernel)) rfl
theorem we1 : Cond.code ({ cls := "java/lang/Object", name := "<init>", desc := "()V" } : MethodName) object_method_1_code (1 : Nat) (Option.none : Option FieldType) ∈ pg_T := pg_t0 (List.mem_of_getElem? (i := 29) (by decide +kernel)) rfl
theorem we2 : Cond.fieldLink "BoundedTypes$Types" (15 : Nat) "BoundedTypes$Types" "parts" "[I" ∈ pg_T := pg_t0 (List.mem_of_getElem? (i := 43) (by decide +kernel)) rfl
theorem we3 : Cond.fieldLink "BoundedTypes$Types" (11 : Nat) "BoundedTypes$Types" "classes" "[I" ∈ pg_T := pg_t0 (List.mem_of_getElem? (i := 42) (by decide +kernel)) rfl
theorem we4 : Cond.fieldLink "BoundedTypes$Types" (18 : Nat) "BoundedTypes$Types" "held" "[I" ∈ pg_T := pg_t0 (List.mem_of_getElem? (i := 44) (by decide +kernel)) rfl
theorem we5 : Cond.initialized "BoundedTypes$Types" ∈ pg_T := pg_t0 (List.mem_of_getElem? (i := 2) (by decide +kernel)) rfl
theorem we6 : Cond.code ({ cls := "BoundedTypes$Types", name := "variableBit", desc := "(I)I" } : MethodName) prog_11_method_2_code (1 : Nat) (Option.some FieldType.int) ∈ pg_T := pg_t0 (List.mem_of_getElem? (i := 41) (by decide +kernel)) rfl
theorem we7 : Cond.methodLink "BoundedTypes$Types" (40 : Nat) ({ cls := "BoundedTypes$Types", name := "variableBit", desc := "(I)I" } : MethodName) ∈ pg_T := pg_t0 (List.mem_of_getElem? (i := 39) (by decide +kernel)) rfl
theorem we8 : Cond.static ({ cls := "BoundedTypes$Types", name := "variableBit", desc := "(I)I" } : MethodName) ∈ pg_T := pg_t0 (List.mem_of_getElem? (i := 40) (by decide +kernel)) rfl
theorem we9 : Cond.methodLink "BoundedTypes$Types" (3 : Nat) ({ cls := "java/lang/Object", name := "<init>", desc := "()V" } : MethodName) ∈ pg_T := pg_t0 (List.mem_of_getElem? (i := 35) (by decide +kernel)) rfl
theorem we10 : Cond.arrayClass FieldType.int ∈ pg_T := pg_t0 (List.mem_of_getElem? (i := 67) (by decide +kernel)) rfl
theorem we11 : Cond.fieldLink "BoundedTypes$Types" (21 : Nat) "BoundedTypes$Types" "buckets" "[I" ∈ pg_T := pg_t0 (List.mem_of_getElem? (i := 45) (by decide +kernel)) rfl
theorem we12 : Cond.fieldLink "BoundedTypes$Types" (24 : Nat) "BoundedTypes$Types" "next" "[I" ∈ pg_T := pg_t0 (List.mem_of_getElem? (i := 46) (by decide +kernel)) rfl
theorem we13 : Cond.fieldLink "BoundedTypes$Types" (27 : Nat) "BoundedTypes$Types" "heads" "[I" ∈ pg_T := pg_t0 (List.mem_of_getElem? (i := 47) (by decide +kernel)) rfl
theorem we14 : Cond.fieldLink "BoundedTypes$Types" (30 : Nat) "BoundedTypes$Types" "count" "I" ∈ pg_T := pg_t0 (List.mem_of_getElem? (i := 48) (by decide +kernel)) rfl
theorem we15 : Cond.initialized "java/util/Arrays" ∈ pg_T := pg_t0 (List.mem_of_getElem? (i := 3) (by decide +kernel)) rfl
theorem we16 : Cond.code ({ cls := "java/util/Arrays", name := "fill", desc := "([II)V" } : MethodName) prog_22_method_103_code (4 : Nat) (Option.none : Option FieldType) ∈ pg_T := pg_t0 (List.mem_of_getElem? (i := 38) (by decide +kernel)) rfl
theorem we17 : Cond.methodLink "BoundedTypes$Types" (34 : Nat) ({ cls := "java/util/Arrays", name := "fill", desc := "([II)V" } : MethodName) ∈ pg_T := pg_t0 (List.mem_of_getElem? (i := 36) (by decide +kernel)) rfl
theorem we18 : Cond.static ({ cls := "java/util/Arrays", name := "fill", desc := "([II)V" } : MethodName) ∈ pg_T := pg_t0 (List.mem_of_getElem? (i := 37) (by decide +kernel)) rfl
theorem we19 : Cond.methodLink "BoundedTypes$Code" (3 : Nat) ({ cls := "java/lang/Object", name := "<init>", desc := "()V" } : MethodName) ∈ pg_T := pg_t0 (List.mem_of_getElem? (i := 73) (by decide +kernel)) rfl
theorem we20 : Cond.fieldLink "BoundedTypes$Code" (11 : Nat) "BoundedTypes$Code" "kinds" "[I" ∈ pg_T := pg_t0 (List.mem_of_getElem? (i := 74) (by decide +kernel)) rfl
theorem we21 : Cond.fieldLink "BoundedTypes$Code" (15 : Nat) "BoundedTypes$Code" "subjects" "[I" ∈ pg_T := pg_t0 (List.mem_of_getElem? (i := 77) (by decide +kernel)) rfl
theorem we22 : Cond.fieldLink "BoundedTypes$Code" (18 : Nat) "BoundedTypes$Code" "amounts" "[I" ∈ pg_T := pg_t0 (List.mem_of_getElem? (i := 80) (by decide +kernel)) rfl
theorem we23 : Cond.fieldLink "BoundedTypes$Code" (21 : Nat) "BoundedTypes$Code" "lists" "[I" ∈ pg_T := pg_t0 (List.mem_of_getElem? (i := 83) (by decide +kernel)) rfl
theorem we24 : Cond.methodLink "BoundedTypes$Bounds" (3 : Nat) ({ cls := "java/lang/Object", name := "<init>", desc := "()V" } : MethodName) ∈ pg_T := pg_t0 (List.mem_of_getElem? (i := 113) (by decide +kernel)) rfl
theorem we25 : Cond.fieldLink "BoundedTypes$Bounds" (9 : Nat) "BoundedTypes$Bounds" "variables" "[I" ∈ pg_T := pg_t0 (List.mem_of_getElem? (i := 114) (by decide +kernel)) rfl
theorem we26 : Cond.fieldLink "BoundedTypes$Bounds" (15 : Nat) "BoundedTypes$Bounds" "types" "[I" ∈ pg_T := pg_t0 (List.mem_of_getElem? (i := 116) (by decide +kernel)) rfl
theorem we27 : Cond.methodLink "java/util/AbstractCollection" (1 : Nat) ({ cls := "java/lang/Object", name := "<init>", desc := "()V" } : MethodName) ∈ pg_T := pg_t0 (List.mem_of_getElem? (i := 146) (by decide +kernel)) rfl
theorem we28 : Cond.initialized "java/util/AbstractCollection" ∈ pg_T := pg_t0 (List.mem_of_getElem? (i := 8) (by decide +kernel)) rfl
theorem we29 : Cond.code ({ cls := "java/util/AbstractCollection", name := "<init>", desc := "()V" } : MethodName) prog_19_method_1_code (1 : Nat) (Option.none : Option FieldType) ∈ pg_T := pg_t0 (List.mem_of_getElem? (i := 145) (by decide +kernel)) rfl
theorem we30 : Cond.methodLink "java/util/AbstractList" (1 : Nat) ({ cls := "java/util/AbstractCollection", name := "<init>", desc := "()V" } : MethodName) ∈ pg_T := pg_t0 (List.mem_of_getElem? (i := 143) (by decide +kernel)) rfl
theorem we31 : Cond.instanceMethod ({ cls := "java/util/AbstractCollection", name := "<init>", desc := "()V" } : MethodName) ∈ pg_T := pg_t0 (List.mem_of_getElem? (i := 144) (by decide +kernel)) rfl
theorem we32 : Cond.fieldLink "java/util/AbstractList" (7 : Nat) "java/util/AbstractList" "modCount" "I" ∈ pg_T := pg_t0 (List.mem_of_getElem? (i := 151) (by decide +kernel)) rfl
theorem we33 : Cond.initialized "java/util/AbstractList" ∈ pg_T := pg_t0 (List.mem_of_getElem? (i := 9) (by decide +kernel)) rfl
theorem we34 : Cond.code ({ cls := "java/util/AbstractList", name := "<init>", desc := "()V" } : MethodName) prog_20_method_1_code (1 : Nat) (Option.none : Option FieldType) ∈ pg_T := pg_t0 (List.mem_of_getElem? (i := 142) (by decide +kernel)) rfl
theorem we35 : Cond.methodLink "java/util/ArrayList" (1 : Nat) ({ cls := "java/util/AbstractList", name := "<init>", desc := "()V" } : MethodName) ∈ pg_T := pg_t0 (List.mem_of_getElem? (i := 140) (by decide +kernel)) rfl
theorem we36 : Cond.instanceMethod ({ cls := "java/util/AbstractList", name := "<init>", desc := "()V" } : MethodName) ∈ pg_T := pg_t0 (List.mem_of_getElem? (i := 141) (by decide +kernel)) rfl
theorem we37 : Cond.fieldLink "java/util/ArrayList" (39 : Nat) "java/util/ArrayList" "DEFAULTCAPACITY_EMPTY_ELEMENTDATA" "[Ljava/lang/Object;" ∈ pg_T := pg_t0 (List.mem_of_getElem? (i := 147) (by decide +kernel)) rfl
theorem we38 : Cond.fieldLink "java/util/ArrayList" (9 : Nat) "java/util/ArrayList" "elementData" "[Ljava/lang/Object;" ∈ pg_T := pg_t0 (List.mem_of_getElem? (i := 149) (by decide +kernel)) rfl
theorem we39 : Cond.methodLink "BoundedTypes$Entry" (3 : Nat) ({ cls := "java/lang/Object", name := "<init>", desc := "()V" } : MethodName) ∈ pg_T := pg_t0 (List.mem_of_getElem? (i := 134) (by decide +kernel)) rfl
theorem we40 : Cond.classLink "BoundedTypes$Entry" (9 : Nat) "java/util/ArrayList" ∈ pg_T := pg_t0 (List.mem_of_getElem? (i := 135) (by decide +kernel)) rfl
theorem we41 : Cond.instantiable "java/util/ArrayList" (3 : Nat) ∈ pg_T := pg_t0 (List.mem_of_getElem? (i := 136) (by decide +kernel)) rfl
theorem we42 : Cond.initialized "java/util/ArrayList" ∈ pg_T := pg_t0 (List.mem_of_getElem? (i := 10) (by decide +kernel)) rfl
theorem we43 : Cond.code ({ cls := "java/util/ArrayList", name := "<init>", desc := "()V" } : MethodName) prog_21_method_2_code (1 : Nat) (Option.none : Option FieldType) ∈ pg_T := pg_t0 (List.mem_of_getElem? (i := 139) (by decide +kernel)) rfl
theorem we44 : Cond.methodLink "BoundedTypes$Entry" (11 : Nat) ({ cls := "java/util/ArrayList", name := "<init>", desc := "()V" } : MethodName) ∈ pg_T := pg_t0 (List.mem_of_getElem? (i := 137) (by decide +kernel)) rfl
theorem we45 : Cond.instanceMethod ({ cls := "java/util/ArrayList", name := "<init>", desc := "()V" } : MethodName) ∈ pg_T := pg_t0 (List.mem_of_getElem? (i := 138) (by decide +kernel)) rfl
theorem we46 : Cond.fieldLink "BoundedTypes$Entry" (12 : Nat) "BoundedTypes$Entry" "members" "Ljava/util/ArrayList;" ∈ pg_T := pg_t0 (List.mem_of_getElem? (i := 175) (by decide +kernel)) rfl
theorem we47 : Cond.classLink "BoundedTypes$Entry" (18 : Nat) "BoundedTypes$Member" ∈ pg_T := pg_t0 (List.mem_of_getElem? (i := 161) (by decide +kernel)) rfl
theorem we48 : Cond.arrayOver (FieldType.object "BoundedTypes$Member") ∈ pg_N := pg_n0 (List.mem_of_getElem? (i := 162) (by decide +kernel)) rfl
theorem we49 : Cond.fieldLink "BoundedTypes$Entry" (20 : Nat) "BoundedTypes$Entry" "methods" "[LBoundedTypes$Member;" ∈ pg_T := pg_t0 (List.mem_of_getElem? (i := 178) (by decide +kernel)) rfl
theorem we50 : Cond.fieldLink "BoundedTypes$Entry" (24 : Nat) "BoundedTypes$Entry" "fieldNames" "[I" ∈ pg_T := pg_t0 (List.mem_of_getElem? (i := 180) (by decide +kernel)) rfl
theorem we51 : Cond.fieldLink "BoundedTypes$Entry" (28 : Nat) "BoundedTypes$Entry" "fieldTypes" "[I" ∈ pg_T := pg_t0 (List.mem_of_getElem? (i := 181) (by decide +kernel)) rfl
theorem we52 : Cond.fieldLink "BoundedTypes$Entry" (31 : Nat) "BoundedTypes$Entry" "name" "I" ∈ pg_T := pg_t0 (List.mem_of_getElem? (i := 163) (by decide +kernel)) rfl
theorem we53 : Cond.fieldLink "BoundedTypes$Entry" (35 : Nat) "BoundedTypes$Entry" "bounds" "LBoundedTypes$Bounds;" ∈ pg_T := pg_t0 (List.mem_of_getElem? (i := 166) (by decide +kernel)) rfl
theorem we54 : Cond.fieldLink "BoundedTypes$Entry" (39 : Nat) "BoundedTypes$Entry" "above" "I" ∈ pg_T := pg_t0 (List.mem_of_getElem? (i := 169) (by decide +kernel)) rfl
theorem we55 : Cond.fieldLink "BoundedTypes$Entry" (42 : Nat) "BoundedTypes$Entry" "aboveClass" "I" ∈ pg_T := pg_t0 (List.mem_of_getElem? (i := 172) (by decide +kernel)) rfl
theorem we56 : Cond.methodLink "BoundedTypes$Rules" (3 : Nat) ({ cls := "java/lang/Object", name := "<init>", desc := "()V" } : MethodName) ∈ pg_T := pg_t0 (List.mem_of_getElem? (i := 104) (by decide +kernel)) rfl
theorem we57 : Cond.classLink "BoundedTypes$Rules" (9 : Nat) "BoundedTypes$Entry" ∈ pg_T := pg_t0 (List.mem_of_getElem? (i := 105) (by decide +kernel)) rfl
theorem we58 : Cond.arrayOver (FieldType.object "BoundedTypes$Entry") ∈ pg_N := pg_n0 (List.mem_of_getElem? (i := 106) (by decide +kernel)) rfl
theorem we59 : Cond.fieldLink "BoundedTypes$Rules" (11 : Nat) "BoundedTypes$Rules" "entries" "[LBoundedTypes$Entry;" ∈ pg_T := pg_t0 (List.mem_of_getElem? (i := 213) (by decide +kernel)) rfl
theorem we60 : Cond.fieldLink "BoundedTypes$Rules" (17 : Nat) "BoundedTypes$Rules" "scope" "[I" ∈ pg_T := pg_t0 (List.mem_of_getElem? (i := 214) (by decide +kernel)) rfl
theorem we61 : Cond.fieldLink "BoundedTypes$Rules" (21 : Nat) "BoundedTypes$Rules" "standing" "[I" ∈ pg_T := pg_t0 (List.mem_of_getElem? (i := 215) (by decide +kernel)) rfl
theorem we62 : Cond.fieldLink "BoundedTypes$Rules" (24 : Nat) "BoundedTypes$Rules" "types" "LBoundedTypes$Types;" ∈ pg_T := pg_t0 (List.mem_of_getElem? (i := 212) (by decide +kernel)) rfl
theorem we63 : Cond.instantiable "BoundedTypes$Entry" (10 : Nat) ∈ pg_T := pg_t0 (List.mem_of_getElem? (i := 107) (by decide +kernel)) rfl
theorem we64 : Cond.initialized "BoundedTypes$Entry" ∈ pg_T := pg_t0 (List.mem_of_getElem? (i := 6) (by decide +kernel)) rfl
theorem we65 : Cond.classLink "BoundedTypes$Rules" (28 : Nat) "BoundedTypes$Bounds" ∈ pg_T := pg_t0 (List.mem_of_getElem? (i := 108) (by decide +kernel)) rfl
theorem we66 : Cond.instantiable "BoundedTypes$Bounds" (3 : Nat) ∈ pg_T := pg_t0 (List.mem_of_getElem? (i := 109) (by decide +kernel)) rfl
theorem we67 : Cond.initialized "BoundedTypes$Bounds" ∈ pg_T := pg_t0 (List.mem_of_getElem? (i := 7) (by decide +kernel)) rfl
theorem we68 : Cond.code ({ cls := "BoundedTypes$Bounds", name := "<init>", desc := "()V" } : MethodName) prog_2_method_1_code (1 : Nat) (Option.none : Option FieldType) ∈ pg_T := pg_t0 (List.mem_of_getElem? (i := 112) (by decide +kernel)) rfl
theorem we69 : Cond.methodLinkNest "BoundedTypes$Rules" (30 : Nat) ({ cls := "BoundedTypes$Bounds", name := "<init>", desc := "()V" } : MethodName) "BoundedTypes" ∈ pg_N := pg_n0 (List.mem_of_getElem? (i := 110) (by decide +kernel)) rfl
theorem we70 : Cond.instanceMethod ({ cls := "BoundedTypes$Bounds", name := "<init>", desc := "()V" } : MethodName) ∈ pg_T := pg_t0 (List.mem_of_getElem? (i := 111) (by decide +kernel)) rfl
theorem we71 : Cond.code ({ cls := "BoundedTypes$Entry", name := "<init>", desc := "(ILBoundedTypes$Bounds;II)V" } : MethodName) prog_5_method_1_code (5 : Nat) (Option.none : Option FieldType) ∈ pg_T := pg_t0 (List.mem_of_getElem? (i := 133) (by decide +kernel)) rfl
theorem we72 : Cond.methodLink "BoundedTypes$Rules" (31 : Nat) ({ cls := "BoundedTypes$Entry", name := "<init>", desc := "(ILBoundedTypes$Bounds;II)V" } : MethodName) ∈ pg_T := pg_t0 (List.mem_of_getElem? (i := 131) (by decide +kernel)) rfl
theorem we73 : Cond.instanceMethod ({ cls := "BoundedTypes$Entry", name := "<init>", desc := "(ILBoundedTypes$Bounds;II)V" } : MethodName) ∈ pg_T := pg_t0 (List.mem_of_getElem? (i := 132) (by decide +kernel)) rfl
theorem we74 : Cond.methodLink "BoundedTypes$Rules" (34 : Nat) ({ cls := "java/util/Arrays", name := "fill", desc := "([II)V" } : MethodName) ∈ pg_T := pg_t0 (List.mem_of_getElem? (i := 211) (by decide +kernel)) rfl
theorem we75 : Cond.methodLink "BoundedTypes$Reader" (3 : Nat) ({ cls := "java/lang/Object", name := "<init>", desc := "()V" } : MethodName) ∈ pg_T := pg_t0 (List.mem_of_getElem? (i := 230) (by decide +kernel)) rfl
theorem we76 : Cond.arrayClass FieldType.char ∈ pg_T := pg_t0 (List.mem_of_getElem? (i := 66) (by decide +kernel)) rfl
theorem we77 : Cond.fieldLink "BoundedTypes$Reader" (9 : Nat) "BoundedTypes$Reader" "marks" "[C" ∈ pg_T := pg_t0 (List.mem_of_getElem? (i := 234) (by decide +kernel)) rfl
theorem we78 : Cond.fieldLink "BoundedTypes$Reader" (15 : Nat) "BoundedTypes$Reader" "places" "[I" ∈ pg_T := pg_t0 (List.mem_of_getElem? (i := 235) (by decide +kernel)) rfl
theorem we79 : Cond.fieldLink "BoundedTypes$Reader" (19 : Nat) "BoundedTypes$Reader" "casts" "[I" ∈ pg_T := pg_t0 (List.mem_of_getElem? (i := 238) (by decide +kernel)) rfl
theorem we80 : Cond.fieldLink "BoundedTypes$Reader" (22 : Nat) "BoundedTypes$Reader" "text" "[C" ∈ pg_T := pg_t0 (List.mem_of_getElem? (i := 231) (by decide +kernel)) rfl
theorem we81 : Cond.fieldLink "BoundedTypes$Reader" (25 : Nat) "BoundedTypes$Reader" "types" "LBoundedTypes$Types;" ∈ pg_T := pg_t0 (List.mem_of_getElem? (i := 232) (by decide +kernel)) rfl
theorem we82 : Cond.fieldLink "BoundedTypes$Reader" (29 : Nat) "BoundedTypes$Reader" "code" "LBoundedTypes$Code;" ∈ pg_T := pg_t0 (List.mem_of_getElem? (i := 233) (by decide +kernel)) rfl
theorem we83 : Cond.methodLink "BoundedTypes$Expressions" (3 : Nat) ({ cls := "java/lang/Object", name := "<init>", desc := "()V" } : MethodName) ∈ pg_T := pg_t1 (List.mem_of_getElem? (i := 27) (by decide +kernel)) rfl
theorem we84 : Cond.fieldLink "BoundedTypes$Expressions" (11 : Nat) "BoundedTypes$Expressions" "stack" "[I" ∈ pg_T := pg_t1 (List.mem_of_getElem? (i := 31) (by decide +kernel)) rfl
theorem we85 : Cond.fieldLink "BoundedTypes$Expressions" (15 : Nat) "BoundedTypes$Expressions" "awaited" "[I" ∈ pg_T := pg_t1 (List.mem_of_getElem? (i := 33) (by decide +kernel)) rfl
theorem we86 : Cond.fieldLink "BoundedTypes$Expressions" (18 : Nat) "BoundedTypes$Expressions" "types" "LBoundedTypes$Types;" ∈ pg_T := pg_t1 (List.mem_of_getElem? (i := 28) (by decide +kernel)) rfl
theorem we87 : Cond.fieldLink "BoundedTypes$Expressions" (22 : Nat) "BoundedTypes$Expressions" "code" "LBoundedTypes$Code;" ∈ pg_T := pg_t1 (List.mem_of_getElem? (i := 29) (by decide +kernel)) rfl
theorem we88 : Cond.fieldLink "BoundedTypes$Expressions" (26 : Nat) "BoundedTypes$Expressions" "rules" "LBoundedTypes$Rules;" ∈ pg_T := pg_t1 (List.mem_of_getElem? (i := 30) (by decide +kernel)) rfl
theorem we89 : Cond.methodLink "BoundedTypes$Declarations" (3 : Nat) ({ cls := "java/lang/Object", name := "<init>", desc := "()V" } : MethodName) ∈ pg_T := pg_t1 (List.mem_of_getElem? (i := 58) (by decide +kernel)) rfl
theorem we90 : Cond.fieldLink "BoundedTypes$Declarations" (9 : Nat) "BoundedTypes$Declarations" "types" "LBoundedTypes$Types;" ∈ pg_T := pg_t1 (List.mem_of_getElem? (i := 59) (by decide +kernel)) rfl
theorem we91 : Cond.fieldLink "BoundedTypes$Declarations" (15 : Nat) "BoundedTypes$Declarations" "rules" "LBoundedTypes$Rules;" ∈ pg_T := pg_t1 (List.mem_of_getElem? (i := 60) (by decide +kernel)) rfl
theorem we92 : Cond.fieldLink "BoundedTypes$Declarations" (19 : Nat) "BoundedTypes$Declarations" "expressions" "LBoundedTypes$Expressions;" ∈ pg_T := pg_t1 (List.mem_of_getElem? (i := 61) (by decide +kernel)) rfl
theorem we93 : Cond.methodLink "BoundedTypes$Machine" (5 : Nat) ({ cls := "java/lang/Object", name := "<init>", desc := "()V" } : MethodName) ∈ pg_T := pg_t1 (List.mem_of_getElem? (i := 74) (by decide +kernel)) rfl
theorem we94 : Cond.fieldLink "BoundedTypes$Machine" (11 : Nat) "BoundedTypes$Machine" "cells" "[I" ∈ pg_T := pg_t1 (List.mem_of_getElem? (i := 78) (by decide +kernel)) rfl
theorem we95 : Cond.fieldLink "BoundedTypes$Machine" (15 : Nat) "BoundedTypes$Machine" "stack" "[I" ∈ pg_T := pg_t1 (List.mem_of_getElem? (i := 80) (by decide +kernel)) rfl
theorem we96 : Cond.fieldLink "BoundedTypes$Machine" (18 : Nat) "BoundedTypes$Machine" "frames" "[I" ∈ pg_T := pg_t1 (List.mem_of_getElem? (i := 82) (by decide +kernel)) rfl
theorem we97 : Cond.fieldLink "BoundedTypes$Machine" (21 : Nat) "BoundedTypes$Machine" "text" "[C" ∈ pg_T := pg_t1 (List.mem_of_getElem? (i := 89) (by decide +kernel)) rfl
theorem we98 : Cond.fieldLink "BoundedTypes$Machine" (25 : Nat) "BoundedTypes$Machine" "openValues" "[I" ∈ pg_T := pg_t1 (List.mem_of_getElem? (i := 93) (by decide +kernel)) rfl
theorem we99 : Cond.fieldLink "BoundedTypes$Machine" (28 : Nat) "BoundedTypes$Machine" "openFields" "[I" ∈ pg_T := pg_t1 (List.mem_of_getElem? (i := 94) (by decide +kernel)) rfl
theorem we100 : Cond.fieldLink "BoundedTypes$Machine" (31 : Nat) "BoundedTypes$Machine" "types" "LBoundedTypes$Types;" ∈ pg_T := pg_t1 (List.mem_of_getElem? (i := 75) (by decide +kernel)) rfl
theorem we101 : Cond.fieldLink "BoundedTypes$Machine" (35 : Nat) "BoundedTypes$Machine" "code" "LBoundedTypes$Code;" ∈ pg_T := pg_t1 (List.mem_of_getElem? (i := 76) (by decide +kernel)) rfl
theorem we102 : Cond.fieldLink "BoundedTypes$Machine" (39 : Nat) "BoundedTypes$Machine" "rules" "LBoundedTypes$Rules;" ∈ pg_T := pg_t1 (List.mem_of_getElem? (i := 77) (by decide +kernel)) rfl
theorem we103 : Cond.methodLink "BoundedTypes" (1 : Nat) ({ cls := "java/lang/Object", name := "<init>", desc := "()V" } : MethodName) ∈ pg_T := pg_t0 (List.mem_of_getElem? (i := 27) (by decide +kernel)) rfl
theorem we104 : Cond.fieldLink "BoundedTypes" (9 : Nat) "BoundedTypes" "typed" "[C" ∈ pg_T := pg_t1 (List.mem_of_getElem? (i := 130) (by decide +kernel)) rfl
theorem we105 : Cond.classLink "BoundedTypes" (13 : Nat) "BoundedTypes$Types" ∈ pg_T := pg_t0 (List.mem_of_getElem? (i := 30) (by decide +kernel)) rfl
theorem we106 : Cond.instantiable "BoundedTypes$Types" (7 : Nat) ∈ pg_T := pg_t0 (List.mem_of_getElem? (i := 31) (by decide +kernel)) rfl
theorem we107 : Cond.code ({ cls := "BoundedTypes$Types", name := "<init>", desc := "()V" } : MethodName) prog_11_method_1_code (2 : Nat) (Option.none : Option FieldType) ∈ pg_T := pg_t0 (List.mem_of_getElem? (i := 34) (by decide +kernel)) rfl
theorem we108 : Cond.methodLink "BoundedTypes" (15 : Nat) ({ cls := "BoundedTypes$Types", name := "<init>", desc := "()V" } : MethodName) ∈ pg_T := pg_t0 (List.mem_of_getElem? (i := 32) (by decide +kernel)) rfl
theorem we109 : Cond.instanceMethod ({ cls := "BoundedTypes$Types", name := "<init>", desc := "()V" } : MethodName) ∈ pg_T := pg_t0 (List.mem_of_getElem? (i := 33) (by decide +kernel)) rfl
theorem we110 : Cond.fieldLink "BoundedTypes" (16 : Nat) "BoundedTypes" "types" "LBoundedTypes$Types;" ∈ pg_T := pg_t1 (List.mem_of_getElem? (i := 132) (by decide +kernel)) rfl
theorem we111 : Cond.classLink "BoundedTypes" (20 : Nat) "BoundedTypes$Code" ∈ pg_T := pg_t0 (List.mem_of_getElem? (i := 68) (by decide +kernel)) rfl
theorem we112 : Cond.instantiable "BoundedTypes$Code" (5 : Nat) ∈ pg_T := pg_t0 (List.mem_of_getElem? (i := 69) (by decide +kernel)) rfl
theorem we113 : Cond.initialized "BoundedTypes$Code" ∈ pg_T := pg_t0 (List.mem_of_getElem? (i := 4) (by decide +kernel)) rfl
theorem we114 : Cond.code ({ cls := "BoundedTypes$Code", name := "<init>", desc := "()V" } : MethodName) prog_3_method_1_code (1 : Nat) (Option.none : Option FieldType) ∈ pg_T := pg_t0 (List.mem_of_getElem? (i := 72) (by decide +kernel)) rfl
theorem we115 : Cond.methodLinkNest "BoundedTypes" (22 : Nat) ({ cls := "BoundedTypes$Code", name := "<init>", desc := "()V" } : MethodName) "BoundedTypes" ∈ pg_N := pg_n0 (List.mem_of_getElem? (i := 70) (by decide +kernel)) rfl
theorem we116 : Cond.instanceMethod ({ cls := "BoundedTypes$Code", name := "<init>", desc := "()V" } : MethodName) ∈ pg_T := pg_t0 (List.mem_of_getElem? (i := 71) (by decide +kernel)) rfl
theorem we117 : Cond.fieldLink "BoundedTypes" (23 : Nat) "BoundedTypes" "code" "LBoundedTypes$Code;" ∈ pg_T := pg_t1 (List.mem_of_getElem? (i := 133) (by decide +kernel)) rfl
theorem we118 : Cond.classLink "BoundedTypes" (27 : Nat) "BoundedTypes$Rules" ∈ pg_T := pg_t0 (List.mem_of_getElem? (i := 99) (by decide +kernel)) rfl
theorem we119 : Cond.instantiable "BoundedTypes$Rules" (4 : Nat) ∈ pg_T := pg_t0 (List.mem_of_getElem? (i := 100) (by decide +kernel)) rfl
theorem we120 : Cond.initialized "BoundedTypes$Rules" ∈ pg_T := pg_t0 (List.mem_of_getElem? (i := 5) (by decide +kernel)) rfl
theorem we121 : Cond.code ({ cls := "BoundedTypes$Rules", name := "<init>", desc := "(LBoundedTypes$Types;)V" } : MethodName) prog_10_method_1_code (2 : Nat) (Option.none : Option FieldType) ∈ pg_T := pg_t0 (List.mem_of_getElem? (i := 103) (by decide +kernel)) rfl
theorem we122 : Cond.methodLink "BoundedTypes" (29 : Nat) ({ cls := "BoundedTypes$Rules", name := "<init>", desc := "(LBoundedTypes$Types;)V" } : MethodName) ∈ pg_T := pg_t0 (List.mem_of_getElem? (i := 101) (by decide +kernel)) rfl
theorem we123 : Cond.instanceMethod ({ cls := "BoundedTypes$Rules", name := "<init>", desc := "(LBoundedTypes$Types;)V" } : MethodName) ∈ pg_T := pg_t0 (List.mem_of_getElem? (i := 102) (by decide +kernel)) rfl
theorem we124 : Cond.fieldLink "BoundedTypes" (32 : Nat) "BoundedTypes" "rules" "LBoundedTypes$Rules;" ∈ pg_T := pg_t1 (List.mem_of_getElem? (i := 134) (by decide +kernel)) rfl
theorem we125 : Cond.classLink "BoundedTypes" (36 : Nat) "BoundedTypes$Reader" ∈ pg_T := pg_t0 (List.mem_of_getElem? (i := 225) (by decide +kernel)) rfl
theorem we126 : Cond.instantiable "BoundedTypes$Reader" (10 : Nat) ∈ pg_T := pg_t0 (List.mem_of_getElem? (i := 226) (by decide +kernel)) rfl
theorem we127 : Cond.initialized "BoundedTypes$Reader" ∈ pg_T := pg_t0 (List.mem_of_getElem? (i := 11) (by decide +kernel)) rfl
theorem we128 : Cond.code ({ cls := "BoundedTypes$Reader", name := "<init>", desc := "([CLBoundedTypes$Types;LBoundedTypes$Code;)V" } : MethodName) prog_9_method_1_code (4 : Nat) (Option.none : Option FieldType) ∈ pg_T := pg_t0 (List.mem_of_getElem? (i := 229) (by decide +kernel)) rfl
theorem we129 : Cond.methodLink "BoundedTypes" (38 : Nat) ({ cls := "BoundedTypes$Reader", name := "<init>", desc := "([CLBoundedTypes$Types;LBoundedTypes$Code;)V" } : MethodName) ∈ pg_T := pg_t0 (List.mem_of_getElem? (i := 227) (by decide +kernel)) rfl
theorem we130 : Cond.instanceMethod ({ cls := "BoundedTypes$Reader", name := "<init>", desc := "([CLBoundedTypes$Types;LBoundedTypes$Code;)V" } : MethodName) ∈ pg_T := pg_t0 (List.mem_of_getElem? (i := 228) (by decide +kernel)) rfl
theorem we131 : Cond.fieldLink "BoundedTypes" (41 : Nat) "BoundedTypes" "reader" "LBoundedTypes$Reader;" ∈ pg_T := pg_t1 (List.mem_of_getElem? (i := 135) (by decide +kernel)) rfl
theorem we132 : Cond.classLink "BoundedTypes" (45 : Nat) "BoundedTypes$Expressions" ∈ pg_T := pg_t1 (List.mem_of_getElem? (i := 22) (by decide +kernel)) rfl
theorem we133 : Cond.instantiable "BoundedTypes$Expressions" (8 : Nat) ∈ pg_T := pg_t1 (List.mem_of_getElem? (i := 23) (by decide +kernel)) rfl
theorem we134 : Cond.initialized "BoundedTypes$Expressions" ∈ pg_T := pg_t0 (List.mem_of_getElem? (i := 12) (by decide +kernel)) rfl
theorem we135 : Cond.code ({ cls := "BoundedTypes$Expressions", name := "<init>", desc := "(LBoundedTypes$Types;LBoundedTypes$Code;LBoundedTypes$Rules;)V" } : MethodName) prog_6_method_1_code (4 : Nat) (Option.none : Option FieldType) ∈ pg_T := pg_t1 (List.mem_of_getElem? (i := 26) (by decide +kernel)) rfl
theorem we136 : Cond.methodLink "BoundedTypes" (47 : Nat) ({ cls := "BoundedTypes$Expressions", name := "<init>", desc := "(LBoundedTypes$Types;LBoundedTypes$Code;LBoundedTypes$Rules;)V" } : MethodName) ∈ pg_T := pg_t1 (List.mem_of_getElem? (i := 24) (by decide +kernel)) rfl
theorem we137 : Cond.instanceMethod ({ cls := "BoundedTypes$Expressions", name := "<init>", desc := "(LBoundedTypes$Types;LBoundedTypes$Code;LBoundedTypes$Rules;)V" } : MethodName) ∈ pg_T := pg_t1 (List.mem_of_getElem? (i := 25) (by decide +kernel)) rfl
theorem we138 : Cond.fieldLink "BoundedTypes" (50 : Nat) "BoundedTypes" "expressions" "LBoundedTypes$Expressions;" ∈ pg_T := pg_t1 (List.mem_of_getElem? (i := 136) (by decide +kernel)) rfl
theorem we139 : Cond.classLink "BoundedTypes" (54 : Nat) "BoundedTypes$Declarations" ∈ pg_T := pg_t1 (List.mem_of_getElem? (i := 53) (by decide +kernel)) rfl
theorem we140 : Cond.instantiable "BoundedTypes$Declarations" (3 : Nat) ∈ pg_T := pg_t1 (List.mem_of_getElem? (i := 54) (by decide +kernel)) rfl
theorem we141 : Cond.initialized "BoundedTypes$Declarations" ∈ pg_T := pg_t0 (List.mem_of_getElem? (i := 13) (by decide +kernel)) rfl
theorem we142 : Cond.code ({ cls := "BoundedTypes$Declarations", name := "<init>", desc := "(LBoundedTypes$Types;LBoundedTypes$Rules;LBoundedTypes$Expressions;)V" } : MethodName) prog_4_method_1_code (4 : Nat) (Option.none : Option FieldType) ∈ pg_T := pg_t1 (List.mem_of_getElem? (i := 57) (by decide +kernel)) rfl
theorem we143 : Cond.methodLink "BoundedTypes" (56 : Nat) ({ cls := "BoundedTypes$Declarations", name := "<init>", desc := "(LBoundedTypes$Types;LBoundedTypes$Rules;LBoundedTypes$Expressions;)V" } : MethodName) ∈ pg_T := pg_t1 (List.mem_of_getElem? (i := 55) (by decide +kernel)) rfl
theorem we144 : Cond.instanceMethod ({ cls := "BoundedTypes$Declarations", name := "<init>", desc := "(LBoundedTypes$Types;LBoundedTypes$Rules;LBoundedTypes$Expressions;)V" } : MethodName) ∈ pg_T := pg_t1 (List.mem_of_getElem? (i := 56) (by decide +kernel)) rfl
theorem we145 : Cond.fieldLink "BoundedTypes" (59 : Nat) "BoundedTypes" "declarations" "LBoundedTypes$Declarations;" ∈ pg_T := pg_t1 (List.mem_of_getElem? (i := 137) (by decide +kernel)) rfl
theorem we146 : Cond.classLink "BoundedTypes" (63 : Nat) "BoundedTypes$Machine" ∈ pg_T := pg_t1 (List.mem_of_getElem? (i := 69) (by decide +kernel)) rfl
theorem we147 : Cond.instantiable "BoundedTypes$Machine" (17 : Nat) ∈ pg_T := pg_t1 (List.mem_of_getElem? (i := 70) (by decide +kernel)) rfl
theorem we148 : Cond.initialized "BoundedTypes$Machine" ∈ pg_T := pg_t0 (List.mem_of_getElem? (i := 14) (by decide +kernel)) rfl
theorem we149 : Cond.code ({ cls := "BoundedTypes$Machine", name := "<init>", desc := "(LBoundedTypes$Types;LBoundedTypes$Code;LBoundedTypes$Rules;)V" } : MethodName) prog_7_method_1_code (4 : Nat) (Option.none : Option FieldType) ∈ pg_T := pg_t1 (List.mem_of_getElem? (i := 73) (by decide +kernel)) rfl
theorem we150 : Cond.methodLink "BoundedTypes" (65 : Nat) ({ cls := "BoundedTypes$Machine", name := "<init>", desc := "(LBoundedTypes$Types;LBoundedTypes$Code;LBoundedTypes$Rules;)V" } : MethodName) ∈ pg_T := pg_t1 (List.mem_of_getElem? (i := 71) (by decide +kernel)) rfl
theorem we151 : Cond.instanceMethod ({ cls := "BoundedTypes$Machine", name := "<init>", desc := "(LBoundedTypes$Types;LBoundedTypes$Code;LBoundedTypes$Rules;)V" } : MethodName) ∈ pg_T := pg_t1 (List.mem_of_getElem? (i := 72) (by decide +kernel)) rfl
theorem we152 : Cond.fieldLink "BoundedTypes" (66 : Nat) "BoundedTypes" "machine" "LBoundedTypes$Machine;" ∈ pg_T := pg_t1 (List.mem_of_getElem? (i := 138) (by decide +kernel)) rfl
theorem we153 : Cond.initialized "BoundedTypes" ∈ pg_T := pg_t0 (List.mem_of_getElem? (i := 1) (by decide +kernel)) rfl
theorem we154 : Cond.code ({ cls := "BoundedTypes", name := "byteOf", desc := "(II)I" } : MethodName) prog_1_method_10_code (2 : Nat) (Option.some FieldType.int) ∈ pg_T := pg_t1 (List.mem_of_getElem? (i := 167) (by decide +kernel)) rfl
theorem we155 : Cond.methodLink "BoundedTypes" (78 : Nat) ({ cls := "BoundedTypes", name := "byteOf", desc := "(II)I" } : MethodName) ∈ pg_T := pg_t1 (List.mem_of_getElem? (i := 165) (by decide +kernel)) rfl
theorem we156 : Cond.static ({ cls := "BoundedTypes", name := "byteOf", desc := "(II)I" } : MethodName) ∈ pg_T := pg_t1 (List.mem_of_getElem? (i := 166) (by decide +kernel)) rfl
theorem we157 : Cond.fieldLink "BoundedTypes" (70 : Nat) "BoundedTypes" "typedCount" "I" ∈ pg_T := pg_t1 (List.mem_of_getElem? (i := 131) (by decide +kernel)) rfl
theorem we158 : Cond.code ({ cls := "BoundedTypes", name := "areCharacters", desc := "(II)Z" } : MethodName) prog_1_method_11_code (4 : Nat) (Option.some FieldType.boolean) ∈ pg_T := pg_t1 (List.mem_of_getElem? (i := 164) (by decide +kernel)) rfl
theorem we159 : Cond.methodLink "BoundedTypes" (74 : Nat) ({ cls := "BoundedTypes", name := "areCharacters", desc := "(II)Z" } : MethodName) ∈ pg_T := pg_t1 (List.mem_of_getElem? (i := 162) (by decide +kernel)) rfl
theorem we160 : Cond.static ({ cls := "BoundedTypes", name := "areCharacters", desc := "(II)Z" } : MethodName) ∈ pg_T := pg_t1 (List.mem_of_getElem? (i := 163) (by decide +kernel)) rfl
theorem we161 : Cond.constant "BoundedTypes$Types" (56 : Nat) (32768 : Int32) ∈ pg_T := pg_t1 (List.mem_of_getElem? (i := 184) (by decide +kernel)) rfl
theorem we162 : Cond.fieldLink "BoundedTypes$Reader" (70 : Nat) "BoundedTypes$Reader" "now" "I" ∈ pg_T := pg_t0 (List.mem_of_getElem? (i := 236) (by decide +kernel)) rfl
theorem we163 : Cond.fieldLink "BoundedTypes$Reader" (97 : Nat) "BoundedTypes$Reader" "depth" "I" ∈ pg_T := pg_t0 (List.mem_of_getElem? (i := 237) (by decide +kernel)) rfl
theorem we164 : Cond.fieldLink "BoundedTypes$Reader" (100 : Nat) "BoundedTypes$Reader" "castCount" "I" ∈ pg_T := pg_t0 (List.mem_of_getElem? (i := 239) (by decide +kernel)) rfl
theorem we165 : Cond.fieldLink "BoundedTypes$Reader" (103 : Nat) "BoundedTypes$Reader" "inside" "LBoundedTypes$Member;" ∈ pg_T := pg_t1 (List.mem_of_getElem? (i := 0) (by decide +kernel)) rfl
theorem we166 : Cond.code ({ cls := "BoundedTypes$Types", name := "makeRoom", desc := "()V" } : MethodName) prog_11_method_12_code (2 : Nat) (Option.none : Option FieldType) ∈ pg_T := pg_t1 (List.mem_of_getElem? (i := 183) (by decide +kernel)) rfl
theorem we167 : Cond.methodLink "BoundedTypes$Reader" (107 : Nat) ({ cls := "BoundedTypes$Types", name := "makeRoom", desc := "()V" } : MethodName) ∈ pg_T := pg_t1 (List.mem_of_getElem? (i := 180) (by decide +kernel)) rfl
theorem we168 : Cond.instanceMethod ({ cls := "BoundedTypes$Types", name := "makeRoom", desc := "()V" } : MethodName) ∈ pg_T := pg_t1 (List.mem_of_getElem? (i := 181) (by decide +kernel)) rfl
theorem we169 : Cond.selects "BoundedTypes$Types" ({ cls := "BoundedTypes$Types", name := "makeRoom", desc := "()V" } : MethodName) ({ cls := "BoundedTypes$Types", name := "makeRoom", desc := "()V" } : MethodName) ∈ pg_T := pg_t1 (List.mem_of_getElem? (i := 182) (by decide +kernel)) rfl
theorem we170 : Cond.code ({ cls := "BoundedTypes$Reader", name := "takeLetter", desc := "(CC)I" } : MethodName) prog_9_method_8_code (3 : Nat) (Option.some FieldType.int) ∈ pg_T := pg_t1 (List.mem_of_getElem? (i := 204) (by decide +kernel)) rfl
theorem we171 : Cond.methodLink "BoundedTypes$Reader" (37 : Nat) ({ cls := "BoundedTypes$Reader", name := "takeLetter", desc := "(CC)I" } : MethodName) ∈ pg_T := pg_t1 (List.mem_of_getElem? (i := 201) (by decide +kernel)) rfl
theorem we172 : Cond.instanceMethod ({ cls := "BoundedTypes$Reader", name := "takeLetter", desc := "(CC)I" } : MethodName) ∈ pg_T := pg_t1 (List.mem_of_getElem? (i := 203) (by decide +kernel)) rfl
theorem we173 : Cond.selects "BoundedTypes$Reader" ⟨"BoundedTypes$Reader", "takeLetter", "(CC)I"⟩ ⟨"BoundedTypes$Reader", "takeLetter", "(CC)I"⟩ ∈ pg_T := pg_s0 (q := (⟨"BoundedTypes$Reader", "takeLetter", "(CC)I"⟩, 10)) (List.mem_of_getElem? (i := 1) (by decide +kernel))
theorem we174 : Cond.code ({ cls := "BoundedTypes$Types", name := "classType", desc := "(IIII)I" } : MethodName) prog_11_method_10_code (10 : Nat) (Option.some FieldType.int) ∈ pg_T := pg_t1 (List.mem_of_getElem? (i := 234) (by decide +kernel)) rfl
theorem we175 : Cond.methodLink "BoundedTypes$Reader" (113 : Nat) ({ cls := "BoundedTypes$Types", name := "classType", desc := "(IIII)I" } : MethodName) ∈ pg_T := pg_t1 (List.mem_of_getElem? (i := 231) (by decide +kernel)) rfl
theorem we176 : Cond.instanceMethod ({ cls := "BoundedTypes$Types", name := "classType", desc := "(IIII)I" } : MethodName) ∈ pg_T := pg_t1 (List.mem_of_getElem? (i := 232) (by decide +kernel)) rfl
theorem we177 : Cond.selects "BoundedTypes$Types" ({ cls := "BoundedTypes$Types", name := "classType", desc := "(IIII)I" } : MethodName) ({ cls := "BoundedTypes$Types", name := "classType", desc := "(IIII)I" } : MethodName) ∈ pg_T := pg_t1 (List.mem_of_getElem? (i := 233) (by decide +kernel)) rfl
theorem we178 : Cond.code ({ cls := "BoundedTypes$Reader", name := "close", desc := "(C)V" } : MethodName) prog_9_method_10_code (2 : Nat) (Option.none : Option FieldType) ∈ pg_T := pg_t1 (List.mem_of_getElem? (i := 230) (by decide +kernel)) rfl
theorem we179 : Cond.methodLink "BoundedTypes$Reader" (88 : Nat) ({ cls := "BoundedTypes$Reader", name := "close", desc := "(C)V" } : MethodName) ∈ pg_T := pg_t1 (List.mem_of_getElem? (i := 227) (by decide +kernel)) rfl
theorem we180 : Cond.instanceMethod ({ cls := "BoundedTypes$Reader", name := "close", desc := "(C)V" } : MethodName) ∈ pg_T := pg_t1 (List.mem_of_getElem? (i := 229) (by decide +kernel)) rfl
theorem we181 : Cond.selects "BoundedTypes$Reader" ⟨"BoundedTypes$Reader", "close", "(C)V"⟩ ⟨"BoundedTypes$Reader", "close", "(C)V"⟩ ∈ pg_T := pg_s0 (q := (⟨"BoundedTypes$Reader", "close", "(C)V"⟩, 10)) (List.mem_of_getElem? (i := 7) (by decide +kernel))
theorem we182 : Cond.code ({ cls := "BoundedTypes$Reader", name := "take", desc := "(C)V" } : MethodName) prog_9_method_6_code (2 : Nat) (Option.none : Option FieldType) ∈ pg_T := pg_t1 (List.mem_of_getElem? (i := 218) (by decide +kernel)) rfl
theorem we183 : Cond.methodLink "BoundedTypes$Reader" (48 : Nat) ({ cls := "BoundedTypes$Reader", name := "take", desc := "(C)V" } : MethodName) ∈ pg_T := pg_t1 (List.mem_of_getElem? (i := 215) (by decide +kernel)) rfl
theorem we184 : Cond.instanceMethod ({ cls := "BoundedTypes$Reader", name := "take", desc := "(C)V" } : MethodName) ∈ pg_T := pg_t1 (List.mem_of_getElem? (i := 217) (by decide +kernel)) rfl
theorem we185 : Cond.selects "BoundedTypes$Reader" ⟨"BoundedTypes$Reader", "take", "(C)V"⟩ ⟨"BoundedTypes$Reader", "take", "(C)V"⟩ ∈ pg_T := pg_s0 (q := (⟨"BoundedTypes$Reader", "take", "(C)V"⟩, 10)) (List.mem_of_getElem? (i := 4) (by decide +kernel))
theorem we186 : Cond.code ({ cls := "BoundedTypes$Reader", name := "readType", desc := "(Z)I" } : MethodName) prog_9_method_11_code (3 : Nat) (Option.some FieldType.int) ∈ pg_T := pg_t1 (List.mem_of_getElem? (i := 222) (by decide +kernel)) rfl
theorem we187 : Cond.methodLink "BoundedTypes$Reader" (52 : Nat) ({ cls := "BoundedTypes$Reader", name := "readType", desc := "(Z)I" } : MethodName) ∈ pg_T := pg_t1 (List.mem_of_getElem? (i := 219) (by decide +kernel)) rfl
theorem we188 : Cond.instanceMethod ({ cls := "BoundedTypes$Reader", name := "readType", desc := "(Z)I" } : MethodName) ∈ pg_T := pg_t1 (List.mem_of_getElem? (i := 221) (by decide +kernel)) rfl
theorem we189 : Cond.selects "BoundedTypes$Reader" ⟨"BoundedTypes$Reader", "readType", "(Z)I"⟩ ⟨"BoundedTypes$Reader", "readType", "(Z)I"⟩ ∈ pg_T := pg_s0 (q := (⟨"BoundedTypes$Reader", "readType", "(Z)I"⟩, 10)) (List.mem_of_getElem? (i := 5) (by decide +kernel))
theorem we190 : Cond.code ({ cls := "BoundedTypes$Reader", name := "open", desc := "(C)V" } : MethodName) prog_9_method_9_code (2 : Nat) (Option.none : Option FieldType) ∈ pg_T := pg_t1 (List.mem_of_getElem? (i := 214) (by decide +kernel)) rfl
theorem we191 : Cond.methodLink "BoundedTypes$Reader" (67 : Nat) ({ cls := "BoundedTypes$Reader", name := "open", desc := "(C)V" } : MethodName) ∈ pg_T := pg_t1 (List.mem_of_getElem? (i := 211) (by decide +kernel)) rfl
theorem we192 : Cond.instanceMethod ({ cls := "BoundedTypes$Reader", name := "open", desc := "(C)V" } : MethodName) ∈ pg_T := pg_t1 (List.mem_of_getElem? (i := 213) (by decide +kernel)) rfl
theorem we193 : Cond.selects "BoundedTypes$Reader" ⟨"BoundedTypes$Reader", "open", "(C)V"⟩ ⟨"BoundedTypes$Reader", "open", "(C)V"⟩ ∈ pg_T := pg_s0 (q := (⟨"BoundedTypes$Reader", "open", "(C)V"⟩, 10)) (List.mem_of_getElem? (i := 3) (by decide +kernel))
theorem we194 : Cond.code ({ cls := "BoundedTypes$Reader", name := "takeEnd", desc := "()V" } : MethodName) prog_9_method_7_code (1 : Nat) (Option.none : Option FieldType) ∈ pg_T := pg_t2 (List.mem_of_getElem? (i := 166) (by decide +kernel)) rfl
theorem we195 : Cond.methodLink "BoundedTypes$Reader" (91 : Nat) ({ cls := "BoundedTypes$Reader", name := "takeEnd", desc := "()V" } : MethodName) ∈ pg_T := pg_t2 (List.mem_of_getElem? (i := 163) (by decide +kernel)) rfl
theorem we196 : Cond.instanceMethod ({ cls := "BoundedTypes$Reader", name := "takeEnd", desc := "()V" } : MethodName) ∈ pg_T := pg_t2 (List.mem_of_getElem? (i := 165) (by decide +kernel)) rfl
theorem we197 : Cond.selects "BoundedTypes$Reader" ⟨"BoundedTypes$Reader", "takeEnd", "()V"⟩ ⟨"BoundedTypes$Reader", "takeEnd", "()V"⟩ ∈ pg_T := pg_s1 (q := (⟨"BoundedTypes$Reader", "takeEnd", "()V"⟩, 10)) (List.mem_of_getElem? (i := 4) (by decide +kernel))
theorem we198 : Cond.fieldLinkNest "BoundedTypes$Reader" (74 : Nat) "BoundedTypes$Entry" "members" "Ljava/util/ArrayList;" "BoundedTypes" ∈ pg_N := pg_n0 (List.mem_of_getElem? (i := 176) (by decide +kernel)) rfl
theorem we199 : Cond.code ({ cls := "BoundedTypes$Reader", name := "start", desc := "(I)V" } : MethodName) prog_9_method_5_code (4 : Nat) (Option.none : Option FieldType) ∈ pg_T := pg_t1 (List.mem_of_getElem? (i := 179) (by decide +kernel)) rfl
theorem we200 : Cond.methodLink "BoundedTypes$Reader" (33 : Nat) ({ cls := "BoundedTypes$Reader", name := "start", desc := "(I)V" } : MethodName) ∈ pg_T := pg_t1 (List.mem_of_getElem? (i := 176) (by decide +kernel)) rfl
theorem we201 : Cond.instanceMethod ({ cls := "BoundedTypes$Reader", name := "start", desc := "(I)V" } : MethodName) ∈ pg_T := pg_t1 (List.mem_of_getElem? (i := 178) (by decide +kernel)) rfl
theorem we202 : Cond.selects "BoundedTypes$Reader" ⟨"BoundedTypes$Reader", "start", "(I)V"⟩ ⟨"BoundedTypes$Reader", "start", "(I)V"⟩ ∈ pg_T := pg_s0 (q := (⟨"BoundedTypes$Reader", "start", "(I)V"⟩, 10)) (List.mem_of_getElem? (i := 0) (by decide +kernel))
theorem we203 : Cond.classLink "BoundedTypes$Reader" (41 : Nat) "BoundedTypes$Bounds" ∈ pg_T := pg_t1 (List.mem_of_getElem? (i := 205) (by decide +kernel)) rfl
theorem we204 : Cond.methodLinkNest "BoundedTypes$Reader" (43 : Nat) ({ cls := "BoundedTypes$Bounds", name := "<init>", desc := "()V" } : MethodName) "BoundedTypes" ∈ pg_N := pg_n1 (List.mem_of_getElem? (i := 206) (by decide +kernel)) rfl
theorem we205 : Cond.code ({ cls := "BoundedTypes$Reader", name := "readBounds", desc := "(LBoundedTypes$Bounds;)V" } : MethodName) prog_9_method_13_code (5 : Nat) (Option.none : Option FieldType) ∈ pg_T := pg_t1 (List.mem_of_getElem? (i := 210) (by decide +kernel)) rfl
theorem we206 : Cond.methodLink "BoundedTypes$Reader" (44 : Nat) ({ cls := "BoundedTypes$Reader", name := "readBounds", desc := "(LBoundedTypes$Bounds;)V" } : MethodName) ∈ pg_T := pg_t1 (List.mem_of_getElem? (i := 207) (by decide +kernel)) rfl
theorem we207 : Cond.instanceMethod ({ cls := "BoundedTypes$Reader", name := "readBounds", desc := "(LBoundedTypes$Bounds;)V" } : MethodName) ∈ pg_T := pg_t1 (List.mem_of_getElem? (i := 209) (by decide +kernel)) rfl
theorem we208 : Cond.selects "BoundedTypes$Reader" ⟨"BoundedTypes$Reader", "readBounds", "(LBoundedTypes$Bounds;)V"⟩ ⟨"BoundedTypes$Reader", "readBounds", "(LBoundedTypes$Bounds;)V"⟩ ∈ pg_T := pg_s0 (q := (⟨"BoundedTypes$Reader", "readBounds", "(LBoundedTypes$Bounds;)V"⟩, 10)) (List.mem_of_getElem? (i := 2) (by decide +kernel))
theorem we209 : Cond.classLink "BoundedTypes$Reader" (56 : Nat) "BoundedTypes$Entry" ∈ pg_T := pg_t2 (List.mem_of_getElem? (i := 3) (by decide +kernel)) rfl
theorem we210 : Cond.code ({ cls := "BoundedTypes$Types", name := "classOf", desc := "(I)I" } : MethodName) prog_11_method_5_code (2 : Nat) (Option.some FieldType.int) ∈ pg_T := pg_t2 (List.mem_of_getElem? (i := 7) (by decide +kernel)) rfl
theorem we211 : Cond.methodLink "BoundedTypes$Reader" (58 : Nat) ({ cls := "BoundedTypes$Types", name := "classOf", desc := "(I)I" } : MethodName) ∈ pg_T := pg_t2 (List.mem_of_getElem? (i := 4) (by decide +kernel)) rfl
theorem we212 : Cond.instanceMethod ({ cls := "BoundedTypes$Types", name := "classOf", desc := "(I)I" } : MethodName) ∈ pg_T := pg_t2 (List.mem_of_getElem? (i := 5) (by decide +kernel)) rfl
theorem we213 : Cond.selects "BoundedTypes$Types" ({ cls := "BoundedTypes$Types", name := "classOf", desc := "(I)I" } : MethodName) ({ cls := "BoundedTypes$Types", name := "classOf", desc := "(I)I" } : MethodName) ∈ pg_T := pg_t2 (List.mem_of_getElem? (i := 6) (by decide +kernel)) rfl
theorem we214 : Cond.methodLink "BoundedTypes$Reader" (64 : Nat) ({ cls := "BoundedTypes$Entry", name := "<init>", desc := "(ILBoundedTypes$Bounds;II)V" } : MethodName) ∈ pg_T := pg_t2 (List.mem_of_getElem? (i := 8) (by decide +kernel)) rfl
theorem we215 : Cond.fieldLinkNest "BoundedTypes$Rules" (50 : Nat) "BoundedTypes$Entry" "name" "I" "BoundedTypes" ∈ pg_N := pg_n0 (List.mem_of_getElem? (i := 165) (by decide +kernel)) rfl
theorem we216 : Cond.code ({ cls := "BoundedTypes$Rules", name := "entryNamed", desc := "(I)LBoundedTypes$Entry;" } : MethodName) prog_10_method_2_code (2 : Nat) (Option.some (FieldType.object "BoundedTypes$Entry")) ∈ pg_T := pg_t2 (List.mem_of_getElem? (i := 178) (by decide +kernel)) rfl
theorem we217 : Cond.methodLink "BoundedTypes$Rules" (46 : Nat) ({ cls := "BoundedTypes$Rules", name := "entryNamed", desc := "(I)LBoundedTypes$Entry;" } : MethodName) ∈ pg_T := pg_t2 (List.mem_of_getElem? (i := 227) (by decide +kernel)) rfl
theorem we218 : Cond.instanceMethod ({ cls := "BoundedTypes$Rules", name := "entryNamed", desc := "(I)LBoundedTypes$Entry;" } : MethodName) ∈ pg_T := pg_t2 (List.mem_of_getElem? (i := 176) (by decide +kernel)) rfl
theorem we219 : Cond.selects "BoundedTypes$Rules" ({ cls := "BoundedTypes$Rules", name := "entryNamed", desc := "(I)LBoundedTypes$Entry;" } : MethodName) ({ cls := "BoundedTypes$Rules", name := "entryNamed", desc := "(I)LBoundedTypes$Entry;" } : MethodName) ∈ pg_T := pg_t2 (List.mem_of_getElem? (i := 177) (by decide +kernel)) rfl
theorem we220 : Cond.initialized "java/lang/Math" ∈ pg_T := pg_t0 (List.mem_of_getElem? (i := 16) (by decide +kernel)) rfl
theorem we221 : Cond.methodLink "BoundedTypes$Types" (53 : Nat) ({ cls := "java/lang/Math", name := "min", desc := "(II)I" } : MethodName) ∈ pg_T := pg_t3 (List.mem_of_getElem? (i := 21) (by decide +kernel)) rfl
theorem we222 : Cond.static ({ cls := "java/lang/Math", name := "min", desc := "(II)I" } : MethodName) ∈ pg_T := pg_t1 (List.mem_of_getElem? (i := 196) (by decide +kernel)) rfl
theorem we223 : Cond.code ({ cls := "java/lang/Math", name := "min", desc := "(II)I" } : MethodName) prog_17_method_69_code (2 : Nat) (Option.some FieldType.int) ∈ pg_T := pg_t1 (List.mem_of_getElem? (i := 197) (by decide +kernel)) rfl
theorem we224 : Cond.methodLink "BoundedTypes$Types" (48 : Nat) ({ cls := "java/lang/Math", name := "max", desc := "(II)I" } : MethodName) ∈ pg_T := pg_t3 (List.mem_of_getElem? (i := 20) (by decide +kernel)) rfl
theorem we225 : Cond.static ({ cls := "java/lang/Math", name := "max", desc := "(II)I" } : MethodName) ∈ pg_T := pg_t2 (List.mem_of_getElem? (i := 129) (by decide +kernel)) rfl
theorem we226 : Cond.code ({ cls := "java/lang/Math", name := "max", desc := "(II)I" } : MethodName) prog_17_method_65_code (2 : Nat) (Option.some FieldType.int) ∈ pg_T := pg_t2 (List.mem_of_getElem? (i := 130) (by decide +kernel)) rfl
theorem we227 : Cond.fieldLink "BoundedTypes$Code" (24 : Nat) "BoundedTypes$Code" "count" "I" ∈ pg_T := pg_t0 (List.mem_of_getElem? (i := 85) (by decide +kernel)) rfl
theorem we228 : Cond.methodLink "BoundedTypes$Code" (28 : Nat) ({ cls := "java/lang/Math", name := "min", desc := "(II)I" } : MethodName) ∈ pg_T := pg_t3 (List.mem_of_getElem? (i := 197) (by decide +kernel)) rfl
theorem we229 : Cond.methodLink "BoundedTypes$Code" (34 : Nat) ({ cls := "java/lang/Math", name := "max", desc := "(II)I" } : MethodName) ∈ pg_T := pg_t3 (List.mem_of_getElem? (i := 198) (by decide +kernel)) rfl
theorem we230 : Cond.code ({ cls := "BoundedTypes$Types", name := "forget", desc := "(I)V" } : MethodName) prog_11_method_11_code (4 : Nat) (Option.none : Option FieldType) ∈ pg_T := pg_t3 (List.mem_of_getElem? (i := 19) (by decide +kernel)) rfl
theorem we231 : Cond.methodLink "BoundedTypes" (108 : Nat) ({ cls := "BoundedTypes$Types", name := "forget", desc := "(I)V" } : MethodName) ∈ pg_T := pg_t3 (List.mem_of_getElem? (i := 192) (by decide +kernel)) rfl
theorem we232 : Cond.instanceMethod ({ cls := "BoundedTypes$Types", name := "forget", desc := "(I)V" } : MethodName) ∈ pg_T := pg_t3 (List.mem_of_getElem? (i := 17) (by decide +kernel)) rfl
theorem we233 : Cond.selects "BoundedTypes$Types" ({ cls := "BoundedTypes$Types", name := "forget", desc := "(I)V" } : MethodName) ({ cls := "BoundedTypes$Types", name := "forget", desc := "(I)V" } : MethodName) ∈ pg_T := pg_t3 (List.mem_of_getElem? (i := 18) (by decide +kernel)) rfl
theorem we234 : Cond.code ({ cls := "BoundedTypes$Rules", name := "remove", desc := "(LBoundedTypes$Entry;)V" } : MethodName) prog_10_method_5_code (2 : Nat) (Option.none : Option FieldType) ∈ pg_T := pg_t3 (List.mem_of_getElem? (i := 191) (by decide +kernel)) rfl
theorem we235 : Cond.methodLink "BoundedTypes" (104 : Nat) ({ cls := "BoundedTypes$Rules", name := "remove", desc := "(LBoundedTypes$Entry;)V" } : MethodName) ∈ pg_T := pg_t3 (List.mem_of_getElem? (i := 188) (by decide +kernel)) rfl
theorem we236 : Cond.instanceMethod ({ cls := "BoundedTypes$Rules", name := "remove", desc := "(LBoundedTypes$Entry;)V" } : MethodName) ∈ pg_T := pg_t3 (List.mem_of_getElem? (i := 189) (by decide +kernel)) rfl
theorem we237 : Cond.selects "BoundedTypes$Rules" ({ cls := "BoundedTypes$Rules", name := "remove", desc := "(LBoundedTypes$Entry;)V" } : MethodName) ({ cls := "BoundedTypes$Rules", name := "remove", desc := "(LBoundedTypes$Entry;)V" } : MethodName) ∈ pg_T := pg_t3 (List.mem_of_getElem? (i := 190) (by decide +kernel)) rfl
theorem we238 : Cond.code ({ cls := "BoundedTypes$Code", name := "forget", desc := "(I)V" } : MethodName) prog_3_method_4_code (2 : Nat) (Option.none : Option FieldType) ∈ pg_T := pg_t3 (List.mem_of_getElem? (i := 196) (by decide +kernel)) rfl
theorem we239 : Cond.methodLink "BoundedTypes" (112 : Nat) ({ cls := "BoundedTypes$Code", name := "forget", desc := "(I)V" } : MethodName) ∈ pg_T := pg_t3 (List.mem_of_getElem? (i := 193) (by decide +kernel)) rfl
theorem we240 : Cond.instanceMethod ({ cls := "BoundedTypes$Code", name := "forget", desc := "(I)V" } : MethodName) ∈ pg_T := pg_t3 (List.mem_of_getElem? (i := 194) (by decide +kernel)) rfl
theorem we241 : Cond.selects "BoundedTypes$Code" ({ cls := "BoundedTypes$Code", name := "forget", desc := "(I)V" } : MethodName) ({ cls := "BoundedTypes$Code", name := "forget", desc := "(I)V" } : MethodName) ∈ pg_T := pg_t3 (List.mem_of_getElem? (i := 195) (by decide +kernel)) rfl
theorem we242 : Cond.fieldLinkNest "BoundedTypes" (82 : Nat) "BoundedTypes$Types" "count" "I" "BoundedTypes" ∈ pg_N := pg_n0 (List.mem_of_getElem? (i := 49) (by decide +kernel)) rfl
theorem we243 : Cond.fieldLinkNest "BoundedTypes" (85 : Nat) "BoundedTypes$Code" "count" "I" "BoundedTypes" ∈ pg_N := pg_n0 (List.mem_of_getElem? (i := 86) (by decide +kernel)) rfl
theorem we244 : Cond.code ({ cls := "BoundedTypes$Reader", name := "readDeclaration", desc := "(I)LBoundedTypes$Entry;" } : MethodName) prog_9_method_2_code (7 : Nat) (Option.some (FieldType.object "BoundedTypes$Entry")) ∈ pg_T := pg_t1 (List.mem_of_getElem? (i := 175) (by decide +kernel)) rfl
theorem we245 : Cond.methodLink "BoundedTypes" (86 : Nat) ({ cls := "BoundedTypes$Reader", name := "readDeclaration", desc := "(I)LBoundedTypes$Entry;" } : MethodName) ∈ pg_T := pg_t1 (List.mem_of_getElem? (i := 172) (by decide +kernel)) rfl
theorem we246 : Cond.instanceMethod ({ cls := "BoundedTypes$Reader", name := "readDeclaration", desc := "(I)LBoundedTypes$Entry;" } : MethodName) ∈ pg_T := pg_t1 (List.mem_of_getElem? (i := 173) (by decide +kernel)) rfl
theorem we247 : Cond.selects "BoundedTypes$Reader" ({ cls := "BoundedTypes$Reader", name := "readDeclaration", desc := "(I)LBoundedTypes$Entry;" } : MethodName) ({ cls := "BoundedTypes$Reader", name := "readDeclaration", desc := "(I)LBoundedTypes$Entry;" } : MethodName) ∈ pg_T := pg_t1 (List.mem_of_getElem? (i := 174) (by decide +kernel)) rfl
theorem we248 : Cond.code ({ cls := "BoundedTypes$Reader", name := "answerIfFaulty", desc := "()I" } : MethodName) prog_9_method_4_code (1 : Nat) (Option.some FieldType.int) ∈ pg_T := pg_t2 (List.mem_of_getElem? (i := 170) (by decide +kernel)) rfl
theorem we249 : Cond.methodLink "BoundedTypes" (90 : Nat) ({ cls := "BoundedTypes$Reader", name := "answerIfFaulty", desc := "()I" } : MethodName) ∈ pg_T := pg_t2 (List.mem_of_getElem? (i := 167) (by decide +kernel)) rfl
theorem we250 : Cond.instanceMethod ({ cls := "BoundedTypes$Reader", name := "answerIfFaulty", desc := "()I" } : MethodName) ∈ pg_T := pg_t2 (List.mem_of_getElem? (i := 168) (by decide +kernel)) rfl
theorem we251 : Cond.selects "BoundedTypes$Reader" ({ cls := "BoundedTypes$Reader", name := "answerIfFaulty", desc := "()I" } : MethodName) ({ cls := "BoundedTypes$Reader", name := "answerIfFaulty", desc := "()I" } : MethodName) ∈ pg_T := pg_t2 (List.mem_of_getElem? (i := 169) (by decide +kernel)) rfl
theorem we252 : Cond.code ({ cls := "BoundedTypes$Reader", name := "slotOf", desc := "(I)I" } : MethodName) prog_9_method_22_code (3 : Nat) (Option.some FieldType.int) ∈ pg_T := pg_t2 (List.mem_of_getElem? (i := 100) (by decide +kernel)) rfl
theorem we253 : Cond.methodLink "BoundedTypes$Reader" (173 : Nat) ({ cls := "BoundedTypes$Reader", name := "slotOf", desc := "(I)I" } : MethodName) ∈ pg_T := pg_t2 (List.mem_of_getElem? (i := 97) (by decide +kernel)) rfl
theorem we254 : Cond.instanceMethod ({ cls := "BoundedTypes$Reader", name := "slotOf", desc := "(I)I" } : MethodName) ∈ pg_T := pg_t2 (List.mem_of_getElem? (i := 99) (by decide +kernel)) rfl
theorem we255 : Cond.selects "BoundedTypes$Reader" ⟨"BoundedTypes$Reader", "slotOf", "(I)I"⟩ ⟨"BoundedTypes$Reader", "slotOf", "(I)I"⟩ ∈ pg_T := pg_s0 (q := (⟨"BoundedTypes$Reader", "slotOf", "(I)I"⟩, 10)) (List.mem_of_getElem? (i := 15) (by decide +kernel))
theorem we256 : Cond.code ({ cls := "BoundedTypes$Code", name := "add", desc := "(IIII)I" } : MethodName) prog_3_method_2_code (5 : Nat) (Option.some FieldType.int) ∈ pg_T := pg_t2 (List.mem_of_getElem? (i := 88) (by decide +kernel)) rfl
theorem we257 : Cond.methodLink "BoundedTypes$Reader" (164 : Nat) ({ cls := "BoundedTypes$Code", name := "add", desc := "(IIII)I" } : MethodName) ∈ pg_T := pg_t2 (List.mem_of_getElem? (i := 85) (by decide +kernel)) rfl
theorem we258 : Cond.instanceMethod ({ cls := "BoundedTypes$Code", name := "add", desc := "(IIII)I" } : MethodName) ∈ pg_T := pg_t2 (List.mem_of_getElem? (i := 86) (by decide +kernel)) rfl
theorem we259 : Cond.selects "BoundedTypes$Code" ({ cls := "BoundedTypes$Code", name := "add", desc := "(IIII)I" } : MethodName) ({ cls := "BoundedTypes$Code", name := "add", desc := "(IIII)I" } : MethodName) ∈ pg_T := pg_t2 (List.mem_of_getElem? (i := 87) (by decide +kernel)) rfl
theorem we260 : Cond.code ({ cls := "BoundedTypes$Reader", name := "base", desc := "()V" } : MethodName) prog_9_method_19_code (4 : Nat) (Option.none : Option FieldType) ∈ pg_T := pg_t2 (List.mem_of_getElem? (i := 84) (by decide +kernel)) rfl
theorem we261 : Cond.methodLink "BoundedTypes$Reader" (158 : Nat) ({ cls := "BoundedTypes$Reader", name := "base", desc := "()V" } : MethodName) ∈ pg_T := pg_t2 (List.mem_of_getElem? (i := 81) (by decide +kernel)) rfl
theorem we262 : Cond.instanceMethod ({ cls := "BoundedTypes$Reader", name := "base", desc := "()V" } : MethodName) ∈ pg_T := pg_t2 (List.mem_of_getElem? (i := 83) (by decide +kernel)) rfl
theorem we263 : Cond.selects "BoundedTypes$Reader" ⟨"BoundedTypes$Reader", "base", "()V"⟩ ⟨"BoundedTypes$Reader", "base", "()V"⟩ ∈ pg_T := pg_s0 (q := (⟨"BoundedTypes$Reader", "base", "()V"⟩, 10)) (List.mem_of_getElem? (i := 13) (by decide +kernel))
theorem we264 : Cond.code ({ cls := "BoundedTypes$Reader", name := "isAtCast", desc := "()Z" } : MethodName) prog_9_method_18_code (1 : Nat) (Option.some FieldType.boolean) ∈ pg_T := pg_t2 (List.mem_of_getElem? (i := 80) (by decide +kernel)) rfl
theorem we265 : Cond.methodLink "BoundedTypes$Reader" (154 : Nat) ({ cls := "BoundedTypes$Reader", name := "isAtCast", desc := "()Z" } : MethodName) ∈ pg_T := pg_t2 (List.mem_of_getElem? (i := 77) (by decide +kernel)) rfl
theorem we266 : Cond.instanceMethod ({ cls := "BoundedTypes$Reader", name := "isAtCast", desc := "()Z" } : MethodName) ∈ pg_T := pg_t2 (List.mem_of_getElem? (i := 79) (by decide +kernel)) rfl
theorem we267 : Cond.selects "BoundedTypes$Reader" ⟨"BoundedTypes$Reader", "isAtCast", "()Z"⟩ ⟨"BoundedTypes$Reader", "isAtCast", "()Z"⟩ ∈ pg_T := pg_s0 (q := (⟨"BoundedTypes$Reader", "isAtCast", "()Z"⟩, 10)) (List.mem_of_getElem? (i := 12) (by decide +kernel))
theorem we268 : Cond.code ({ cls := "BoundedTypes$Reader", name := "expression", desc := "()V" } : MethodName) prog_9_method_17_code (3 : Nat) (Option.none : Option FieldType) ∈ pg_T := pg_t2 (List.mem_of_getElem? (i := 76) (by decide +kernel)) rfl
theorem we269 : Cond.methodLink "BoundedTypes$Reader" (94 : Nat) ({ cls := "BoundedTypes$Reader", name := "expression", desc := "()V" } : MethodName) ∈ pg_T := pg_t2 (List.mem_of_getElem? (i := 73) (by decide +kernel)) rfl
theorem we270 : Cond.instanceMethod ({ cls := "BoundedTypes$Reader", name := "expression", desc := "()V" } : MethodName) ∈ pg_T := pg_t2 (List.mem_of_getElem? (i := 75) (by decide +kernel)) rfl
theorem we271 : Cond.selects "BoundedTypes$Reader" ⟨"BoundedTypes$Reader", "expression", "()V"⟩ ⟨"BoundedTypes$Reader", "expression", "()V"⟩ ∈ pg_T := pg_s0 (q := (⟨"BoundedTypes$Reader", "expression", "()V"⟩, 10)) (List.mem_of_getElem? (i := 11) (by decide +kernel))
theorem we272 : Cond.fieldLink "BoundedTypes$Machine" (43 : Nat) "BoundedTypes$Machine" "textLength" "I" ∈ pg_T := pg_t1 (List.mem_of_getElem? (i := 91) (by decide +kernel)) rfl
theorem we273 : Cond.constant "BoundedTypes" (116 : Nat) (-100000 : Int32) ∈ pg_T := pg_t3 (List.mem_of_getElem? (i := 207) (by decide +kernel)) rfl
theorem we274 : Cond.code ({ cls := "BoundedTypes$Reader", name := "readExpression", desc := "(I)V" } : MethodName) prog_9_method_3_code (2 : Nat) (Option.none : Option FieldType) ∈ pg_T := pg_t3 (List.mem_of_getElem? (i := 211) (by decide +kernel)) rfl
theorem we275 : Cond.methodLink "BoundedTypes" (117 : Nat) ({ cls := "BoundedTypes$Reader", name := "readExpression", desc := "(I)V" } : MethodName) ∈ pg_T := pg_t3 (List.mem_of_getElem? (i := 208) (by decide +kernel)) rfl
theorem we276 : Cond.instanceMethod ({ cls := "BoundedTypes$Reader", name := "readExpression", desc := "(I)V" } : MethodName) ∈ pg_T := pg_t3 (List.mem_of_getElem? (i := 209) (by decide +kernel)) rfl
theorem we277 : Cond.selects "BoundedTypes$Reader" ({ cls := "BoundedTypes$Reader", name := "readExpression", desc := "(I)V" } : MethodName) ({ cls := "BoundedTypes$Reader", name := "readExpression", desc := "(I)V" } : MethodName) ∈ pg_T := pg_t3 (List.mem_of_getElem? (i := 210) (by decide +kernel)) rfl
theorem we278 : Cond.code ({ cls := "BoundedTypes$Machine", name := "dropValue", desc := "()V" } : MethodName) prog_7_method_2_code (1 : Nat) (Option.none : Option FieldType) ∈ pg_T := pg_t3 (List.mem_of_getElem? (i := 215) (by decide +kernel)) rfl
theorem we279 : Cond.methodLink "BoundedTypes" (120 : Nat) ({ cls := "BoundedTypes$Machine", name := "dropValue", desc := "()V" } : MethodName) ∈ pg_T := pg_t3 (List.mem_of_getElem? (i := 212) (by decide +kernel)) rfl
theorem we280 : Cond.instanceMethod ({ cls := "BoundedTypes$Machine", name := "dropValue", desc := "()V" } : MethodName) ∈ pg_T := pg_t3 (List.mem_of_getElem? (i := 213) (by decide +kernel)) rfl
theorem we281 : Cond.selects "BoundedTypes$Machine" ({ cls := "BoundedTypes$Machine", name := "dropValue", desc := "()V" } : MethodName) ({ cls := "BoundedTypes$Machine", name := "dropValue", desc := "()V" } : MethodName) ∈ pg_T := pg_t3 (List.mem_of_getElem? (i := 214) (by decide +kernel)) rfl
theorem we282 : Cond.code ({ cls := "BoundedTypes$Entry", name := "methodNamed", desc := "(I)LBoundedTypes$Member;" } : MethodName) prog_5_method_5_code (2 : Nat) (Option.some (FieldType.object "BoundedTypes$Member")) ∈ pg_T := pg_t3 (List.mem_of_getElem? (i := 70) (by decide +kernel)) rfl
theorem we283 : Cond.methodLink "BoundedTypes$Rules" (54 : Nat) ({ cls := "BoundedTypes$Entry", name := "methodNamed", desc := "(I)LBoundedTypes$Member;" } : MethodName) ∈ pg_T := pg_t3 (List.mem_of_getElem? (i := 79) (by decide +kernel)) rfl
theorem we284 : Cond.instanceMethod ({ cls := "BoundedTypes$Entry", name := "methodNamed", desc := "(I)LBoundedTypes$Member;" } : MethodName) ∈ pg_T := pg_t3 (List.mem_of_getElem? (i := 68) (by decide +kernel)) rfl
theorem we285 : Cond.selects "BoundedTypes$Entry" ({ cls := "BoundedTypes$Entry", name := "methodNamed", desc := "(I)LBoundedTypes$Member;" } : MethodName) ({ cls := "BoundedTypes$Entry", name := "methodNamed", desc := "(I)LBoundedTypes$Member;" } : MethodName) ∈ pg_T := pg_t3 (List.mem_of_getElem? (i := 69) (by decide +kernel)) rfl
theorem we286 : Cond.fieldLinkNest "BoundedTypes$Rules" (58 : Nat) "BoundedTypes$Entry" "aboveClass" "I" "BoundedTypes" ∈ pg_N := pg_n0 (List.mem_of_getElem? (i := 174) (by decide +kernel)) rfl
theorem we287 : Cond.fieldLinkNest "BoundedTypes" (137 : Nat) "BoundedTypes$Machine" "textLength" "I" "BoundedTypes" ∈ pg_N := pg_n1 (List.mem_of_getElem? (i := 92) (by decide +kernel)) rfl
theorem we288 : Cond.fieldLinkNest "BoundedTypes" (140 : Nat) "BoundedTypes$Machine" "text" "[C" "BoundedTypes" ∈ pg_N := pg_n1 (List.mem_of_getElem? (i := 90) (by decide +kernel)) rfl
theorem we289 : Cond.fieldLinkNest "BoundedTypes" (143 : Nat) "BoundedTypes$Machine" "fuel" "I" "BoundedTypes" ∈ pg_N := pg_n1 (List.mem_of_getElem? (i := 88) (by decide +kernel)) rfl
theorem we290 : Cond.methodLink "BoundedTypes" (146 : Nat) ({ cls := "BoundedTypes$Rules", name := "entryNamed", desc := "(I)LBoundedTypes$Entry;" } : MethodName) ∈ pg_T := pg_t4 (List.mem_of_getElem? (i := 65) (by decide +kernel)) rfl
theorem we291 : Cond.fieldLinkNest "BoundedTypes" (149 : Nat) "BoundedTypes$Entry" "fieldCount" "I" "BoundedTypes" ∈ pg_N := pg_n0 (List.mem_of_getElem? (i := 187) (by decide +kernel)) rfl
theorem we292 : Cond.code ({ cls := "BoundedTypes$Rules", name := "classWithMethod", desc := "(II)I" } : MethodName) prog_10_method_7_code (6 : Nat) (Option.some FieldType.int) ∈ pg_T := pg_t4 (List.mem_of_getElem? (i := 21) (by decide +kernel)) rfl
theorem we293 : Cond.methodLink "BoundedTypes" (154 : Nat) ({ cls := "BoundedTypes$Rules", name := "classWithMethod", desc := "(II)I" } : MethodName) ∈ pg_T := pg_t4 (List.mem_of_getElem? (i := 70) (by decide +kernel)) rfl
theorem we294 : Cond.instanceMethod ({ cls := "BoundedTypes$Rules", name := "classWithMethod", desc := "(II)I" } : MethodName) ∈ pg_T := pg_t4 (List.mem_of_getElem? (i := 19) (by decide +kernel)) rfl
theorem we295 : Cond.selects "BoundedTypes$Rules" ({ cls := "BoundedTypes$Rules", name := "classWithMethod", desc := "(II)I" } : MethodName) ({ cls := "BoundedTypes$Rules", name := "classWithMethod", desc := "(II)I" } : MethodName) ∈ pg_T := pg_t4 (List.mem_of_getElem? (i := 20) (by decide +kernel)) rfl
theorem we296 : Cond.fieldLink "BoundedTypesModel" (31 : Nat) "BoundedTypesModel" "bound" "[I" ∈ pg_T := pg_t4 (List.mem_of_getElem? (i := 95) (by decide +kernel)) rfl
theorem we297 : Cond.fieldLink "BoundedTypesModel" (140 : Nat) "BoundedTypesModel" "nodes" "I" ∈ pg_T := pg_t4 (List.mem_of_getElem? (i := 88) (by decide +kernel)) rfl
theorem we298 : Cond.fieldLink "BoundedTypesModel" (34 : Nat) "BoundedTypesModel" "there" "[I" ∈ pg_T := pg_t4 (List.mem_of_getElem? (i := 96) (by decide +kernel)) rfl
theorem we299 : Cond.fieldLink "BoundedTypesModel" (46 : Nat) "BoundedTypesModel" "below" "[I" ∈ pg_T := pg_t4 (List.mem_of_getElem? (i := 100) (by decide +kernel)) rfl
theorem we300 : Cond.initialized "BoundedTypesModel" ∈ pg_T := pg_t0 (List.mem_of_getElem? (i := 15) (by decide +kernel)) rfl
theorem we301 : Cond.code ({ cls := "BoundedTypesModel", name := "noScope", desc := "()V" } : MethodName) prog_13_method_8_code (2 : Nat) (Option.none : Option FieldType) ∈ pg_T := pg_t4 (List.mem_of_getElem? (i := 80) (by decide +kernel)) rfl
theorem we302 : Cond.methodLink "BoundedTypesModel" (144 : Nat) ({ cls := "BoundedTypesModel", name := "noScope", desc := "()V" } : MethodName) ∈ pg_T := pg_t4 (List.mem_of_getElem? (i := 77) (by decide +kernel)) rfl
theorem we303 : Cond.instanceMethod ({ cls := "BoundedTypesModel", name := "noScope", desc := "()V" } : MethodName) ∈ pg_T := pg_t4 (List.mem_of_getElem? (i := 79) (by decide +kernel)) rfl
theorem we304 : Cond.selects "BoundedTypesModel" ⟨"BoundedTypesModel", "noScope", "()V"⟩ ⟨"BoundedTypesModel", "noScope", "()V"⟩ ∈ pg_T := pg_s3 (q := (⟨"BoundedTypesModel", "noScope", "()V"⟩, 59)) (List.mem_of_getElem? (i := 4) (by decide +kernel))
theorem we305 : Cond.fieldLink "BoundedTypesModel" (13 : Nat) "BoundedTypesModel" "code" "[I" ∈ pg_T := pg_t4 (List.mem_of_getElem? (i := 89) (by decide +kernel)) rfl
theorem we306 : Cond.methodLink "BoundedTypesModel" (1 : Nat) ({ cls := "java/lang/Object", name := "<init>", desc := "()V" } : MethodName) ∈ pg_T := pg_t4 (List.mem_of_getElem? (i := 76) (by decide +kernel)) rfl
theorem we307 : Cond.fieldLink "BoundedTypesModel" (7 : Nat) "BoundedTypesModel" "chars" "[I" ∈ pg_T := pg_t4 (List.mem_of_getElem? (i := 81) (by decide +kernel)) rfl
theorem we308 : Cond.fieldLink "BoundedTypesModel" (16 : Nat) "BoundedTypesModel" "part" "[I" ∈ pg_T := pg_t4 (List.mem_of_getElem? (i := 90) (by decide +kernel)) rfl
theorem we309 : Cond.fieldLink "BoundedTypesModel" (19 : Nat) "BoundedTypesModel" "work" "[I" ∈ pg_T := pg_t4 (List.mem_of_getElem? (i := 91) (by decide +kernel)) rfl
theorem we310 : Cond.fieldLink "BoundedTypesModel" (22 : Nat) "BoundedTypesModel" "reached" "[I" ∈ pg_T := pg_t4 (List.mem_of_getElem? (i := 92) (by decide +kernel)) rfl
theorem we311 : Cond.fieldLink "BoundedTypesModel" (25 : Nat) "BoundedTypesModel" "held" "[I" ∈ pg_T := pg_t4 (List.mem_of_getElem? (i := 93) (by decide +kernel)) rfl
theorem we312 : Cond.fieldLink "BoundedTypesModel" (28 : Nat) "BoundedTypesModel" "map" "[I" ∈ pg_T := pg_t4 (List.mem_of_getElem? (i := 94) (by decide +kernel)) rfl
theorem we313 : Cond.fieldLink "BoundedTypesModel" (37 : Nat) "BoundedTypesModel" "vars" "[I" ∈ pg_T := pg_t4 (List.mem_of_getElem? (i := 97) (by decide +kernel)) rfl
theorem we314 : Cond.fieldLink "BoundedTypesModel" (40 : Nat) "BoundedTypesModel" "letter" "[I" ∈ pg_T := pg_t4 (List.mem_of_getElem? (i := 98) (by decide +kernel)) rfl
theorem we315 : Cond.fieldLink "BoundedTypesModel" (43 : Nat) "BoundedTypesModel" "limit" "[I" ∈ pg_T := pg_t4 (List.mem_of_getElem? (i := 99) (by decide +kernel)) rfl
theorem we316 : Cond.fieldLink "BoundedTypesModel" (49 : Nat) "BoundedTypesModel" "newLetter" "[I" ∈ pg_T := pg_t4 (List.mem_of_getElem? (i := 102) (by decide +kernel)) rfl
theorem we317 : Cond.fieldLink "BoundedTypesModel" (52 : Nat) "BoundedTypesModel" "newLimit" "[I" ∈ pg_T := pg_t4 (List.mem_of_getElem? (i := 103) (by decide +kernel)) rfl
theorem we318 : Cond.fieldLink "BoundedTypesModel" (55 : Nat) "BoundedTypesModel" "fieldClass" "[I" ∈ pg_T := pg_t4 (List.mem_of_getElem? (i := 105) (by decide +kernel)) rfl
theorem we319 : Cond.fieldLink "BoundedTypesModel" (58 : Nat) "BoundedTypesModel" "fieldName" "[I" ∈ pg_T := pg_t4 (List.mem_of_getElem? (i := 106) (by decide +kernel)) rfl
theorem we320 : Cond.fieldLink "BoundedTypesModel" (61 : Nat) "BoundedTypesModel" "fieldType" "[I" ∈ pg_T := pg_t4 (List.mem_of_getElem? (i := 107) (by decide +kernel)) rfl
theorem we321 : Cond.fieldLink "BoundedTypesModel" (64 : Nat) "BoundedTypesModel" "owner" "[I" ∈ pg_T := pg_t4 (List.mem_of_getElem? (i := 109) (by decide +kernel)) rfl
theorem we322 : Cond.fieldLink "BoundedTypesModel" (67 : Nat) "BoundedTypesModel" "methodName" "[I" ∈ pg_T := pg_t4 (List.mem_of_getElem? (i := 110) (by decide +kernel)) rfl
theorem we323 : Cond.fieldLink "BoundedTypesModel" (70 : Nat) "BoundedTypesModel" "methodVars" "[I" ∈ pg_T := pg_t4 (List.mem_of_getElem? (i := 111) (by decide +kernel)) rfl
theorem we324 : Cond.fieldLink "BoundedTypesModel" (73 : Nat) "BoundedTypesModel" "methodLetter" "[I" ∈ pg_T := pg_t4 (List.mem_of_getElem? (i := 112) (by decide +kernel)) rfl
theorem we325 : Cond.fieldLink "BoundedTypesModel" (76 : Nat) "BoundedTypesModel" "methodLimit" "[I" ∈ pg_T := pg_t4 (List.mem_of_getElem? (i := 113) (by decide +kernel)) rfl
theorem we326 : Cond.fieldLink "BoundedTypesModel" (79 : Nat) "BoundedTypesModel" "parameters" "[I" ∈ pg_T := pg_t4 (List.mem_of_getElem? (i := 114) (by decide +kernel)) rfl
theorem we327 : Cond.fieldLink "BoundedTypesModel" (82 : Nat) "BoundedTypesModel" "parameterName" "[I" ∈ pg_T := pg_t4 (List.mem_of_getElem? (i := 115) (by decide +kernel)) rfl
theorem we328 : Cond.fieldLink "BoundedTypesModel" (85 : Nat) "BoundedTypesModel" "parameterType" "[I" ∈ pg_T := pg_t4 (List.mem_of_getElem? (i := 116) (by decide +kernel)) rfl
theorem we329 : Cond.fieldLink "BoundedTypesModel" (88 : Nat) "BoundedTypesModel" "result" "[I" ∈ pg_T := pg_t4 (List.mem_of_getElem? (i := 117) (by decide +kernel)) rfl
theorem we330 : Cond.fieldLink "BoundedTypesModel" (91 : Nat) "BoundedTypesModel" "from" "[I" ∈ pg_T := pg_t4 (List.mem_of_getElem? (i := 118) (by decide +kernel)) rfl
theorem we331 : Cond.fieldLink "BoundedTypesModel" (94 : Nat) "BoundedTypesModel" "to" "[I" ∈ pg_T := pg_t4 (List.mem_of_getElem? (i := 119) (by decide +kernel)) rfl
theorem we332 : Cond.arrayClass FieldType.long ∈ pg_T := pg_t5 (List.mem_of_getElem? (i := 19) (by decide +kernel)) rfl
theorem we333 : Cond.fieldLink "BoundedTypesModel" (97 : Nat) "BoundedTypesModel" "step" "[J" ∈ pg_T := pg_t4 (List.mem_of_getElem? (i := 121) (by decide +kernel)) rfl
theorem we334 : Cond.fieldLink "BoundedTypesModel" (101 : Nat) "BoundedTypesModel" "member" "[I" ∈ pg_T := pg_t4 (List.mem_of_getElem? (i := 123) (by decide +kernel)) rfl
theorem we335 : Cond.fieldLink "BoundedTypesModel" (104 : Nat) "BoundedTypesModel" "kind" "[I" ∈ pg_T := pg_t4 (List.mem_of_getElem? (i := 124) (by decide +kernel)) rfl
theorem we336 : Cond.fieldLink "BoundedTypesModel" (107 : Nat) "BoundedTypesModel" "about" "[I" ∈ pg_T := pg_t4 (List.mem_of_getElem? (i := 125) (by decide +kernel)) rfl
theorem we337 : Cond.fieldLink "BoundedTypesModel" (110 : Nat) "BoundedTypesModel" "many" "[I" ∈ pg_T := pg_t4 (List.mem_of_getElem? (i := 126) (by decide +kernel)) rfl
theorem we338 : Cond.fieldLink "BoundedTypesModel" (113 : Nat) "BoundedTypesModel" "types" "[I" ∈ pg_T := pg_t4 (List.mem_of_getElem? (i := 127) (by decide +kernel)) rfl
theorem we339 : Cond.fieldLink "BoundedTypesModel" (116 : Nat) "BoundedTypesModel" "given" "[I" ∈ pg_T := pg_t4 (List.mem_of_getElem? (i := 128) (by decide +kernel)) rfl
theorem we340 : Cond.fieldLink "BoundedTypesModel" (119 : Nat) "BoundedTypesModel" "values" "[I" ∈ pg_T := pg_t4 (List.mem_of_getElem? (i := 129) (by decide +kernel)) rfl
theorem we341 : Cond.fieldLink "BoundedTypesModel" (122 : Nat) "BoundedTypesModel" "heap" "[I" ∈ pg_T := pg_t4 (List.mem_of_getElem? (i := 131) (by decide +kernel)) rfl
theorem we342 : Cond.fieldLink "BoundedTypesModel" (125 : Nat) "BoundedTypesModel" "callMethod" "[I" ∈ pg_T := pg_t4 (List.mem_of_getElem? (i := 132) (by decide +kernel)) rfl
theorem we343 : Cond.fieldLink "BoundedTypesModel" (128 : Nat) "BoundedTypesModel" "callStep" "[I" ∈ pg_T := pg_t4 (List.mem_of_getElem? (i := 133) (by decide +kernel)) rfl
theorem we344 : Cond.fieldLink "BoundedTypesModel" (131 : Nat) "BoundedTypesModel" "callThis" "[I" ∈ pg_T := pg_t4 (List.mem_of_getElem? (i := 134) (by decide +kernel)) rfl
theorem we345 : Cond.fieldLink "BoundedTypesModel" (134 : Nat) "BoundedTypesModel" "callGiven" "[I" ∈ pg_T := pg_t4 (List.mem_of_getElem? (i := 135) (by decide +kernel)) rfl
theorem we346 : Cond.fieldLink "BoundedTypesModel" (137 : Nat) "BoundedTypesModel" "text" "[I" ∈ pg_T := pg_t4 (List.mem_of_getElem? (i := 136) (by decide +kernel)) rfl
theorem we347 : Cond.fieldLink "BoundedTypesModel" (151 : Nat) "BoundedTypesModel" "typed" "I" ∈ pg_T := pg_t4 (List.mem_of_getElem? (i := 82) (by decide +kernel)) rfl
theorem we348 : Cond.code ({ cls := "BoundedTypesModel", name := "in", desc := "(III)Z" } : MethodName) prog_13_method_2_code (3 : Nat) (Option.some FieldType.boolean) ∈ pg_T := pg_t5 (List.mem_of_getElem? (i := 26) (by decide +kernel)) rfl
theorem we349 : Cond.methodLink "BoundedTypesModel" (147 : Nat) ({ cls := "BoundedTypesModel", name := "in", desc := "(III)Z" } : MethodName) ∈ pg_T := pg_t5 (List.mem_of_getElem? (i := 24) (by decide +kernel)) rfl
theorem we350 : Cond.static ({ cls := "BoundedTypesModel", name := "in", desc := "(III)Z" } : MethodName) ∈ pg_T := pg_t5 (List.mem_of_getElem? (i := 25) (by decide +kernel)) rfl
theorem we351 : Cond.fieldLink "BoundedTypesModel" (202 : Nat) "BoundedTypesModel" "at" "I" ∈ pg_T := pg_t4 (List.mem_of_getElem? (i := 84) (by decide +kernel)) rfl
theorem we352 : Cond.fieldLink "BoundedTypesModel" (205 : Nat) "BoundedTypesModel" "size" "I" ∈ pg_T := pg_t4 (List.mem_of_getElem? (i := 83) (by decide +kernel)) rfl
theorem we353 : Cond.fieldLink "BoundedTypesModel" (218 : Nat) "BoundedTypesModel" "depth" "I" ∈ pg_T := pg_t4 (List.mem_of_getElem? (i := 85) (by decide +kernel)) rfl
theorem we354 : Cond.fieldLink "BoundedTypesModel" (212 : Nat) "BoundedTypesModel" "fault" "I" ∈ pg_T := pg_t4 (List.mem_of_getElem? (i := 86) (by decide +kernel)) rfl
theorem we355 : Cond.fieldLink "BoundedTypesModel" (189 : Nat) "BoundedTypesModel" "behind" "I" ∈ pg_T := pg_t4 (List.mem_of_getElem? (i := 101) (by decide +kernel)) rfl
theorem we356 : Cond.code ({ cls := "BoundedTypesModel", name := "look", desc := "()I" } : MethodName) prog_13_method_20_code (1 : Nat) (Option.some FieldType.int) ∈ pg_T := pg_t5 (List.mem_of_getElem? (i := 42) (by decide +kernel)) rfl
theorem we357 : Cond.methodLink "BoundedTypesModel" (208 : Nat) ({ cls := "BoundedTypesModel", name := "look", desc := "()I" } : MethodName) ∈ pg_T := pg_t5 (List.mem_of_getElem? (i := 39) (by decide +kernel)) rfl
theorem we358 : Cond.instanceMethod ({ cls := "BoundedTypesModel", name := "look", desc := "()I" } : MethodName) ∈ pg_T := pg_t5 (List.mem_of_getElem? (i := 41) (by decide +kernel)) rfl
theorem we359 : Cond.selects "BoundedTypesModel" ⟨"BoundedTypesModel", "look", "()I"⟩ ⟨"BoundedTypesModel", "look", "()I"⟩ ∈ pg_T := pg_s3 (q := (⟨"BoundedTypesModel", "look", "()I"⟩, 59)) (List.mem_of_getElem? (i := 7) (by decide +kernel))
theorem we360 : Cond.code ({ cls := "BoundedTypesModel", name := "fail", desc := "()V" } : MethodName) prog_13_method_21_code (1 : Nat) (Option.none : Option FieldType) ∈ pg_T := pg_t5 (List.mem_of_getElem? (i := 46) (by decide +kernel)) rfl
theorem we361 : Cond.methodLink "BoundedTypesModel" (215 : Nat) ({ cls := "BoundedTypesModel", name := "fail", desc := "()V" } : MethodName) ∈ pg_T := pg_t5 (List.mem_of_getElem? (i := 43) (by decide +kernel)) rfl
theorem we362 : Cond.instanceMethod ({ cls := "BoundedTypesModel", name := "fail", desc := "()V" } : MethodName) ∈ pg_T := pg_t5 (List.mem_of_getElem? (i := 45) (by decide +kernel)) rfl
theorem we363 : Cond.selects "BoundedTypesModel" ⟨"BoundedTypesModel", "fail", "()V"⟩ ⟨"BoundedTypesModel", "fail", "()V"⟩ ∈ pg_T := pg_s3 (q := (⟨"BoundedTypesModel", "fail", "()V"⟩, 59)) (List.mem_of_getElem? (i := 8) (by decide +kernel))
theorem we364 : Cond.code ({ cls := "BoundedTypesModel", name := "close", desc := "(I)V" } : MethodName) prog_13_method_24_code (2 : Nat) (Option.none : Option FieldType) ∈ pg_T := pg_t5 (List.mem_of_getElem? (i := 74) (by decide +kernel)) rfl
theorem we365 : Cond.methodLink "BoundedTypesModel" (231 : Nat) ({ cls := "BoundedTypesModel", name := "close", desc := "(I)V" } : MethodName) ∈ pg_T := pg_t5 (List.mem_of_getElem? (i := 71) (by decide +kernel)) rfl
theorem we366 : Cond.instanceMethod ({ cls := "BoundedTypesModel", name := "close", desc := "(I)V" } : MethodName) ∈ pg_T := pg_t5 (List.mem_of_getElem? (i := 73) (by decide +kernel)) rfl
theorem we367 : Cond.selects "BoundedTypesModel" ⟨"BoundedTypesModel", "close", "(I)V"⟩ ⟨"BoundedTypesModel", "close", "(I)V"⟩ ∈ pg_T := pg_s3 (q := (⟨"BoundedTypesModel", "close", "(I)V"⟩, 59)) (List.mem_of_getElem? (i := 15) (by decide +kernel))
theorem we368 : Cond.code ({ cls := "BoundedTypesModel", name := "open", desc := "(I)V" } : MethodName) prog_13_method_23_code (2 : Nat) (Option.none : Option FieldType) ∈ pg_T := pg_t5 (List.mem_of_getElem? (i := 54) (by decide +kernel)) rfl
theorem we369 : Cond.methodLink "BoundedTypesModel" (224 : Nat) ({ cls := "BoundedTypesModel", name := "open", desc := "(I)V" } : MethodName) ∈ pg_T := pg_t5 (List.mem_of_getElem? (i := 51) (by decide +kernel)) rfl
theorem we370 : Cond.instanceMethod ({ cls := "BoundedTypesModel", name := "open", desc := "(I)V" } : MethodName) ∈ pg_T := pg_t5 (List.mem_of_getElem? (i := 53) (by decide +kernel)) rfl
theorem we371 : Cond.selects "BoundedTypesModel" ⟨"BoundedTypesModel", "open", "(I)V"⟩ ⟨"BoundedTypesModel", "open", "(I)V"⟩ ∈ pg_T := pg_s3 (q := (⟨"BoundedTypesModel", "open", "(I)V"⟩, 59)) (List.mem_of_getElem? (i := 10) (by decide +kernel))
theorem we372 : Cond.code ({ cls := "BoundedTypesModel", name := "readLetter", desc := "(II)I" } : MethodName) prog_13_method_25_code (4 : Nat) (Option.some FieldType.int) ∈ pg_T := pg_t5 (List.mem_of_getElem? (i := 38) (by decide +kernel)) rfl
theorem we373 : Cond.methodLink "BoundedTypesModel" (221 : Nat) ({ cls := "BoundedTypesModel", name := "readLetter", desc := "(II)I" } : MethodName) ∈ pg_T := pg_t5 (List.mem_of_getElem? (i := 35) (by decide +kernel)) rfl
theorem we374 : Cond.instanceMethod ({ cls := "BoundedTypesModel", name := "readLetter", desc := "(II)I" } : MethodName) ∈ pg_T := pg_t5 (List.mem_of_getElem? (i := 37) (by decide +kernel)) rfl
theorem we375 : Cond.selects "BoundedTypesModel" ⟨"BoundedTypesModel", "readLetter", "(II)I"⟩ ⟨"BoundedTypesModel", "readLetter", "(II)I"⟩ ∈ pg_T := pg_s3 (q := (⟨"BoundedTypesModel", "readLetter", "(II)I"⟩, 59)) (List.mem_of_getElem? (i := 6) (by decide +kernel))
theorem we376 : Cond.code ({ cls := "BoundedTypesModel", name := "expect", desc := "(I)V" } : MethodName) prog_13_method_22_code (2 : Nat) (Option.none : Option FieldType) ∈ pg_T := pg_t5 (List.mem_of_getElem? (i := 58) (by decide +kernel)) rfl
theorem we377 : Cond.methodLink "BoundedTypesModel" (237 : Nat) ({ cls := "BoundedTypesModel", name := "expect", desc := "(I)V" } : MethodName) ∈ pg_T := pg_t5 (List.mem_of_getElem? (i := 55) (by decide +kernel)) rfl
theorem we378 : Cond.instanceMethod ({ cls := "BoundedTypesModel", name := "expect", desc := "(I)V" } : MethodName) ∈ pg_T := pg_t5 (List.mem_of_getElem? (i := 57) (by decide +kernel)) rfl
theorem we379 : Cond.selects "BoundedTypesModel" ⟨"BoundedTypesModel", "expect", "(I)V"⟩ ⟨"BoundedTypesModel", "expect", "(I)V"⟩ ∈ pg_T := pg_s3 (q := (⟨"BoundedTypesModel", "expect", "(I)V"⟩, 59)) (List.mem_of_getElem? (i := 11) (by decide +kernel))
theorem we380 : Cond.code ({ cls := "BoundedTypesModel", name := "readType", desc := "(Z)I" } : MethodName) prog_13_method_26_code (8 : Nat) (Option.some FieldType.int) ∈ pg_T := pg_t5 (List.mem_of_getElem? (i := 62) (by decide +kernel)) rfl
theorem we381 : Cond.methodLink "BoundedTypesModel" (240 : Nat) ({ cls := "BoundedTypesModel", name := "readType", desc := "(Z)I" } : MethodName) ∈ pg_T := pg_t5 (List.mem_of_getElem? (i := 59) (by decide +kernel)) rfl
theorem we382 : Cond.instanceMethod ({ cls := "BoundedTypesModel", name := "readType", desc := "(Z)I" } : MethodName) ∈ pg_T := pg_t5 (List.mem_of_getElem? (i := 61) (by decide +kernel)) rfl
theorem we383 : Cond.selects "BoundedTypesModel" ⟨"BoundedTypesModel", "readType", "(Z)I"⟩ ⟨"BoundedTypesModel", "readType", "(Z)I"⟩ ∈ pg_T := pg_s3 (q := (⟨"BoundedTypesModel", "readType", "(Z)I"⟩, 59)) (List.mem_of_getElem? (i := 12) (by decide +kernel))
theorem we384 : Cond.fieldLink "BoundedTypesModel" (287 : Nat) "BoundedTypesModel" "fieldCount" "I" ∈ pg_T := pg_t4 (List.mem_of_getElem? (i := 104) (by decide +kernel)) rfl
theorem we385 : Cond.fieldLink "BoundedTypesModel" (293 : Nat) "BoundedTypesModel" "methodCount" "I" ∈ pg_T := pg_t4 (List.mem_of_getElem? (i := 108) (by decide +kernel)) rfl
theorem we386 : Cond.fieldLink "BoundedTypesModel" (244 : Nat) "BoundedTypesModel" "steps" "I" ∈ pg_T := pg_t4 (List.mem_of_getElem? (i := 120) (by decide +kernel)) rfl
theorem we387 : Cond.fieldLink "BoundedTypesModel" (309 : Nat) "BoundedTypesModel" "wrong" "I" ∈ pg_T := pg_t4 (List.mem_of_getElem? (i := 87) (by decide +kernel)) rfl
theorem we388 : Cond.code ({ cls := "BoundedTypesModel", name := "begin", desc := "()V" } : MethodName) prog_13_method_41_code (1 : Nat) (Option.none : Option FieldType) ∈ pg_T := pg_t5 (List.mem_of_getElem? (i := 34) (by decide +kernel)) rfl
theorem we389 : Cond.methodLink "BoundedTypesModel" (303 : Nat) ({ cls := "BoundedTypesModel", name := "begin", desc := "()V" } : MethodName) ∈ pg_T := pg_t5 (List.mem_of_getElem? (i := 31) (by decide +kernel)) rfl
theorem we390 : Cond.instanceMethod ({ cls := "BoundedTypesModel", name := "begin", desc := "()V" } : MethodName) ∈ pg_T := pg_t5 (List.mem_of_getElem? (i := 33) (by decide +kernel)) rfl
theorem we391 : Cond.selects "BoundedTypesModel" ⟨"BoundedTypesModel", "begin", "()V"⟩ ⟨"BoundedTypesModel", "begin", "()V"⟩ ∈ pg_T := pg_s3 (q := (⟨"BoundedTypesModel", "begin", "()V"⟩, 59)) (List.mem_of_getElem? (i := 5) (by decide +kernel))
theorem we392 : Cond.code ({ cls := "BoundedTypesModel", name := "readBounds", desc := "([I[II)I" } : MethodName) prog_13_method_29_code (6 : Nat) (Option.some FieldType.int) ∈ pg_T := pg_t5 (List.mem_of_getElem? (i := 50) (by decide +kernel)) rfl
theorem we393 : Cond.methodLink "BoundedTypesModel" (296 : Nat) ({ cls := "BoundedTypesModel", name := "readBounds", desc := "([I[II)I" } : MethodName) ∈ pg_T := pg_t5 (List.mem_of_getElem? (i := 47) (by decide +kernel)) rfl
theorem we394 : Cond.instanceMethod ({ cls := "BoundedTypesModel", name := "readBounds", desc := "([I[II)I" } : MethodName) ∈ pg_T := pg_t5 (List.mem_of_getElem? (i := 49) (by decide +kernel)) rfl
theorem we395 : Cond.selects "BoundedTypesModel" ⟨"BoundedTypesModel", "readBounds", "([I[II)I"⟩ ⟨"BoundedTypesModel", "readBounds", "([I[II)I"⟩ ∈ pg_T := pg_s3 (q := (⟨"BoundedTypesModel", "readBounds", "([I[II)I"⟩, 59)) (List.mem_of_getElem? (i := 9) (by decide +kernel))
theorem we396 : Cond.fieldLink "BoundedTypesModel" (290 : Nat) "BoundedTypesModel" "members" "I" ∈ pg_T := pg_t4 (List.mem_of_getElem? (i := 122) (by decide +kernel)) rfl
theorem we397 : Cond.constantLong "BoundedTypesModel" (247 : Nat) (16 : Int64) ∈ pg_T := pg_t5 (List.mem_of_getElem? (i := 99) (by decide +kernel)) rfl
theorem we398 : Cond.constantLong "BoundedTypesModel" (249 : Nat) (8192 : Int64) ∈ pg_T := pg_t5 (List.mem_of_getElem? (i := 100) (by decide +kernel)) rfl
theorem we399 : Cond.code ({ cls := "BoundedTypesModel", name := "put", desc := "(III)V" } : MethodName) prog_13_method_30_code (4 : Nat) (Option.none : Option FieldType) ∈ pg_T := pg_t5 (List.mem_of_getElem? (i := 98) (by decide +kernel)) rfl
theorem we400 : Cond.methodLink "BoundedTypesModel" (267 : Nat) ({ cls := "BoundedTypesModel", name := "put", desc := "(III)V" } : MethodName) ∈ pg_T := pg_t5 (List.mem_of_getElem? (i := 95) (by decide +kernel)) rfl
theorem we401 : Cond.instanceMethod ({ cls := "BoundedTypesModel", name := "put", desc := "(III)V" } : MethodName) ∈ pg_T := pg_t5 (List.mem_of_getElem? (i := 97) (by decide +kernel)) rfl
theorem we402 : Cond.selects "BoundedTypesModel" ⟨"BoundedTypesModel", "put", "(III)V"⟩ ⟨"BoundedTypesModel", "put", "(III)V"⟩ ∈ pg_T := pg_s4 (q := (⟨"BoundedTypesModel", "put", "(III)V"⟩, 59)) (List.mem_of_getElem? (i := 5) (by decide +kernel))
theorem we403 : Cond.code ({ cls := "BoundedTypesModel", name := "readBase", desc := "(I)I" } : MethodName) prog_13_method_39_code (4 : Nat) (Option.some FieldType.int) ∈ pg_T := pg_t5 (List.mem_of_getElem? (i := 90) (by decide +kernel)) rfl
theorem we404 : Cond.methodLink "BoundedTypesModel" (261 : Nat) ({ cls := "BoundedTypesModel", name := "readBase", desc := "(I)I" } : MethodName) ∈ pg_T := pg_t5 (List.mem_of_getElem? (i := 87) (by decide +kernel)) rfl
theorem we405 : Cond.instanceMethod ({ cls := "BoundedTypesModel", name := "readBase", desc := "(I)I" } : MethodName) ∈ pg_T := pg_t5 (List.mem_of_getElem? (i := 89) (by decide +kernel)) rfl
theorem we406 : Cond.selects "BoundedTypesModel" ⟨"BoundedTypesModel", "readBase", "(I)I"⟩ ⟨"BoundedTypesModel", "readBase", "(I)I"⟩ ∈ pg_T := pg_s4 (q := (⟨"BoundedTypesModel", "readBase", "(I)I"⟩, 59)) (List.mem_of_getElem? (i := 3) (by decide +kernel))
theorem we407 : Cond.code ({ cls := "BoundedTypesModel", name := "classOf", desc := "(I)I" } : MethodName) prog_13_method_6_code (2 : Nat) (Option.some FieldType.int) ∈ pg_T := pg_t5 (List.mem_of_getElem? (i := 125) (by decide +kernel)) rfl
theorem we408 : Cond.methodLink "BoundedTypesModel" (154 : Nat) ({ cls := "BoundedTypesModel", name := "classOf", desc := "(I)I" } : MethodName) ∈ pg_T := pg_t5 (List.mem_of_getElem? (i := 122) (by decide +kernel)) rfl
theorem we409 : Cond.instanceMethod ({ cls := "BoundedTypesModel", name := "classOf", desc := "(I)I" } : MethodName) ∈ pg_T := pg_t5 (List.mem_of_getElem? (i := 124) (by decide +kernel)) rfl
theorem we410 : Cond.selects "BoundedTypesModel" ⟨"BoundedTypesModel", "classOf", "(I)I"⟩ ⟨"BoundedTypesModel", "classOf", "(I)I"⟩ ∈ pg_T := pg_s4 (q := (⟨"BoundedTypesModel", "classOf", "(I)I"⟩, 59)) (List.mem_of_getElem? (i := 10) (by decide +kernel))
theorem we411 : Cond.code ({ cls := "BoundedTypesModel", name := "upper", desc := "(I)I" } : MethodName) prog_13_method_49_code (2 : Nat) (Option.some FieldType.int) ∈ pg_T := pg_t5 (List.mem_of_getElem? (i := 200) (by decide +kernel)) rfl
theorem we412 : Cond.methodLink "BoundedTypesModel" (341 : Nat) ({ cls := "BoundedTypesModel", name := "upper", desc := "(I)I" } : MethodName) ∈ pg_T := pg_t5 (List.mem_of_getElem? (i := 197) (by decide +kernel)) rfl
theorem we413 : Cond.instanceMethod ({ cls := "BoundedTypesModel", name := "upper", desc := "(I)I" } : MethodName) ∈ pg_T := pg_t5 (List.mem_of_getElem? (i := 199) (by decide +kernel)) rfl
theorem we414 : Cond.selects "BoundedTypesModel" ⟨"BoundedTypesModel", "upper", "(I)I"⟩ ⟨"BoundedTypesModel", "upper", "(I)I"⟩ ∈ pg_T := pg_s5 (q := (⟨"BoundedTypesModel", "upper", "(I)I"⟩, 59)) (List.mem_of_getElem? (i := 12) (by decide +kernel))
theorem we415 : Cond.fieldLink "BoundedTypesModel" (410 : Nat) "BoundedTypesModel" "fuelLeft" "I" ∈ pg_T := pg_t4 (List.mem_of_getElem? (i := 138) (by decide +kernel)) rfl
theorem we416 : Cond.fieldLink "BoundedTypesModel" (416 : Nat) "BoundedTypesModel" "textSize" "I" ∈ pg_T := pg_t4 (List.mem_of_getElem? (i := 137) (by decide +kernel)) rfl
theorem we417 : Cond.code ({ cls := "BoundedTypesModel", name := "readExpression", desc := "()V" } : MethodName) prog_13_method_36_code (4 : Nat) (Option.none : Option FieldType) ∈ pg_T := pg_t5 (List.mem_of_getElem? (i := 86) (by decide +kernel)) rfl
theorem we418 : Cond.methodLink "BoundedTypesModel" (300 : Nat) ({ cls := "BoundedTypesModel", name := "readExpression", desc := "()V" } : MethodName) ∈ pg_T := pg_t5 (List.mem_of_getElem? (i := 83) (by decide +kernel)) rfl
theorem we419 : Cond.instanceMethod ({ cls := "BoundedTypesModel", name := "readExpression", desc := "()V" } : MethodName) ∈ pg_T := pg_t5 (List.mem_of_getElem? (i := 85) (by decide +kernel)) rfl
theorem we420 : Cond.selects "BoundedTypesModel" ⟨"BoundedTypesModel", "readExpression", "()V"⟩ ⟨"BoundedTypesModel", "readExpression", "()V"⟩ ∈ pg_T := pg_s4 (q := (⟨"BoundedTypesModel", "readExpression", "()V"⟩, 59)) (List.mem_of_getElem? (i := 2) (by decide +kernel))
theorem we421 : Cond.constant "BoundedTypesModel" (422 : Nat) (-100000 : Int32) ∈ pg_T := pg_t6 (List.mem_of_getElem? (i := 41) (by decide +kernel)) rfl
theorem we422 : Cond.code ({ cls := "BoundedTypesModel", name := "fieldsOf", desc := "(I)I" } : MethodName) prog_13_method_50_code (5 : Nat) (Option.some FieldType.int) ∈ pg_T := pg_t6 (List.mem_of_getElem? (i := 16) (by decide +kernel)) rfl
theorem we423 : Cond.methodLink "BoundedTypesModel" (356 : Nat) ({ cls := "BoundedTypesModel", name := "fieldsOf", desc := "(I)I" } : MethodName) ∈ pg_T := pg_t6 (List.mem_of_getElem? (i := 13) (by decide +kernel)) rfl
theorem we424 : Cond.instanceMethod ({ cls := "BoundedTypesModel", name := "fieldsOf", desc := "(I)I" } : MethodName) ∈ pg_T := pg_t6 (List.mem_of_getElem? (i := 15) (by decide +kernel)) rfl
theorem we425 : Cond.selects "BoundedTypesModel" ⟨"BoundedTypesModel", "fieldsOf", "(I)I"⟩ ⟨"BoundedTypesModel", "fieldsOf", "(I)I"⟩ ∈ pg_T := pg_s6 (q := (⟨"BoundedTypesModel", "fieldsOf", "(I)I"⟩, 59)) (List.mem_of_getElem? (i := 10) (by decide +kernel))
theorem we426 : Cond.code ({ cls := "BoundedTypesModel", name := "called", desc := "(II)I" } : MethodName) prog_13_method_67_code (5 : Nat) (Option.some FieldType.int) ∈ pg_T := pg_t6 (List.mem_of_getElem? (i := 65) (by decide +kernel)) rfl
theorem we427 : Cond.methodLink "BoundedTypesModel" (413 : Nat) ({ cls := "BoundedTypesModel", name := "called", desc := "(II)I" } : MethodName) ∈ pg_T := pg_t6 (List.mem_of_getElem? (i := 62) (by decide +kernel)) rfl
theorem we428 : Cond.instanceMethod ({ cls := "BoundedTypesModel", name := "called", desc := "(II)I" } : MethodName) ∈ pg_T := pg_t6 (List.mem_of_getElem? (i := 64) (by decide +kernel)) rfl
theorem we429 : Cond.selects "BoundedTypesModel" ⟨"BoundedTypesModel", "called", "(II)I"⟩ ⟨"BoundedTypesModel", "called", "(II)I"⟩ ∈ pg_T := pg_s7 (q := (⟨"BoundedTypesModel", "called", "(II)I"⟩, 59)) (List.mem_of_getElem? (i := 5) (by decide +kernel))
theorem we430 : Cond.code ({ cls := "BoundedTypes", name := "type", desc := "(II)Z" } : MethodName) prog_1_method_2_code (4 : Nat) (Option.some FieldType.boolean) ∈ pg_T := pg_t1 (List.mem_of_getElem? (i := 161) (by decide +kernel)) rfl
theorem we431 : Cond.methodLink "BoundedTypesLaw" (13 : Nat) ({ cls := "BoundedTypes", name := "type", desc := "(II)Z" } : MethodName) ∈ pg_T := pg_t1 (List.mem_of_getElem? (i := 158) (by decide +kernel)) rfl
theorem we432 : Cond.instanceMethod ({ cls := "BoundedTypes", name := "type", desc := "(II)Z" } : MethodName) ∈ pg_T := pg_t1 (List.mem_of_getElem? (i := 159) (by decide +kernel)) rfl
theorem we433 : Cond.selects "BoundedTypes" ({ cls := "BoundedTypes", name := "type", desc := "(II)Z" } : MethodName) ({ cls := "BoundedTypes", name := "type", desc := "(II)Z" } : MethodName) ∈ pg_T := pg_t1 (List.mem_of_getElem? (i := 160) (by decide +kernel)) rfl
theorem we434 : Cond.code ({ cls := "BoundedTypesModel", name := "type", desc := "(II)Z" } : MethodName) prog_13_method_3_code (5 : Nat) (Option.some FieldType.boolean) ∈ pg_T := pg_t5 (List.mem_of_getElem? (i := 23) (by decide +kernel)) rfl
theorem we435 : Cond.methodLink "BoundedTypesLaw" (17 : Nat) ({ cls := "BoundedTypesModel", name := "type", desc := "(II)Z" } : MethodName) ∈ pg_T := pg_t5 (List.mem_of_getElem? (i := 20) (by decide +kernel)) rfl
theorem we436 : Cond.instanceMethod ({ cls := "BoundedTypesModel", name := "type", desc := "(II)Z" } : MethodName) ∈ pg_T := pg_t5 (List.mem_of_getElem? (i := 21) (by decide +kernel)) rfl
theorem we437 : Cond.selects "BoundedTypesModel" ({ cls := "BoundedTypesModel", name := "type", desc := "(II)Z" } : MethodName) ({ cls := "BoundedTypesModel", name := "type", desc := "(II)Z" } : MethodName) ∈ pg_T := pg_t5 (List.mem_of_getElem? (i := 22) (by decide +kernel)) rfl
theorem we438 : Cond.code ({ cls := "BoundedTypes", name := "declare", desc := "()I" } : MethodName) prog_1_method_3_code (6 : Nat) (Option.some FieldType.int) ∈ pg_T := pg_t1 (List.mem_of_getElem? (i := 171) (by decide +kernel)) rfl
theorem we439 : Cond.methodLink "BoundedTypesLaw" (18 : Nat) ({ cls := "BoundedTypes", name := "declare", desc := "()I" } : MethodName) ∈ pg_T := pg_t1 (List.mem_of_getElem? (i := 168) (by decide +kernel)) rfl
theorem we440 : Cond.instanceMethod ({ cls := "BoundedTypes", name := "declare", desc := "()I" } : MethodName) ∈ pg_T := pg_t1 (List.mem_of_getElem? (i := 169) (by decide +kernel)) rfl
theorem we441 : Cond.selects "BoundedTypes" ({ cls := "BoundedTypes", name := "declare", desc := "()I" } : MethodName) ({ cls := "BoundedTypes", name := "declare", desc := "()I" } : MethodName) ∈ pg_T := pg_t1 (List.mem_of_getElem? (i := 170) (by decide +kernel)) rfl
theorem we442 : Cond.code ({ cls := "BoundedTypesModel", name := "declare", desc := "()I" } : MethodName) prog_13_method_43_code (9 : Nat) (Option.some FieldType.int) ∈ pg_T := pg_t5 (List.mem_of_getElem? (i := 30) (by decide +kernel)) rfl
theorem we443 : Cond.methodLink "BoundedTypesLaw" (22 : Nat) ({ cls := "BoundedTypesModel", name := "declare", desc := "()I" } : MethodName) ∈ pg_T := pg_t5 (List.mem_of_getElem? (i := 27) (by decide +kernel)) rfl
theorem we444 : Cond.instanceMethod ({ cls := "BoundedTypesModel", name := "declare", desc := "()I" } : MethodName) ∈ pg_T := pg_t5 (List.mem_of_getElem? (i := 28) (by decide +kernel)) rfl
theorem we445 : Cond.selects "BoundedTypesModel" ({ cls := "BoundedTypesModel", name := "declare", desc := "()I" } : MethodName) ({ cls := "BoundedTypesModel", name := "declare", desc := "()I" } : MethodName) ∈ pg_T := pg_t5 (List.mem_of_getElem? (i := 29) (by decide +kernel)) rfl
theorem we446 : Cond.code ({ cls := "BoundedTypes", name := "run", desc := "(I)I" } : MethodName) prog_1_method_4_code (5 : Nat) (Option.some FieldType.int) ∈ pg_T := pg_t3 (List.mem_of_getElem? (i := 206) (by decide +kernel)) rfl
theorem we447 : Cond.methodLink "BoundedTypesLaw" (23 : Nat) ({ cls := "BoundedTypes", name := "run", desc := "(I)I" } : MethodName) ∈ pg_T := pg_t3 (List.mem_of_getElem? (i := 203) (by decide +kernel)) rfl
theorem we448 : Cond.instanceMethod ({ cls := "BoundedTypes", name := "run", desc := "(I)I" } : MethodName) ∈ pg_T := pg_t3 (List.mem_of_getElem? (i := 204) (by decide +kernel)) rfl
theorem we449 : Cond.selects "BoundedTypes" ({ cls := "BoundedTypes", name := "run", desc := "(I)I" } : MethodName) ({ cls := "BoundedTypes", name := "run", desc := "(I)I" } : MethodName) ∈ pg_T := pg_t3 (List.mem_of_getElem? (i := 205) (by decide +kernel)) rfl
theorem we450 : Cond.code ({ cls := "BoundedTypesModel", name := "run", desc := "(I)I" } : MethodName) prog_13_method_74_code (5 : Nat) (Option.some FieldType.int) ∈ pg_T := pg_t6 (List.mem_of_getElem? (i := 40) (by decide +kernel)) rfl
theorem we451 : Cond.methodLink "BoundedTypesLaw" (27 : Nat) ({ cls := "BoundedTypesModel", name := "run", desc := "(I)I" } : MethodName) ∈ pg_T := pg_t6 (List.mem_of_getElem? (i := 37) (by decide +kernel)) rfl
theorem we452 : Cond.instanceMethod ({ cls := "BoundedTypesModel", name := "run", desc := "(I)I" } : MethodName) ∈ pg_T := pg_t6 (List.mem_of_getElem? (i := 38) (by decide +kernel)) rfl
theorem we453 : Cond.selects "BoundedTypesModel" ({ cls := "BoundedTypesModel", name := "run", desc := "(I)I" } : MethodName) ({ cls := "BoundedTypesModel", name := "run", desc := "(I)I" } : MethodName) ∈ pg_T := pg_t6 (List.mem_of_getElem? (i := 39) (by decide +kernel)) rfl
theorem we454 : Cond.code ({ cls := "BoundedTypes", name := "length", desc := "()I" } : MethodName) prog_1_method_5_code (1 : Nat) (Option.some FieldType.int) ∈ pg_T := pg_t4 (List.mem_of_getElem? (i := 52) (by decide +kernel)) rfl
theorem we455 : Cond.methodLink "BoundedTypesLaw" (28 : Nat) ({ cls := "BoundedTypes", name := "length", desc := "()I" } : MethodName) ∈ pg_T := pg_t4 (List.mem_of_getElem? (i := 49) (by decide +kernel)) rfl
theorem we456 : Cond.instanceMethod ({ cls := "BoundedTypes", name := "length", desc := "()I" } : MethodName) ∈ pg_T := pg_t4 (List.mem_of_getElem? (i := 50) (by decide +kernel)) rfl
theorem we457 : Cond.selects "BoundedTypes" ({ cls := "BoundedTypes", name := "length", desc := "()I" } : MethodName) ({ cls := "BoundedTypes", name := "length", desc := "()I" } : MethodName) ∈ pg_T := pg_t4 (List.mem_of_getElem? (i := 51) (by decide +kernel)) rfl
theorem we458 : Cond.code ({ cls := "BoundedTypesModel", name := "length", desc := "()I" } : MethodName) prog_13_method_75_code (1 : Nat) (Option.some FieldType.int) ∈ pg_T := pg_t6 (List.mem_of_getElem? (i := 77) (by decide +kernel)) rfl
theorem we459 : Cond.methodLink "BoundedTypesLaw" (31 : Nat) ({ cls := "BoundedTypesModel", name := "length", desc := "()I" } : MethodName) ∈ pg_T := pg_t6 (List.mem_of_getElem? (i := 74) (by decide +kernel)) rfl
theorem we460 : Cond.instanceMethod ({ cls := "BoundedTypesModel", name := "length", desc := "()I" } : MethodName) ∈ pg_T := pg_t6 (List.mem_of_getElem? (i := 75) (by decide +kernel)) rfl
theorem we461 : Cond.selects "BoundedTypesModel" ({ cls := "BoundedTypesModel", name := "length", desc := "()I" } : MethodName) ({ cls := "BoundedTypesModel", name := "length", desc := "()I" } : MethodName) ∈ pg_T := pg_t6 (List.mem_of_getElem? (i := 76) (by decide +kernel)) rfl
theorem we462 : Cond.code ({ cls := "BoundedTypes", name := "at", desc := "(I)I" } : MethodName) prog_1_method_6_code (2 : Nat) (Option.some FieldType.int) ∈ pg_T := pg_t4 (List.mem_of_getElem? (i := 56) (by decide +kernel)) rfl
theorem we463 : Cond.methodLink "BoundedTypesLaw" (32 : Nat) ({ cls := "BoundedTypes", name := "at", desc := "(I)I" } : MethodName) ∈ pg_T := pg_t4 (List.mem_of_getElem? (i := 53) (by decide +kernel)) rfl
theorem we464 : Cond.instanceMethod ({ cls := "BoundedTypes", name := "at", desc := "(I)I" } : MethodName) ∈ pg_T := pg_t4 (List.mem_of_getElem? (i := 54) (by decide +kernel)) rfl
theorem we465 : Cond.selects "BoundedTypes" ({ cls := "BoundedTypes", name := "at", desc := "(I)I" } : MethodName) ({ cls := "BoundedTypes", name := "at", desc := "(I)I" } : MethodName) ∈ pg_T := pg_t4 (List.mem_of_getElem? (i := 55) (by decide +kernel)) rfl
theorem we466 : Cond.code ({ cls := "BoundedTypesModel", name := "at", desc := "(I)I" } : MethodName) prog_13_method_76_code (2 : Nat) (Option.some FieldType.int) ∈ pg_T := pg_t6 (List.mem_of_getElem? (i := 81) (by decide +kernel)) rfl
theorem we467 : Cond.methodLink "BoundedTypesLaw" (35 : Nat) ({ cls := "BoundedTypesModel", name := "at", desc := "(I)I" } : MethodName) ∈ pg_T := pg_t6 (List.mem_of_getElem? (i := 78) (by decide +kernel)) rfl
theorem we468 : Cond.instanceMethod ({ cls := "BoundedTypesModel", name := "at", desc := "(I)I" } : MethodName) ∈ pg_T := pg_t6 (List.mem_of_getElem? (i := 79) (by decide +kernel)) rfl
theorem we469 : Cond.selects "BoundedTypesModel" ({ cls := "BoundedTypesModel", name := "at", desc := "(I)I" } : MethodName) ({ cls := "BoundedTypesModel", name := "at", desc := "(I)I" } : MethodName) ∈ pg_T := pg_t6 (List.mem_of_getElem? (i := 80) (by decide +kernel)) rfl
theorem we470 : Cond.code ({ cls := "BoundedTypes", name := "left", desc := "()I" } : MethodName) prog_1_method_7_code (1 : Nat) (Option.some FieldType.int) ∈ pg_T := pg_t4 (List.mem_of_getElem? (i := 60) (by decide +kernel)) rfl
theorem we471 : Cond.methodLink "BoundedTypesLaw" (36 : Nat) ({ cls := "BoundedTypes", name := "left", desc := "()I" } : MethodName) ∈ pg_T := pg_t4 (List.mem_of_getElem? (i := 57) (by decide +kernel)) rfl
theorem we472 : Cond.instanceMethod ({ cls := "BoundedTypes", name := "left", desc := "()I" } : MethodName) ∈ pg_T := pg_t4 (List.mem_of_getElem? (i := 58) (by decide +kernel)) rfl
theorem we473 : Cond.selects "BoundedTypes" ({ cls := "BoundedTypes", name := "left", desc := "()I" } : MethodName) ({ cls := "BoundedTypes", name := "left", desc := "()I" } : MethodName) ∈ pg_T := pg_t4 (List.mem_of_getElem? (i := 59) (by decide +kernel)) rfl
theorem we474 : Cond.code ({ cls := "BoundedTypesModel", name := "left", desc := "()I" } : MethodName) prog_13_method_77_code (1 : Nat) (Option.some FieldType.int) ∈ pg_T := pg_t6 (List.mem_of_getElem? (i := 85) (by decide +kernel)) rfl
theorem we475 : Cond.methodLink "BoundedTypesLaw" (39 : Nat) ({ cls := "BoundedTypesModel", name := "left", desc := "()I" } : MethodName) ∈ pg_T := pg_t6 (List.mem_of_getElem? (i := 82) (by decide +kernel)) rfl
theorem we476 : Cond.instanceMethod ({ cls := "BoundedTypesModel", name := "left", desc := "()I" } : MethodName) ∈ pg_T := pg_t6 (List.mem_of_getElem? (i := 83) (by decide +kernel)) rfl
theorem we477 : Cond.selects "BoundedTypesModel" ({ cls := "BoundedTypesModel", name := "left", desc := "()I" } : MethodName) ({ cls := "BoundedTypesModel", name := "left", desc := "()I" } : MethodName) ∈ pg_T := pg_t6 (List.mem_of_getElem? (i := 84) (by decide +kernel)) rfl
theorem we478 : Cond.code ({ cls := "BoundedTypes", name := "fields", desc := "(I)I" } : MethodName) prog_1_method_8_code (3 : Nat) (Option.some FieldType.int) ∈ pg_T := pg_t4 (List.mem_of_getElem? (i := 64) (by decide +kernel)) rfl
theorem we479 : Cond.methodLink "BoundedTypesLaw" (40 : Nat) ({ cls := "BoundedTypes", name := "fields", desc := "(I)I" } : MethodName) ∈ pg_T := pg_t4 (List.mem_of_getElem? (i := 61) (by decide +kernel)) rfl
theorem we480 : Cond.instanceMethod ({ cls := "BoundedTypes", name := "fields", desc := "(I)I" } : MethodName) ∈ pg_T := pg_t4 (List.mem_of_getElem? (i := 62) (by decide +kernel)) rfl
theorem we481 : Cond.selects "BoundedTypes" ({ cls := "BoundedTypes", name := "fields", desc := "(I)I" } : MethodName) ({ cls := "BoundedTypes", name := "fields", desc := "(I)I" } : MethodName) ∈ pg_T := pg_t4 (List.mem_of_getElem? (i := 63) (by decide +kernel)) rfl
theorem we482 : Cond.code ({ cls := "BoundedTypesModel", name := "fields", desc := "(I)I" } : MethodName) prog_13_method_78_code (2 : Nat) (Option.some FieldType.int) ∈ pg_T := pg_t6 (List.mem_of_getElem? (i := 89) (by decide +kernel)) rfl
theorem we483 : Cond.methodLink "BoundedTypesLaw" (43 : Nat) ({ cls := "BoundedTypesModel", name := "fields", desc := "(I)I" } : MethodName) ∈ pg_T := pg_t6 (List.mem_of_getElem? (i := 86) (by decide +kernel)) rfl
theorem we484 : Cond.instanceMethod ({ cls := "BoundedTypesModel", name := "fields", desc := "(I)I" } : MethodName) ∈ pg_T := pg_t6 (List.mem_of_getElem? (i := 87) (by decide +kernel)) rfl
theorem we485 : Cond.selects "BoundedTypesModel" ({ cls := "BoundedTypesModel", name := "fields", desc := "(I)I" } : MethodName) ({ cls := "BoundedTypesModel", name := "fields", desc := "(I)I" } : MethodName) ∈ pg_T := pg_t6 (List.mem_of_getElem? (i := 88) (by decide +kernel)) rfl
theorem we486 : Cond.code ({ cls := "BoundedTypes", name := "method", desc := "(II)I" } : MethodName) prog_1_method_9_code (3 : Nat) (Option.some FieldType.int) ∈ pg_T := pg_t4 (List.mem_of_getElem? (i := 69) (by decide +kernel)) rfl
theorem we487 : Cond.methodLink "BoundedTypesLaw" (44 : Nat) ({ cls := "BoundedTypes", name := "method", desc := "(II)I" } : MethodName) ∈ pg_T := pg_t4 (List.mem_of_getElem? (i := 66) (by decide +kernel)) rfl
theorem we488 : Cond.instanceMethod ({ cls := "BoundedTypes", name := "method", desc := "(II)I" } : MethodName) ∈ pg_T := pg_t4 (List.mem_of_getElem? (i := 67) (by decide +kernel)) rfl
theorem we489 : Cond.selects "BoundedTypes" ({ cls := "BoundedTypes", name := "method", desc := "(II)I" } : MethodName) ({ cls := "BoundedTypes", name := "method", desc := "(II)I" } : MethodName) ∈ pg_T := pg_t4 (List.mem_of_getElem? (i := 68) (by decide +kernel)) rfl
theorem we490 : Cond.code ({ cls := "BoundedTypesModel", name := "method", desc := "(II)I" } : MethodName) prog_13_method_79_code (4 : Nat) (Option.some FieldType.int) ∈ pg_T := pg_t6 (List.mem_of_getElem? (i := 93) (by decide +kernel)) rfl
theorem we491 : Cond.methodLink "BoundedTypesLaw" (48 : Nat) ({ cls := "BoundedTypesModel", name := "method", desc := "(II)I" } : MethodName) ∈ pg_T := pg_t6 (List.mem_of_getElem? (i := 90) (by decide +kernel)) rfl
theorem we492 : Cond.instanceMethod ({ cls := "BoundedTypesModel", name := "method", desc := "(II)I" } : MethodName) ∈ pg_T := pg_t6 (List.mem_of_getElem? (i := 91) (by decide +kernel)) rfl
theorem we493 : Cond.selects "BoundedTypesModel" ({ cls := "BoundedTypesModel", name := "method", desc := "(II)I" } : MethodName) ({ cls := "BoundedTypesModel", name := "method", desc := "(II)I" } : MethodName) ∈ pg_T := pg_t6 (List.mem_of_getElem? (i := 92) (by decide +kernel)) rfl
theorem we494 : Cond.classLink "BoundedTypesLaw" (7 : Nat) "BoundedTypes" ∈ pg_T := pg_t0 (List.mem_of_getElem? (i := 22) (by decide +kernel)) rfl
theorem we495 : Cond.instantiable "BoundedTypes" (9 : Nat) ∈ pg_T := pg_t0 (List.mem_of_getElem? (i := 23) (by decide +kernel)) rfl
theorem we496 : Cond.code ({ cls := "BoundedTypes", name := "<init>", desc := "()V" } : MethodName) prog_1_method_1_code (1 : Nat) (Option.none : Option FieldType) ∈ pg_T := pg_t0 (List.mem_of_getElem? (i := 26) (by decide +kernel)) rfl
theorem we497 : Cond.methodLink "BoundedTypesLaw" (9 : Nat) ({ cls := "BoundedTypes", name := "<init>", desc := "()V" } : MethodName) ∈ pg_T := pg_t0 (List.mem_of_getElem? (i := 24) (by decide +kernel)) rfl
theorem we498 : Cond.instanceMethod ({ cls := "BoundedTypes", name := "<init>", desc := "()V" } : MethodName) ∈ pg_T := pg_t0 (List.mem_of_getElem? (i := 25) (by decide +kernel)) rfl
theorem we499 : Cond.classLink "BoundedTypesLaw" (10 : Nat) "BoundedTypesModel" ∈ pg_T := pg_t4 (List.mem_of_getElem? (i := 71) (by decide +kernel)) rfl
theorem we500 : Cond.instantiable "BoundedTypesModel" (59 : Nat) ∈ pg_T := pg_t4 (List.mem_of_getElem? (i := 72) (by decide +kernel)) rfl
theorem we501 : Cond.code ({ cls := "BoundedTypesModel", name := "<init>", desc := "()V" } : MethodName) prog_13_method_1_code (2 : Nat) (Option.none : Option FieldType) ∈ pg_T := pg_t4 (List.mem_of_getElem? (i := 75) (by decide +kernel)) rfl
theorem we502 : Cond.methodLink "BoundedTypesLaw" (12 : Nat) ({ cls := "BoundedTypesModel", name := "<init>", desc := "()V" } : MethodName) ∈ pg_T := pg_t4 (List.mem_of_getElem? (i := 73) (by decide +kernel)) rfl
theorem we503 : Cond.instanceMethod ({ cls := "BoundedTypesModel", name := "<init>", desc := "()V" } : MethodName) ∈ pg_T := pg_t4 (List.mem_of_getElem? (i := 74) (by decide +kernel)) rfl
theorem we504 : Cond.instantiable "BoundedTypes$Member" (9 : Nat) ∈ pg_T := pg_t2 (List.mem_of_getElem? (i := 14) (by decide +kernel)) rfl
abbrev y_Ar_fill : MethodName := ⟨"java/util/Arrays", "fill", "([II)V"⟩
theorem hy_Ar_fill : ah_Y y_Ar_fill 2 := ⟨by decide +kernel, by decide +kernel⟩
abbrev y_Types_variableBit : MethodName := ⟨"BoundedTypes$Types", "variableBit", "(I)I"⟩
theorem hy_Types_variableBit : ah_Y y_Types_variableBit 1 := ⟨by decide +kernel, by decide +kernel⟩
abbrev y_Types_init : MethodName := ⟨"BoundedTypes$Types", "<init>", "()V"⟩
theorem hy_Types_init : ah_Y y_Types_init 0 := ⟨by decide +kernel, by decide +kernel⟩
abbrev y_Code_init : MethodName := ⟨"BoundedTypes$Code", "<init>", "()V"⟩
theorem hy_Code_init : ah_Y y_Code_init 0 := ⟨by decide +kernel, by decide +kernel⟩
abbrev y_Bounds_init : MethodName := ⟨"BoundedTypes$Bounds", "<init>", "()V"⟩
theorem hy_Bounds_init : ah_Y y_Bounds_init 0 := ⟨by decide +kernel, by decide +kernel⟩
abbrev y_ABC_init : MethodName := ⟨"java/util/AbstractCollection", "<init>", "()V"⟩
theorem hy_ABC_init : ah_Y y_ABC_init 0 := ⟨by decide +kernel, by decide +kernel⟩
abbrev y_ABL_init : MethodName := ⟨"java/util/AbstractList", "<init>", "()V"⟩
theorem hy_ABL_init : ah_Y y_ABL_init 0 := ⟨by decide +kernel, by decide +kernel⟩
abbrev y_AL_init : MethodName := ⟨"java/util/ArrayList", "<init>", "()V"⟩
theorem hy_AL_init : ah_Y y_AL_init 0 := ⟨by decide +kernel, by decide +kernel⟩
abbrev y_Entry_init : MethodName := ⟨"BoundedTypes$Entry", "<init>", "(ILBoundedTypes$Bounds;II)V"⟩
theorem hy_Entry_init : ah_Y y_Entry_init 4 := ⟨by decide +kernel, by decide +kernel⟩
abbrev y_Rules_init : MethodName := ⟨"BoundedTypes$Rules", "<init>", "(LBoundedTypes$Types;)V"⟩
theorem hy_Rules_init : ah_Y y_Rules_init 1 := ⟨by decide +kernel, by decide +kernel⟩
abbrev y_Reader_init : MethodName := ⟨"BoundedTypes$Reader", "<init>", "([CLBoundedTypes$Types;LBoundedTypes$Code;)V"⟩
theorem hy_Reader_init : ah_Y y_Reader_init 3 := ⟨by decide +kernel, by decide +kernel⟩
abbrev y_Expressions_init : MethodName := ⟨"BoundedTypes$Expressions", "<init>", "(LBoundedTypes$Types;LBoundedTypes$Code;LBoundedTypes$Rules;)V"⟩
theorem hy_Expressions_init : ah_Y y_Expressions_init 3 := ⟨by decide +kernel, by decide +kernel⟩
abbrev y_Declarations_init : MethodName := ⟨"BoundedTypes$Declarations", "<init>", "(LBoundedTypes$Types;LBoundedTypes$Rules;LBoundedTypes$Expressions;)V"⟩
theorem hy_Declarations_init : ah_Y y_Declarations_init 3 := ⟨by decide +kernel, by decide +kernel⟩
abbrev y_Machine_init : MethodName := ⟨"BoundedTypes$Machine", "<init>", "(LBoundedTypes$Types;LBoundedTypes$Code;LBoundedTypes$Rules;)V"⟩
theorem hy_Machine_init : ah_Y y_Machine_init 3 := ⟨by decide +kernel, by decide +kernel⟩
abbrev y_BT_init : MethodName := ⟨"BoundedTypes", "<init>", "()V"⟩
theorem hy_BT_init : ah_Y y_BT_init 0 := ⟨by decide +kernel, by decide +kernel⟩
abbrev y_BT_byteOf : MethodName := ⟨"BoundedTypes", "byteOf", "(II)I"⟩
theorem hy_BT_byteOf : ah_Y y_BT_byteOf 2 := ⟨by decide +kernel, by decide +kernel⟩
abbrev y_BT_areCharacters : MethodName := ⟨"BoundedTypes", "areCharacters", "(II)Z"⟩
theorem hy_BT_areCharacters : ah_Y y_BT_areCharacters 2 := ⟨by decide +kernel, by decide +kernel⟩
abbrev y_BT_type : MethodName := ⟨"BoundedTypes", "type", "(II)Z"⟩
theorem hy_BT_type : ah_Y y_BT_type 2 := ⟨by decide +kernel, by decide +kernel⟩
abbrev y_Types_makeRoom : MethodName := ⟨"BoundedTypes$Types", "makeRoom", "()V"⟩
theorem hy_Types_makeRoom : ah_Y y_Types_makeRoom 0 := ⟨by decide +kernel, by decide +kernel⟩
abbrev y_Reader_start : MethodName := ⟨"BoundedTypes$Reader", "start", "(I)V"⟩
theorem hy_Reader_start : ah_Y y_Reader_start 1 := ⟨by decide +kernel, by decide +kernel⟩
abbrev y_Reader_takeLetter : MethodName := ⟨"BoundedTypes$Reader", "takeLetter", "(CC)I"⟩
theorem hy_Reader_takeLetter : ah_Y y_Reader_takeLetter 2 := ⟨by decide +kernel, by decide +kernel⟩
abbrev y_Reader_open : MethodName := ⟨"BoundedTypes$Reader", "open", "(C)V"⟩
theorem hy_Reader_open : ah_Y y_Reader_open 1 := ⟨by decide +kernel, by decide +kernel⟩
abbrev y_Reader_take : MethodName := ⟨"BoundedTypes$Reader", "take", "(C)V"⟩
theorem hy_Reader_take : ah_Y y_Reader_take 1 := ⟨by decide +kernel, by decide +kernel⟩
abbrev y_Types_classType : MethodName := ⟨"BoundedTypes$Types", "classType", "(IIII)I"⟩
theorem hy_Types_classType : ah_Y y_Types_classType 4 := ⟨by decide +kernel, by decide +kernel⟩
abbrev y_Reader_readType : MethodName := ⟨"BoundedTypes$Reader", "readType", "(Z)I"⟩
theorem hy_Reader_readType : ah_Y y_Reader_readType 1 := ⟨by decide +kernel, by decide +kernel⟩
abbrev y_Reader_close : MethodName := ⟨"BoundedTypes$Reader", "close", "(C)V"⟩
theorem hy_Reader_close : ah_Y y_Reader_close 1 := ⟨by decide +kernel, by decide +kernel⟩
abbrev y_Reader_readBounds : MethodName := ⟨"BoundedTypes$Reader", "readBounds", "(LBoundedTypes$Bounds;)V"⟩
theorem hy_Reader_readBounds : ah_Y y_Reader_readBounds 1 := ⟨by decide +kernel, by decide +kernel⟩
abbrev y_Types_classOf : MethodName := ⟨"BoundedTypes$Types", "classOf", "(I)I"⟩
theorem hy_Types_classOf : ah_Y y_Types_classOf 1 := ⟨by decide +kernel, by decide +kernel⟩
abbrev y_Reader_takeEnd : MethodName := ⟨"BoundedTypes$Reader", "takeEnd", "()V"⟩
theorem hy_Reader_takeEnd : ah_Y y_Reader_takeEnd 0 := ⟨by decide +kernel, by decide +kernel⟩
abbrev y_Reader_readDeclaration : MethodName := ⟨"BoundedTypes$Reader", "readDeclaration", "(I)LBoundedTypes$Entry;"⟩
theorem hy_Reader_readDeclaration : ah_Y y_Reader_readDeclaration 1 := ⟨by decide +kernel, by decide +kernel⟩
abbrev y_Reader_answerIfFaulty : MethodName := ⟨"BoundedTypes$Reader", "answerIfFaulty", "()I"⟩
theorem hy_Reader_answerIfFaulty : ah_Y y_Reader_answerIfFaulty 0 := ⟨by decide +kernel, by decide +kernel⟩
abbrev y_Rules_entryNamed : MethodName := ⟨"BoundedTypes$Rules", "entryNamed", "(I)LBoundedTypes$Entry;"⟩
theorem hy_Rules_entryNamed : ah_Y y_Rules_entryNamed 1 := ⟨by decide +kernel, by decide +kernel⟩
abbrev y_Rules_remove : MethodName := ⟨"BoundedTypes$Rules", "remove", "(LBoundedTypes$Entry;)V"⟩
theorem hy_Rules_remove : ah_Y y_Rules_remove 1 := ⟨by decide +kernel, by decide +kernel⟩
abbrev y_Types_forget : MethodName := ⟨"BoundedTypes$Types", "forget", "(I)V"⟩
theorem hy_Types_forget : ah_Y y_Types_forget 1 := ⟨by decide +kernel, by decide +kernel⟩
abbrev y_Code_forget : MethodName := ⟨"BoundedTypes$Code", "forget", "(I)V"⟩
theorem hy_Code_forget : ah_Y y_Code_forget 1 := ⟨by decide +kernel, by decide +kernel⟩
abbrev y_BT_declare : MethodName := ⟨"BoundedTypes", "declare", "()I"⟩
theorem hy_BT_declare : ah_Y y_BT_declare 0 := ⟨by decide +kernel, by decide +kernel⟩
abbrev y_Reader_isAtCast : MethodName := ⟨"BoundedTypes$Reader", "isAtCast", "()Z"⟩
theorem hy_Reader_isAtCast : ah_Y y_Reader_isAtCast 0 := ⟨by decide +kernel, by decide +kernel⟩
abbrev y_Code_add : MethodName := ⟨"BoundedTypes$Code", "add", "(IIII)I"⟩
theorem hy_Code_add : ah_Y y_Code_add 4 := ⟨by decide +kernel, by decide +kernel⟩
abbrev y_Reader_slotOf : MethodName := ⟨"BoundedTypes$Reader", "slotOf", "(I)I"⟩
theorem hy_Reader_slotOf : ah_Y y_Reader_slotOf 1 := ⟨by decide +kernel, by decide +kernel⟩
abbrev y_Reader_base : MethodName := ⟨"BoundedTypes$Reader", "base", "()V"⟩
theorem hy_Reader_base : ah_Y y_Reader_base 0 := ⟨by decide +kernel, by decide +kernel⟩
abbrev y_Reader_expression : MethodName := ⟨"BoundedTypes$Reader", "expression", "()V"⟩
theorem hy_Reader_expression : ah_Y y_Reader_expression 0 := ⟨by decide +kernel, by decide +kernel⟩
abbrev y_Entry_methodNamed : MethodName := ⟨"BoundedTypes$Entry", "methodNamed", "(I)LBoundedTypes$Member;"⟩
theorem hy_Entry_methodNamed : ah_Y y_Entry_methodNamed 1 := ⟨by decide +kernel, by decide +kernel⟩
abbrev y_Reader_readExpression : MethodName := ⟨"BoundedTypes$Reader", "readExpression", "(I)V"⟩
theorem hy_Reader_readExpression : ah_Y y_Reader_readExpression 1 := ⟨by decide +kernel, by decide +kernel⟩
abbrev y_Machine_dropValue : MethodName := ⟨"BoundedTypes$Machine", "dropValue", "()V"⟩
theorem hy_Machine_dropValue : ah_Y y_Machine_dropValue 0 := ⟨by decide +kernel, by decide +kernel⟩
abbrev y_BT_run : MethodName := ⟨"BoundedTypes", "run", "(I)I"⟩
theorem hy_BT_run : ah_Y y_BT_run 1 := ⟨by decide +kernel, by decide +kernel⟩
abbrev y_Rules_classWithMethod : MethodName := ⟨"BoundedTypes$Rules", "classWithMethod", "(II)I"⟩
theorem hy_Rules_classWithMethod : ah_Y y_Rules_classWithMethod 2 := ⟨by decide +kernel, by decide +kernel⟩
abbrev y_BT_length : MethodName := ⟨"BoundedTypes", "length", "()I"⟩
theorem hy_BT_length : ah_Y y_BT_length 0 := ⟨by decide +kernel, by decide +kernel⟩
abbrev y_BT_at : MethodName := ⟨"BoundedTypes", "at", "(I)I"⟩
theorem hy_BT_at : ah_Y y_BT_at 1 := ⟨by decide +kernel, by decide +kernel⟩
abbrev y_BT_left : MethodName := ⟨"BoundedTypes", "left", "()I"⟩
theorem hy_BT_left : ah_Y y_BT_left 0 := ⟨by decide +kernel, by decide +kernel⟩
abbrev y_BT_fields : MethodName := ⟨"BoundedTypes", "fields", "(I)I"⟩
theorem hy_BT_fields : ah_Y y_BT_fields 1 := ⟨by decide +kernel, by decide +kernel⟩
abbrev y_BT_method : MethodName := ⟨"BoundedTypes", "method", "(II)I"⟩
theorem hy_BT_method : ah_Y y_BT_method 2 := ⟨by decide +kernel, by decide +kernel⟩
abbrev y_Md_noScope : MethodName := ⟨"BoundedTypesModel", "noScope", "()V"⟩
theorem hy_Md_noScope : ah_Y y_Md_noScope 0 := ⟨by decide +kernel, by decide +kernel⟩
abbrev y_Md_init : MethodName := ⟨"BoundedTypesModel", "<init>", "()V"⟩
theorem hy_Md_init : ah_Y y_Md_init 0 := ⟨by decide +kernel, by decide +kernel⟩
abbrev y_Md_in : MethodName := ⟨"BoundedTypesModel", "in", "(III)Z"⟩
theorem hy_Md_in : ah_Y y_Md_in 3 := ⟨by decide +kernel, by decide +kernel⟩
abbrev y_Md_type : MethodName := ⟨"BoundedTypesModel", "type", "(II)Z"⟩
theorem hy_Md_type : ah_Y y_Md_type 2 := ⟨by decide +kernel, by decide +kernel⟩
abbrev y_Md_begin : MethodName := ⟨"BoundedTypesModel", "begin", "()V"⟩
theorem hy_Md_begin : ah_Y y_Md_begin 0 := ⟨by decide +kernel, by decide +kernel⟩
abbrev y_Md_look : MethodName := ⟨"BoundedTypesModel", "look", "()I"⟩
theorem hy_Md_look : ah_Y y_Md_look 0 := ⟨by decide +kernel, by decide +kernel⟩
abbrev y_Md_fail : MethodName := ⟨"BoundedTypesModel", "fail", "()V"⟩
theorem hy_Md_fail : ah_Y y_Md_fail 0 := ⟨by decide +kernel, by decide +kernel⟩
abbrev y_Md_readLetter : MethodName := ⟨"BoundedTypesModel", "readLetter", "(II)I"⟩
theorem hy_Md_readLetter : ah_Y y_Md_readLetter 2 := ⟨by decide +kernel, by decide +kernel⟩
abbrev y_Md_open : MethodName := ⟨"BoundedTypesModel", "open", "(I)V"⟩
theorem hy_Md_open : ah_Y y_Md_open 1 := ⟨by decide +kernel, by decide +kernel⟩
abbrev y_Md_expect : MethodName := ⟨"BoundedTypesModel", "expect", "(I)V"⟩
theorem hy_Md_expect : ah_Y y_Md_expect 1 := ⟨by decide +kernel, by decide +kernel⟩
abbrev y_Md_close : MethodName := ⟨"BoundedTypesModel", "close", "(I)V"⟩
theorem hy_Md_close : ah_Y y_Md_close 1 := ⟨by decide +kernel, by decide +kernel⟩
abbrev y_Md_readType : MethodName := ⟨"BoundedTypesModel", "readType", "(Z)I"⟩
theorem hy_Md_readType : ah_Y y_Md_readType 1 := ⟨by decide +kernel, by decide +kernel⟩
abbrev y_Md_readBounds : MethodName := ⟨"BoundedTypesModel", "readBounds", "([I[II)I"⟩
theorem hy_Md_readBounds : ah_Y y_Md_readBounds 3 := ⟨by decide +kernel, by decide +kernel⟩
abbrev y_Md_declare : MethodName := ⟨"BoundedTypesModel", "declare", "()I"⟩
theorem hy_Md_declare : ah_Y y_Md_declare 0 := ⟨by decide +kernel, by decide +kernel⟩
abbrev y_Md_put : MethodName := ⟨"BoundedTypesModel", "put", "(III)V"⟩
theorem hy_Md_put : ah_Y y_Md_put 3 := ⟨by decide +kernel, by decide +kernel⟩
abbrev y_Md_readBase : MethodName := ⟨"BoundedTypesModel", "readBase", "(I)I"⟩
theorem hy_Md_readBase : ah_Y y_Md_readBase 1 := ⟨by decide +kernel, by decide +kernel⟩
abbrev y_Md_readExpression : MethodName := ⟨"BoundedTypesModel", "readExpression", "()V"⟩
theorem hy_Md_readExpression : ah_Y y_Md_readExpression 0 := ⟨by decide +kernel, by decide +kernel⟩
abbrev y_Md_classOf : MethodName := ⟨"BoundedTypesModel", "classOf", "(I)I"⟩
theorem hy_Md_classOf : ah_Y y_Md_classOf 1 := ⟨by decide +kernel, by decide +kernel⟩
abbrev y_Md_upper : MethodName := ⟨"BoundedTypesModel", "upper", "(I)I"⟩
theorem hy_Md_upper : ah_Y y_Md_upper 1 := ⟨by decide +kernel, by decide +kernel⟩
abbrev y_Md_fieldsOf : MethodName := ⟨"BoundedTypesModel", "fieldsOf", "(I)I"⟩
theorem hy_Md_fieldsOf : ah_Y y_Md_fieldsOf 1 := ⟨by decide +kernel, by decide +kernel⟩
abbrev y_Md_run : MethodName := ⟨"BoundedTypesModel", "run", "(I)I"⟩
theorem hy_Md_run : ah_Y y_Md_run 1 := ⟨by decide +kernel, by decide +kernel⟩
abbrev y_Md_called : MethodName := ⟨"BoundedTypesModel", "called", "(II)I"⟩
theorem hy_Md_called : ah_Y y_Md_called 2 := ⟨by decide +kernel, by decide +kernel⟩
abbrev y_Md_length : MethodName := ⟨"BoundedTypesModel", "length", "()I"⟩
theorem hy_Md_length : ah_Y y_Md_length 0 := ⟨by decide +kernel, by decide +kernel⟩
abbrev y_Md_at : MethodName := ⟨"BoundedTypesModel", "at", "(I)I"⟩
theorem hy_Md_at : ah_Y y_Md_at 1 := ⟨by decide +kernel, by decide +kernel⟩
abbrev y_Md_left : MethodName := ⟨"BoundedTypesModel", "left", "()I"⟩
theorem hy_Md_left : ah_Y y_Md_left 0 := ⟨by decide +kernel, by decide +kernel⟩
abbrev y_Md_fields : MethodName := ⟨"BoundedTypesModel", "fields", "(I)I"⟩
theorem hy_Md_fields : ah_Y y_Md_fields 1 := ⟨by decide +kernel, by decide +kernel⟩
abbrev y_Md_method : MethodName := ⟨"BoundedTypesModel", "method", "(II)I"⟩
theorem hy_Md_method : ah_Y y_Md_method 2 := ⟨by decide +kernel, by decide +kernel⟩
abbrev y_Law_law : MethodName := ⟨"BoundedTypesLaw", "law", "([I)Z"⟩
theorem hy_Law_law : ah_Y y_Law_law 1 := ⟨by decide +kernel, by decide +kernel⟩
