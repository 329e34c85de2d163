theorem wd0 : Cond.lays "BoundedTypes$Types" "BoundedTypes$Types" "classes" "[I" ∈ pg_T := pg_t0 (List.mem_of_getElem? (i := 51) (by decide +kernel)) rfl
theorem wd1 : Cond.lays "BoundedTypes$Types" "BoundedTypes$Types" "parts" "[I" ∈ pg_T := pg_t0 (List.mem_of_getElem? (i := 53) (by decide +kernel)) rfl
theorem wd2 : Cond.lays "BoundedTypes$Types" "BoundedTypes$Types" "held" "[I" ∈ pg_T := pg_t0 (List.mem_of_getElem? (i := 55) (by decide +kernel)) rfl
theorem wd3 : Cond.lays "BoundedTypes$Types" "BoundedTypes$Types" "buckets" "[I" ∈ pg_T := pg_t0 (List.mem_of_getElem? (i := 57) (by decide +kernel)) rfl
theorem wd4 : Cond.lays "BoundedTypes$Types" "BoundedTypes$Types" "next" "[I" ∈ pg_T := pg_t0 (List.mem_of_getElem? (i := 59) (by decide +kernel)) rfl
theorem wd5 : Cond.laysFinal "BoundedTypes$Types" "BoundedTypes$Types" "heads" "[I" ∈ pg_T := pg_t0 (List.mem_of_getElem? (i := 61) (by decide +kernel)) rfl
theorem wd6 : Cond.lays "BoundedTypes$Types" "BoundedTypes$Types" "count" "I" ∈ pg_T := pg_t0 (List.mem_of_getElem? (i := 63) (by decide +kernel)) rfl
theorem wd7 : Cond.laysFinal "BoundedTypes$Code" "BoundedTypes$Code" "kinds" "[I" ∈ pg_T := pg_t0 (List.mem_of_getElem? (i := 88) (by decide +kernel)) rfl
theorem wd8 : Cond.laysFinal "BoundedTypes$Code" "BoundedTypes$Code" "subjects" "[I" ∈ pg_T := pg_t0 (List.mem_of_getElem? (i := 90) (by decide +kernel)) rfl
theorem wd9 : Cond.laysFinal "BoundedTypes$Code" "BoundedTypes$Code" "amounts" "[I" ∈ pg_T := pg_t0 (List.mem_of_getElem? (i := 92) (by decide +kernel)) rfl
theorem wd10 : Cond.laysFinal "BoundedTypes$Code" "BoundedTypes$Code" "lists" "[I" ∈ pg_T := pg_t0 (List.mem_of_getElem? (i := 94) (by decide +kernel)) rfl
theorem wd11 : Cond.lays "BoundedTypes$Code" "BoundedTypes$Code" "count" "I" ∈ pg_T := pg_t0 (List.mem_of_getElem? (i := 96) (by decide +kernel)) rfl
theorem wd12 : Cond.laysFinal "BoundedTypes$Bounds" "BoundedTypes$Bounds" "variables" "[I" ∈ pg_T := pg_t0 (List.mem_of_getElem? (i := 124) (by decide +kernel)) rfl
theorem wd13 : Cond.laysFinal "BoundedTypes$Bounds" "BoundedTypes$Bounds" "types" "[I" ∈ pg_T := pg_t0 (List.mem_of_getElem? (i := 126) (by decide +kernel)) rfl
theorem wd14 : Cond.lays "BoundedTypes$Bounds" "BoundedTypes$Bounds" "count" "I" ∈ pg_T := pg_t0 (List.mem_of_getElem? (i := 128) (by decide +kernel)) rfl
theorem wd15 : Cond.lays "java/util/ArrayList" "java/util/ArrayList" "elementData" "[Ljava/lang/Object;" ∈ pg_T := pg_t0 (List.mem_of_getElem? (i := 154) (by decide +kernel)) rfl
theorem wd16 : Cond.lays "java/util/ArrayList" "java/util/ArrayList" "size" "I" ∈ pg_T := pg_t0 (List.mem_of_getElem? (i := 156) (by decide +kernel)) rfl
theorem wd17 : Cond.lays "java/util/ArrayList" "java/util/AbstractList" "modCount" "I" ∈ pg_T := pg_t0 (List.mem_of_getElem? (i := 158) (by decide +kernel)) rfl
theorem wd18 : Cond.laysFinal "BoundedTypes$Entry" "BoundedTypes$Entry" "name" "I" ∈ pg_T := pg_t0 (List.mem_of_getElem? (i := 190) (by decide +kernel)) rfl
theorem wd19 : Cond.laysFinal "BoundedTypes$Entry" "BoundedTypes$Entry" "bounds" "LBoundedTypes$Bounds;" ∈ pg_T := pg_t0 (List.mem_of_getElem? (i := 192) (by decide +kernel)) rfl
theorem wd20 : Cond.laysFinal "BoundedTypes$Entry" "BoundedTypes$Entry" "above" "I" ∈ pg_T := pg_t0 (List.mem_of_getElem? (i := 194) (by decide +kernel)) rfl
theorem wd21 : Cond.laysFinal "BoundedTypes$Entry" "BoundedTypes$Entry" "aboveClass" "I" ∈ pg_T := pg_t0 (List.mem_of_getElem? (i := 196) (by decide +kernel)) rfl
theorem wd22 : Cond.laysFinal "BoundedTypes$Entry" "BoundedTypes$Entry" "members" "Ljava/util/ArrayList;" ∈ pg_T := pg_t0 (List.mem_of_getElem? (i := 198) (by decide +kernel)) rfl
theorem wd23 : Cond.laysFinal "BoundedTypes$Entry" "BoundedTypes$Entry" "methods" "[LBoundedTypes$Member;" ∈ pg_T := pg_t0 (List.mem_of_getElem? (i := 200) (by decide +kernel)) rfl
theorem wd24 : Cond.laysFinal "BoundedTypes$Entry" "BoundedTypes$Entry" "fieldNames" "[I" ∈ pg_T := pg_t0 (List.mem_of_getElem? (i := 202) (by decide +kernel)) rfl
theorem wd25 : Cond.laysFinal "BoundedTypes$Entry" "BoundedTypes$Entry" "fieldTypes" "[I" ∈ pg_T := pg_t0 (List.mem_of_getElem? (i := 204) (by decide +kernel)) rfl
theorem wd26 : Cond.lays "BoundedTypes$Entry" "BoundedTypes$Entry" "firstOwnField" "I" ∈ pg_T := pg_t0 (List.mem_of_getElem? (i := 206) (by decide +kernel)) rfl
theorem wd27 : Cond.lays "BoundedTypes$Entry" "BoundedTypes$Entry" "fieldCount" "I" ∈ pg_T := pg_t0 (List.mem_of_getElem? (i := 208) (by decide +kernel)) rfl
theorem wd28 : Cond.laysFinal "BoundedTypes$Rules" "BoundedTypes$Rules" "types" "LBoundedTypes$Types;" ∈ pg_T := pg_t0 (List.mem_of_getElem? (i := 216) (by decide +kernel)) rfl
theorem wd29 : Cond.laysFinal "BoundedTypes$Rules" "BoundedTypes$Rules" "entries" "[LBoundedTypes$Entry;" ∈ pg_T := pg_t0 (List.mem_of_getElem? (i := 218) (by decide +kernel)) rfl
theorem wd30 : Cond.laysFinal "BoundedTypes$Rules" "BoundedTypes$Rules" "scope" "[I" ∈ pg_T := pg_t0 (List.mem_of_getElem? (i := 220) (by decide +kernel)) rfl
theorem wd31 : Cond.laysFinal "BoundedTypes$Rules" "BoundedTypes$Rules" "standing" "[I" ∈ pg_T := pg_t0 (List.mem_of_getElem? (i := 222) (by decide +kernel)) rfl
theorem wd32 : Cond.laysFinal "BoundedTypes$Reader" "BoundedTypes$Reader" "text" "[C" ∈ pg_T := pg_t1 (List.mem_of_getElem? (i := 1) (by decide +kernel)) rfl
theorem wd33 : Cond.laysFinal "BoundedTypes$Reader" "BoundedTypes$Reader" "types" "LBoundedTypes$Types;" ∈ pg_T := pg_t1 (List.mem_of_getElem? (i := 3) (by decide +kernel)) rfl
theorem wd34 : Cond.laysFinal "BoundedTypes$Reader" "BoundedTypes$Reader" "code" "LBoundedTypes$Code;" ∈ pg_T := pg_t1 (List.mem_of_getElem? (i := 5) (by decide +kernel)) rfl
theorem wd35 : Cond.laysFinal "BoundedTypes$Reader" "BoundedTypes$Reader" "marks" "[C" ∈ pg_T := pg_t1 (List.mem_of_getElem? (i := 7) (by decide +kernel)) rfl
theorem wd36 : Cond.laysFinal "BoundedTypes$Reader" "BoundedTypes$Reader" "places" "[I" ∈ pg_T := pg_t1 (List.mem_of_getElem? (i := 9) (by decide +kernel)) rfl
theorem wd37 : Cond.lays "BoundedTypes$Reader" "BoundedTypes$Reader" "now" "I" ∈ pg_T := pg_t1 (List.mem_of_getElem? (i := 11) (by decide +kernel)) rfl
theorem wd38 : Cond.lays "BoundedTypes$Reader" "BoundedTypes$Reader" "depth" "I" ∈ pg_T := pg_t1 (List.mem_of_getElem? (i := 13) (by decide +kernel)) rfl
theorem wd39 : Cond.laysFinal "BoundedTypes$Reader" "BoundedTypes$Reader" "casts" "[I" ∈ pg_T := pg_t1 (List.mem_of_getElem? (i := 15) (by decide +kernel)) rfl
theorem wd40 : Cond.lays "BoundedTypes$Reader" "BoundedTypes$Reader" "castCount" "I" ∈ pg_T := pg_t1 (List.mem_of_getElem? (i := 17) (by decide +kernel)) rfl
theorem wd41 : Cond.lays "BoundedTypes$Reader" "BoundedTypes$Reader" "inside" "LBoundedTypes$Member;" ∈ pg_T := pg_t1 (List.mem_of_getElem? (i := 19) (by decide +kernel)) rfl
theorem wd42 : Cond.laysFinal "BoundedTypes$Expressions" "BoundedTypes$Expressions" "types" "LBoundedTypes$Types;" ∈ pg_T := pg_t1 (List.mem_of_getElem? (i := 36) (by decide +kernel)) rfl
theorem wd43 : Cond.laysFinal "BoundedTypes$Expressions" "BoundedTypes$Expressions" "code" "LBoundedTypes$Code;" ∈ pg_T := pg_t1 (List.mem_of_getElem? (i := 38) (by decide +kernel)) rfl
theorem wd44 : Cond.laysFinal "BoundedTypes$Expressions" "BoundedTypes$Expressions" "rules" "LBoundedTypes$Rules;" ∈ pg_T := pg_t1 (List.mem_of_getElem? (i := 40) (by decide +kernel)) rfl
theorem wd45 : Cond.laysFinal "BoundedTypes$Expressions" "BoundedTypes$Expressions" "stack" "[I" ∈ pg_T := pg_t1 (List.mem_of_getElem? (i := 42) (by decide +kernel)) rfl
theorem wd46 : Cond.lays "BoundedTypes$Expressions" "BoundedTypes$Expressions" "top" "I" ∈ pg_T := pg_t1 (List.mem_of_getElem? (i := 44) (by decide +kernel)) rfl
theorem wd47 : Cond.laysFinal "BoundedTypes$Expressions" "BoundedTypes$Expressions" "awaited" "[I" ∈ pg_T := pg_t1 (List.mem_of_getElem? (i := 46) (by decide +kernel)) rfl
theorem wd48 : Cond.lays "BoundedTypes$Expressions" "BoundedTypes$Expressions" "self" "I" ∈ pg_T := pg_t1 (List.mem_of_getElem? (i := 48) (by decide +kernel)) rfl
theorem wd49 : Cond.lays "BoundedTypes$Expressions" "BoundedTypes$Expressions" "inside" "LBoundedTypes$Member;" ∈ pg_T := pg_t1 (List.mem_of_getElem? (i := 50) (by decide +kernel)) rfl
theorem wd50 : Cond.laysFinal "BoundedTypes$Declarations" "BoundedTypes$Declarations" "types" "LBoundedTypes$Types;" ∈ pg_T := pg_t1 (List.mem_of_getElem? (i := 62) (by decide +kernel)) rfl
theorem wd51 : Cond.laysFinal "BoundedTypes$Declarations" "BoundedTypes$Declarations" "rules" "LBoundedTypes$Rules;" ∈ pg_T := pg_t1 (List.mem_of_getElem? (i := 64) (by decide +kernel)) rfl
theorem wd52 : Cond.laysFinal "BoundedTypes$Declarations" "BoundedTypes$Declarations" "expressions" "LBoundedTypes$Expressions;" ∈ pg_T := pg_t1 (List.mem_of_getElem? (i := 66) (by decide +kernel)) rfl
theorem wd53 : Cond.laysFinal "BoundedTypes$Machine" "BoundedTypes$Machine" "types" "LBoundedTypes$Types;" ∈ pg_T := pg_t1 (List.mem_of_getElem? (i := 95) (by decide +kernel)) rfl
theorem wd54 : Cond.laysFinal "BoundedTypes$Machine" "BoundedTypes$Machine" "code" "LBoundedTypes$Code;" ∈ pg_T := pg_t1 (List.mem_of_getElem? (i := 97) (by decide +kernel)) rfl
theorem wd55 : Cond.laysFinal "BoundedTypes$Machine" "BoundedTypes$Machine" "rules" "LBoundedTypes$Rules;" ∈ pg_T := pg_t1 (List.mem_of_getElem? (i := 99) (by decide +kernel)) rfl
theorem wd56 : Cond.laysFinal "BoundedTypes$Machine" "BoundedTypes$Machine" "cells" "[I" ∈ pg_T := pg_t1 (List.mem_of_getElem? (i := 101) (by decide +kernel)) rfl
theorem wd57 : Cond.lays "BoundedTypes$Machine" "BoundedTypes$Machine" "cellCount" "I" ∈ pg_T := pg_t1 (List.mem_of_getElem? (i := 103) (by decide +kernel)) rfl
theorem wd58 : Cond.laysFinal "BoundedTypes$Machine" "BoundedTypes$Machine" "stack" "[I" ∈ pg_T := pg_t1 (List.mem_of_getElem? (i := 105) (by decide +kernel)) rfl
theorem wd59 : Cond.lays "BoundedTypes$Machine" "BoundedTypes$Machine" "top" "I" ∈ pg_T := pg_t1 (List.mem_of_getElem? (i := 107) (by decide +kernel)) rfl
theorem wd60 : Cond.laysFinal "BoundedTypes$Machine" "BoundedTypes$Machine" "frames" "[I" ∈ pg_T := pg_t1 (List.mem_of_getElem? (i := 109) (by decide +kernel)) rfl
theorem wd61 : Cond.lays "BoundedTypes$Machine" "BoundedTypes$Machine" "calls" "I" ∈ pg_T := pg_t1 (List.mem_of_getElem? (i := 111) (by decide +kernel)) rfl
theorem wd62 : Cond.lays "BoundedTypes$Machine" "BoundedTypes$Machine" "base" "I" ∈ pg_T := pg_t1 (List.mem_of_getElem? (i := 113) (by decide +kernel)) rfl
theorem wd63 : Cond.lays "BoundedTypes$Machine" "BoundedTypes$Machine" "place" "I" ∈ pg_T := pg_t1 (List.mem_of_getElem? (i := 115) (by decide +kernel)) rfl
theorem wd64 : Cond.lays "BoundedTypes$Machine" "BoundedTypes$Machine" "end" "I" ∈ pg_T := pg_t1 (List.mem_of_getElem? (i := 117) (by decide +kernel)) rfl
theorem wd65 : Cond.lays "BoundedTypes$Machine" "BoundedTypes$Machine" "fuel" "I" ∈ pg_T := pg_t1 (List.mem_of_getElem? (i := 119) (by decide +kernel)) rfl
theorem wd66 : Cond.laysFinal "BoundedTypes$Machine" "BoundedTypes$Machine" "text" "[C" ∈ pg_T := pg_t1 (List.mem_of_getElem? (i := 121) (by decide +kernel)) rfl
theorem wd67 : Cond.lays "BoundedTypes$Machine" "BoundedTypes$Machine" "textLength" "I" ∈ pg_T := pg_t1 (List.mem_of_getElem? (i := 123) (by decide +kernel)) rfl
theorem wd68 : Cond.laysFinal "BoundedTypes$Machine" "BoundedTypes$Machine" "openValues" "[I" ∈ pg_T := pg_t1 (List.mem_of_getElem? (i := 125) (by decide +kernel)) rfl
theorem wd69 : Cond.laysFinal "BoundedTypes$Machine" "BoundedTypes$Machine" "openFields" "[I" ∈ pg_T := pg_t1 (List.mem_of_getElem? (i := 127) (by decide +kernel)) rfl
theorem wd70 : Cond.laysFinal "BoundedTypes" "BoundedTypes" "typed" "[C" ∈ pg_T := pg_t1 (List.mem_of_getElem? (i := 139) (by decide +kernel)) rfl
theorem wd71 : Cond.lays "BoundedTypes" "BoundedTypes" "typedCount" "I" ∈ pg_T := pg_t1 (List.mem_of_getElem? (i := 141) (by decide +kernel)) rfl
theorem wd72 : Cond.laysFinal "BoundedTypes" "BoundedTypes" "types" "LBoundedTypes$Types;" ∈ pg_T := pg_t1 (List.mem_of_getElem? (i := 143) (by decide +kernel)) rfl
theorem wd73 : Cond.laysFinal "BoundedTypes" "BoundedTypes" "code" "LBoundedTypes$Code;" ∈ pg_T := pg_t1 (List.mem_of_getElem? (i := 145) (by decide +kernel)) rfl
theorem wd74 : Cond.laysFinal "BoundedTypes" "BoundedTypes" "rules" "LBoundedTypes$Rules;" ∈ pg_T := pg_t1 (List.mem_of_getElem? (i := 147) (by decide +kernel)) rfl
theorem wd75 : Cond.laysFinal "BoundedTypes" "BoundedTypes" "reader" "LBoundedTypes$Reader;" ∈ pg_T := pg_t1 (List.mem_of_getElem? (i := 149) (by decide +kernel)) rfl
theorem wd76 : Cond.laysFinal "BoundedTypes" "BoundedTypes" "expressions" "LBoundedTypes$Expressions;" ∈ pg_T := pg_t1 (List.mem_of_getElem? (i := 151) (by decide +kernel)) rfl
theorem wd77 : Cond.laysFinal "BoundedTypes" "BoundedTypes" "declarations" "LBoundedTypes$Declarations;" ∈ pg_T := pg_t1 (List.mem_of_getElem? (i := 153) (by decide +kernel)) rfl
theorem wd78 : Cond.laysFinal "BoundedTypes" "BoundedTypes" "machine" "LBoundedTypes$Machine;" ∈ pg_T := pg_t1 (List.mem_of_getElem? (i := 155) (by decide +kernel)) rfl
theorem wd79 : Cond.laysFinal "BoundedTypes$Member" "BoundedTypes$Member" "name" "I" ∈ pg_T := pg_t2 (List.mem_of_getElem? (i := 46) (by decide +kernel)) rfl
theorem wd80 : Cond.laysFinal "BoundedTypes$Member" "BoundedTypes$Member" "result" "I" ∈ pg_T := pg_t2 (List.mem_of_getElem? (i := 48) (by decide +kernel)) rfl
theorem wd81 : Cond.lays "BoundedTypes$Member" "BoundedTypes$Member" "isMethod" "Z" ∈ pg_T := pg_t2 (List.mem_of_getElem? (i := 50) (by decide +kernel)) rfl
theorem wd82 : Cond.laysFinal "BoundedTypes$Member" "BoundedTypes$Member" "bounds" "LBoundedTypes$Bounds;" ∈ pg_T := pg_t2 (List.mem_of_getElem? (i := 52) (by decide +kernel)) rfl
theorem wd83 : Cond.laysFinal "BoundedTypes$Member" "BoundedTypes$Member" "parameterNames" "[I" ∈ pg_T := pg_t2 (List.mem_of_getElem? (i := 54) (by decide +kernel)) rfl
theorem wd84 : Cond.laysFinal "BoundedTypes$Member" "BoundedTypes$Member" "parameterTypes" "[I" ∈ pg_T := pg_t2 (List.mem_of_getElem? (i := 56) (by decide +kernel)) rfl
theorem wd85 : Cond.lays "BoundedTypes$Member" "BoundedTypes$Member" "parameterCount" "I" ∈ pg_T := pg_t2 (List.mem_of_getElem? (i := 58) (by decide +kernel)) rfl
theorem wd86 : Cond.lays "BoundedTypes$Member" "BoundedTypes$Member" "codeStart" "I" ∈ pg_T := pg_t2 (List.mem_of_getElem? (i := 60) (by decide +kernel)) rfl
theorem wd87 : Cond.lays "BoundedTypes$Member" "BoundedTypes$Member" "codeEnd" "I" ∈ pg_T := pg_t2 (List.mem_of_getElem? (i := 62) (by decide +kernel)) rfl
theorem wd88 : Cond.laysFinal "BoundedTypesModel" "BoundedTypesModel" "chars" "[I" ∈ pg_T := pg_t4 (List.mem_of_getElem? (i := 140) (by decide +kernel)) rfl
theorem wd89 : Cond.lays "BoundedTypesModel" "BoundedTypesModel" "typed" "I" ∈ pg_T := pg_t4 (List.mem_of_getElem? (i := 142) (by decide +kernel)) rfl
theorem wd90 : Cond.lays "BoundedTypesModel" "BoundedTypesModel" "size" "I" ∈ pg_T := pg_t4 (List.mem_of_getElem? (i := 144) (by decide +kernel)) rfl
theorem wd91 : Cond.lays "BoundedTypesModel" "BoundedTypesModel" "at" "I" ∈ pg_T := pg_t4 (List.mem_of_getElem? (i := 146) (by decide +kernel)) rfl
theorem wd92 : Cond.lays "BoundedTypesModel" "BoundedTypesModel" "depth" "I" ∈ pg_T := pg_t4 (List.mem_of_getElem? (i := 148) (by decide +kernel)) rfl
theorem wd93 : Cond.lays "BoundedTypesModel" "BoundedTypesModel" "fault" "I" ∈ pg_T := pg_t4 (List.mem_of_getElem? (i := 150) (by decide +kernel)) rfl
theorem wd94 : Cond.lays "BoundedTypesModel" "BoundedTypesModel" "wrong" "I" ∈ pg_T := pg_t4 (List.mem_of_getElem? (i := 152) (by decide +kernel)) rfl
theorem wd95 : Cond.lays "BoundedTypesModel" "BoundedTypesModel" "nodes" "I" ∈ pg_T := pg_t4 (List.mem_of_getElem? (i := 154) (by decide +kernel)) rfl
theorem wd96 : Cond.laysFinal "BoundedTypesModel" "BoundedTypesModel" "code" "[I" ∈ pg_T := pg_t4 (List.mem_of_getElem? (i := 156) (by decide +kernel)) rfl
theorem wd97 : Cond.laysFinal "BoundedTypesModel" "BoundedTypesModel" "part" "[I" ∈ pg_T := pg_t4 (List.mem_of_getElem? (i := 158) (by decide +kernel)) rfl
theorem wd98 : Cond.laysFinal "BoundedTypesModel" "BoundedTypesModel" "work" "[I" ∈ pg_T := pg_t4 (List.mem_of_getElem? (i := 160) (by decide +kernel)) rfl
theorem wd99 : Cond.laysFinal "BoundedTypesModel" "BoundedTypesModel" "reached" "[I" ∈ pg_T := pg_t4 (List.mem_of_getElem? (i := 162) (by decide +kernel)) rfl
theorem wd100 : Cond.laysFinal "BoundedTypesModel" "BoundedTypesModel" "held" "[I" ∈ pg_T := pg_t4 (List.mem_of_getElem? (i := 164) (by decide +kernel)) rfl
theorem wd101 : Cond.laysFinal "BoundedTypesModel" "BoundedTypesModel" "map" "[I" ∈ pg_T := pg_t4 (List.mem_of_getElem? (i := 166) (by decide +kernel)) rfl
theorem wd102 : Cond.laysFinal "BoundedTypesModel" "BoundedTypesModel" "bound" "[I" ∈ pg_T := pg_t4 (List.mem_of_getElem? (i := 168) (by decide +kernel)) rfl
theorem wd103 : Cond.laysFinal "BoundedTypesModel" "BoundedTypesModel" "there" "[I" ∈ pg_T := pg_t4 (List.mem_of_getElem? (i := 170) (by decide +kernel)) rfl
theorem wd104 : Cond.laysFinal "BoundedTypesModel" "BoundedTypesModel" "vars" "[I" ∈ pg_T := pg_t4 (List.mem_of_getElem? (i := 172) (by decide +kernel)) rfl
theorem wd105 : Cond.laysFinal "BoundedTypesModel" "BoundedTypesModel" "letter" "[I" ∈ pg_T := pg_t4 (List.mem_of_getElem? (i := 174) (by decide +kernel)) rfl
theorem wd106 : Cond.laysFinal "BoundedTypesModel" "BoundedTypesModel" "limit" "[I" ∈ pg_T := pg_t4 (List.mem_of_getElem? (i := 176) (by decide +kernel)) rfl
theorem wd107 : Cond.laysFinal "BoundedTypesModel" "BoundedTypesModel" "below" "[I" ∈ pg_T := pg_t4 (List.mem_of_getElem? (i := 178) (by decide +kernel)) rfl
theorem wd108 : Cond.lays "BoundedTypesModel" "BoundedTypesModel" "behind" "I" ∈ pg_T := pg_t4 (List.mem_of_getElem? (i := 180) (by decide +kernel)) rfl
theorem wd109 : Cond.laysFinal "BoundedTypesModel" "BoundedTypesModel" "newLetter" "[I" ∈ pg_T := pg_t4 (List.mem_of_getElem? (i := 182) (by decide +kernel)) rfl
theorem wd110 : Cond.laysFinal "BoundedTypesModel" "BoundedTypesModel" "newLimit" "[I" ∈ pg_T := pg_t4 (List.mem_of_getElem? (i := 184) (by decide +kernel)) rfl
theorem wd111 : Cond.lays "BoundedTypesModel" "BoundedTypesModel" "fieldCount" "I" ∈ pg_T := pg_t4 (List.mem_of_getElem? (i := 186) (by decide +kernel)) rfl
theorem wd112 : Cond.laysFinal "BoundedTypesModel" "BoundedTypesModel" "fieldClass" "[I" ∈ pg_T := pg_t4 (List.mem_of_getElem? (i := 188) (by decide +kernel)) rfl
theorem wd113 : Cond.laysFinal "BoundedTypesModel" "BoundedTypesModel" "fieldName" "[I" ∈ pg_T := pg_t4 (List.mem_of_getElem? (i := 190) (by decide +kernel)) rfl
theorem wd114 : Cond.laysFinal "BoundedTypesModel" "BoundedTypesModel" "fieldType" "[I" ∈ pg_T := pg_t4 (List.mem_of_getElem? (i := 192) (by decide +kernel)) rfl
theorem wd115 : Cond.lays "BoundedTypesModel" "BoundedTypesModel" "methodCount" "I" ∈ pg_T := pg_t4 (List.mem_of_getElem? (i := 194) (by decide +kernel)) rfl
theorem wd116 : Cond.laysFinal "BoundedTypesModel" "BoundedTypesModel" "owner" "[I" ∈ pg_T := pg_t4 (List.mem_of_getElem? (i := 196) (by decide +kernel)) rfl
theorem wd117 : Cond.laysFinal "BoundedTypesModel" "BoundedTypesModel" "methodName" "[I" ∈ pg_T := pg_t4 (List.mem_of_getElem? (i := 198) (by decide +kernel)) rfl
theorem wd118 : Cond.laysFinal "BoundedTypesModel" "BoundedTypesModel" "methodVars" "[I" ∈ pg_T := pg_t4 (List.mem_of_getElem? (i := 200) (by decide +kernel)) rfl
theorem wd119 : Cond.laysFinal "BoundedTypesModel" "BoundedTypesModel" "methodLetter" "[I" ∈ pg_T := pg_t4 (List.mem_of_getElem? (i := 202) (by decide +kernel)) rfl
theorem wd120 : Cond.laysFinal "BoundedTypesModel" "BoundedTypesModel" "methodLimit" "[I" ∈ pg_T := pg_t4 (List.mem_of_getElem? (i := 204) (by decide +kernel)) rfl
theorem wd121 : Cond.laysFinal "BoundedTypesModel" "BoundedTypesModel" "parameters" "[I" ∈ pg_T := pg_t4 (List.mem_of_getElem? (i := 206) (by decide +kernel)) rfl
theorem wd122 : Cond.laysFinal "BoundedTypesModel" "BoundedTypesModel" "parameterName" "[I" ∈ pg_T := pg_t4 (List.mem_of_getElem? (i := 208) (by decide +kernel)) rfl
theorem wd123 : Cond.laysFinal "BoundedTypesModel" "BoundedTypesModel" "parameterType" "[I" ∈ pg_T := pg_t4 (List.mem_of_getElem? (i := 210) (by decide +kernel)) rfl
theorem wd124 : Cond.laysFinal "BoundedTypesModel" "BoundedTypesModel" "result" "[I" ∈ pg_T := pg_t4 (List.mem_of_getElem? (i := 212) (by decide +kernel)) rfl
theorem wd125 : Cond.laysFinal "BoundedTypesModel" "BoundedTypesModel" "from" "[I" ∈ pg_T := pg_t4 (List.mem_of_getElem? (i := 214) (by decide +kernel)) rfl
theorem wd126 : Cond.laysFinal "BoundedTypesModel" "BoundedTypesModel" "to" "[I" ∈ pg_T := pg_t4 (List.mem_of_getElem? (i := 216) (by decide +kernel)) rfl
theorem wd127 : Cond.lays "BoundedTypesModel" "BoundedTypesModel" "steps" "I" ∈ pg_T := pg_t4 (List.mem_of_getElem? (i := 218) (by decide +kernel)) rfl
theorem wd128 : Cond.laysFinal "BoundedTypesModel" "BoundedTypesModel" "step" "[J" ∈ pg_T := pg_t4 (List.mem_of_getElem? (i := 220) (by decide +kernel)) rfl
theorem wd129 : Cond.lays "BoundedTypesModel" "BoundedTypesModel" "members" "I" ∈ pg_T := pg_t4 (List.mem_of_getElem? (i := 222) (by decide +kernel)) rfl
theorem wd130 : Cond.laysFinal "BoundedTypesModel" "BoundedTypesModel" "member" "[I" ∈ pg_T := pg_t4 (List.mem_of_getElem? (i := 224) (by decide +kernel)) rfl
theorem wd131 : Cond.laysFinal "BoundedTypesModel" "BoundedTypesModel" "kind" "[I" ∈ pg_T := pg_t4 (List.mem_of_getElem? (i := 226) (by decide +kernel)) rfl
theorem wd132 : Cond.laysFinal "BoundedTypesModel" "BoundedTypesModel" "about" "[I" ∈ pg_T := pg_t4 (List.mem_of_getElem? (i := 228) (by decide +kernel)) rfl
theorem wd133 : Cond.laysFinal "BoundedTypesModel" "BoundedTypesModel" "many" "[I" ∈ pg_T := pg_t4 (List.mem_of_getElem? (i := 230) (by decide +kernel)) rfl
theorem wd134 : Cond.laysFinal "BoundedTypesModel" "BoundedTypesModel" "types" "[I" ∈ pg_T := pg_t4 (List.mem_of_getElem? (i := 232) (by decide +kernel)) rfl
theorem wd135 : Cond.laysFinal "BoundedTypesModel" "BoundedTypesModel" "given" "[I" ∈ pg_T := pg_t4 (List.mem_of_getElem? (i := 234) (by decide +kernel)) rfl
theorem wd136 : Cond.laysFinal "BoundedTypesModel" "BoundedTypesModel" "values" "[I" ∈ pg_T := pg_t4 (List.mem_of_getElem? (i := 236) (by decide +kernel)) rfl
theorem wd137 : Cond.lays "BoundedTypesModel" "BoundedTypesModel" "heapSize" "I" ∈ pg_T := pg_t4 (List.mem_of_getElem? (i := 238) (by decide +kernel)) rfl
theorem wd138 : Cond.laysFinal "BoundedTypesModel" "BoundedTypesModel" "heap" "[I" ∈ pg_T := pg_t5 (List.mem_of_getElem? (i := 0) (by decide +kernel)) rfl
theorem wd139 : Cond.laysFinal "BoundedTypesModel" "BoundedTypesModel" "callMethod" "[I" ∈ pg_T := pg_t5 (List.mem_of_getElem? (i := 2) (by decide +kernel)) rfl
theorem wd140 : Cond.laysFinal "BoundedTypesModel" "BoundedTypesModel" "callStep" "[I" ∈ pg_T := pg_t5 (List.mem_of_getElem? (i := 4) (by decide +kernel)) rfl
theorem wd141 : Cond.laysFinal "BoundedTypesModel" "BoundedTypesModel" "callThis" "[I" ∈ pg_T := pg_t5 (List.mem_of_getElem? (i := 6) (by decide +kernel)) rfl
theorem wd142 : Cond.laysFinal "BoundedTypesModel" "BoundedTypesModel" "callGiven" "[I" ∈ pg_T := pg_t5 (List.mem_of_getElem? (i := 8) (by decide +kernel)) rfl
theorem wd143 : Cond.laysFinal "BoundedTypesModel" "BoundedTypesModel" "text" "[I" ∈ pg_T := pg_t5 (List.mem_of_getElem? (i := 10) (by decide +kernel)) rfl
theorem wd144 : Cond.lays "BoundedTypesModel" "BoundedTypesModel" "textSize" "I" ∈ pg_T := pg_t5 (List.mem_of_getElem? (i := 12) (by decide +kernel)) rfl
theorem wd145 : Cond.lays "BoundedTypesModel" "BoundedTypesModel" "fuelLeft" "I" ∈ pg_T := pg_t5 (List.mem_of_getElem? (i := 14) (by decide +kernel)) rfl
theorem wd146 : Cond.lays "BoundedTypesModel" "BoundedTypesModel" "foundIn" "I" ∈ pg_T := pg_t5 (List.mem_of_getElem? (i := 16) (by decide +kernel)) rfl
theorem pg_ok0 : ah_PC 0 ("BoundedTypes$Types", pg_T0, 7) := by
  refine ⟨by decide, fun k hk => ?_, by decide +kernel, by decide +kernel, by decide +kernel⟩
  match k, hk with
  | 0, _ => exact wd0
  | 1, _ => exact wd1
  | 2, _ => exact wd2
  | 3, _ => exact wd3
  | 4, _ => exact wd4
  | 5, _ => exact wd5
  | 6, _ => exact wd6
  | k + 7, h => exact absurd h (by show ¬ k + 7 < 7; omega)
theorem pg_ok1 : ah_PC 1 ("BoundedTypes$Code", pg_T1, 5) := by
  refine ⟨by decide, fun k hk => ?_, by decide +kernel, by decide +kernel, by decide +kernel⟩
  match k, hk with
  | 0, _ => exact wd7
  | 1, _ => exact wd8
  | 2, _ => exact wd9
  | 3, _ => exact wd10
  | 4, _ => exact wd11
  | k + 5, h => exact absurd h (by show ¬ k + 5 < 5; omega)
theorem pg_ok2 : ah_PC 2 ("BoundedTypes$Bounds", pg_T2, 3) := by
  refine ⟨by decide, fun k hk => ?_, by decide +kernel, by decide +kernel, by decide +kernel⟩
  match k, hk with
  | 0, _ => exact wd12
  | 1, _ => exact wd13
  | 2, _ => exact wd14
  | k + 3, h => exact absurd h (by show ¬ k + 3 < 3; omega)
theorem pg_ok3 : ah_PC 3 ("java/util/ArrayList", pg_T3, 3) := by
  refine ⟨by decide, fun k hk => ?_, by decide +kernel, by decide +kernel, by decide +kernel⟩
  match k, hk with
  | 0, _ => exact wd15
  | 1, _ => exact wd16
  | 2, _ => exact wd17
  | k + 3, h => exact absurd h (by show ¬ k + 3 < 3; omega)
theorem pg_ok4 : ah_PC 4 ("BoundedTypes$Entry", pg_T4, 10) := by
  refine ⟨by decide, fun k hk => ?_, by decide +kernel, by decide +kernel, by decide +kernel⟩
  match k, hk with
  | 0, _ => exact wd18
  | 1, _ => exact wd19
  | 2, _ => exact wd20
  | 3, _ => exact wd21
  | 4, _ => exact wd22
  | 5, _ => exact wd23
  | 6, _ => exact wd24
  | 7, _ => exact wd25
  | 8, _ => exact wd26
  | 9, _ => exact wd27
  | k + 10, h => exact absurd h (by show ¬ k + 10 < 10; omega)
theorem pg_ok5 : ah_PC 5 ("BoundedTypes$Rules", pg_T5, 4) := by
  refine ⟨by decide, fun k hk => ?_, by decide +kernel, by decide +kernel, by decide +kernel⟩
  match k, hk with
  | 0, _ => exact wd28
  | 1, _ => exact wd29
  | 2, _ => exact wd30
  | 3, _ => exact wd31
  | k + 4, h => exact absurd h (by show ¬ k + 4 < 4; omega)
theorem pg_ok6 : ah_PC 6 ("BoundedTypes$Reader", pg_T6, 10) := by
  refine ⟨by decide, fun k hk => ?_, by decide +kernel, by decide +kernel, by decide +kernel⟩
  match k, hk with
  | 0, _ => exact wd32
  | 1, _ => exact wd33
  | 2, _ => exact wd34
  | 3, _ => exact wd35
  | 4, _ => exact wd36
  | 5, _ => exact wd37
  | 6, _ => exact wd38
  | 7, _ => exact wd39
  | 8, _ => exact wd40
  | 9, _ => exact wd41
  | k + 10, h => exact absurd h (by show ¬ k + 10 < 10; omega)
theorem pg_ok7 : ah_PC 7 ("BoundedTypes$Expressions", pg_T7, 8) := by
  refine ⟨by decide, fun k hk => ?_, by decide +kernel, by decide +kernel, by decide +kernel⟩
  match k, hk with
  | 0, _ => exact wd42
  | 1, _ => exact wd43
  | 2, _ => exact wd44
  | 3, _ => exact wd45
  | 4, _ => exact wd46
  | 5, _ => exact wd47
  | 6, _ => exact wd48
  | 7, _ => exact wd49
  | k + 8, h => exact absurd h (by show ¬ k + 8 < 8; omega)
theorem pg_ok8 : ah_PC 8 ("BoundedTypes$Declarations", pg_T8, 3) := by
  refine ⟨by decide, fun k hk => ?_, by decide +kernel, by decide +kernel, by decide +kernel⟩
  match k, hk with
  | 0, _ => exact wd50
  | 1, _ => exact wd51
  | 2, _ => exact wd52
  | k + 3, h => exact absurd h (by show ¬ k + 3 < 3; omega)
theorem pg_ok9 : ah_PC 9 ("BoundedTypes$Machine", pg_T9, 17) := by
  refine ⟨by decide, fun k hk => ?_, by decide +kernel, by decide +kernel, by decide +kernel⟩
  match k, hk with
  | 0, _ => exact wd53
  | 1, _ => exact wd54
  | 2, _ => exact wd55
  | 3, _ => exact wd56
  | 4, _ => exact wd57
  | 5, _ => exact wd58
  | 6, _ => exact wd59
  | 7, _ => exact wd60
  | 8, _ => exact wd61
  | 9, _ => exact wd62
  | 10, _ => exact wd63
  | 11, _ => exact wd64
  | 12, _ => exact wd65
  | 13, _ => exact wd66
  | 14, _ => exact wd67
  | 15, _ => exact wd68
  | 16, _ => exact wd69
  | k + 17, h => exact absurd h (by show ¬ k + 17 < 17; omega)
theorem pg_ok10 : ah_PC 10 ("BoundedTypes", pg_T10, 9) := by
  refine ⟨by decide, fun k hk => ?_, by decide +kernel, by decide +kernel, by decide +kernel⟩
  match k, hk with
  | 0, _ => exact wd70
  | 1, _ => exact wd71
  | 2, _ => exact wd72
  | 3, _ => exact wd73
  | 4, _ => exact wd74
  | 5, _ => exact wd75
  | 6, _ => exact wd76
  | 7, _ => exact wd77
  | 8, _ => exact wd78
  | k + 9, h => exact absurd h (by show ¬ k + 9 < 9; omega)
theorem pg_ok11 : ah_PC 11 ("BoundedTypes$Member", pg_T11, 9) := by
  refine ⟨by decide, fun k hk => ?_, by decide +kernel, by decide +kernel, by decide +kernel⟩
  match k, hk with
  | 0, _ => exact wd79
  | 1, _ => exact wd80
  | 2, _ => exact wd81
  | 3, _ => exact wd82
  | 4, _ => exact wd83
  | 5, _ => exact wd84
  | 6, _ => exact wd85
  | 7, _ => exact wd86
  | 8, _ => exact wd87
  | k + 9, h => exact absurd h (by show ¬ k + 9 < 9; omega)
theorem pg_ok12 : ah_PC 12 ("BoundedTypesModel", pg_T12, 59) := by
  refine ⟨by decide, fun k hk => ?_, by decide +kernel, by decide +kernel, by decide +kernel⟩
  match k, hk with
  | 0, _ => exact wd88
  | 1, _ => exact wd89
  | 2, _ => exact wd90
  | 3, _ => exact wd91
  | 4, _ => exact wd92
  | 5, _ => exact wd93
  | 6, _ => exact wd94
  | 7, _ => exact wd95
  | 8, _ => exact wd96
  | 9, _ => exact wd97
  | 10, _ => exact wd98
  | 11, _ => exact wd99
  | 12, _ => exact wd100
  | 13, _ => exact wd101
  | 14, _ => exact wd102
  | 15, _ => exact wd103
  | 16, _ => exact wd104
  | 17, _ => exact wd105
  | 18, _ => exact wd106
  | 19, _ => exact wd107
  | 20, _ => exact wd108
  | 21, _ => exact wd109
  | 22, _ => exact wd110
  | 23, _ => exact wd111
  | 24, _ => exact wd112
  | 25, _ => exact wd113
  | 26, _ => exact wd114
  | 27, _ => exact wd115
  | 28, _ => exact wd116
  | 29, _ => exact wd117
  | 30, _ => exact wd118
  | 31, _ => exact wd119
  | 32, _ => exact wd120
  | 33, _ => exact wd121
  | 34, _ => exact wd122
  | 35, _ => exact wd123
  | 36, _ => exact wd124
  | 37, _ => exact wd125
  | 38, _ => exact wd126
  | 39, _ => exact wd127
  | 40, _ => exact wd128
  | 41, _ => exact wd129
  | 42, _ => exact wd130
  | 43, _ => exact wd131
  | 44, _ => exact wd132
  | 45, _ => exact wd133
  | 46, _ => exact wd134
  | 47, _ => exact wd135
  | 48, _ => exact wd136
  | 49, _ => exact wd137
  | 50, _ => exact wd138
  | 51, _ => exact wd139
  | 52, _ => exact wd140
  | 53, _ => exact wd141
  | 54, _ => exact wd142
  | 55, _ => exact wd143
  | 56, _ => exact wd144
  | 57, _ => exact wd145
  | 58, _ => exact wd146
  | k + 59, h => exact absurd h (by show ¬ k + 59 < 59; omega)
theorem pg_ok (ci : Nat) (q : vw_C) (h : pg_cls[ci]? = some q) : ah_PC ci q := by
  match ci, h with
  | 0, h => cases h; exact pg_ok0
  | 1, h => cases h; exact pg_ok1
  | 2, h => cases h; exact pg_ok2
  | 3, h => cases h; exact pg_ok3
  | 4, h => cases h; exact pg_ok4
  | 5, h => cases h; exact pg_ok5
  | 6, h => cases h; exact pg_ok6
  | 7, h => cases h; exact pg_ok7
  | 8, h => cases h; exact pg_ok8
  | 9, h => cases h; exact pg_ok9
  | 10, h => cases h; exact pg_ok10
  | 11, h => cases h; exact pg_ok11
  | 12, h => cases h; exact pg_ok12
  | k + 13, h => cases h
