theorem wd_oi : (.code objectInit ⟨#[0xb1]⟩ 1 none) ∈ wU := mU (tin_1 _ (List.mem_of_getElem? (i := 29) rfl)) rfl
theorem inX0 : ∀ w ∈ u_ws RX0 TX0 3, w ∈ wU := fun w h => List.mem_filter.mpr ⟨(by decide +kernel : ∀ w ∈ u_ws RX0 TX0 3, w ∈ lw_tbl) w h, (by decide +kernel : ∀ w ∈ u_ws RX0 TX0 3, goodWord w = true) w h⟩
theorem inX1 : ∀ w ∈ u_ws RX1 TX1 5, w ∈ wU := fun w h => List.mem_filter.mpr ⟨(by decide +kernel : ∀ w ∈ u_ws RX1 TX1 5, w ∈ lw_tbl) w h, (by decide +kernel : ∀ w ∈ u_ws RX1 TX1 5, goodWord w = true) w h⟩
theorem inX2 : ∀ w ∈ u_ws RX2 TX2 1, w ∈ wU := fun w h => List.mem_filter.mpr ⟨(by decide +kernel : ∀ w ∈ u_ws RX2 TX2 1, w ∈ lw_tbl) w h, (by decide +kernel : ∀ w ∈ u_ws RX2 TX2 1, goodWord w = true) w h⟩
theorem inX3 : ∀ w ∈ u_ws RX3 TX3 2, w ∈ wU := fun w h => List.mem_filter.mpr ⟨(by decide +kernel : ∀ w ∈ u_ws RX3 TX3 2, w ∈ lw_tbl) w h, (by decide +kernel : ∀ w ∈ u_ws RX3 TX3 2, goodWord w = true) w h⟩
theorem inX4 : ∀ w ∈ u_ws RX4 TX4 6, w ∈ wU := fun w h => List.mem_filter.mpr ⟨(by decide +kernel : ∀ w ∈ u_ws RX4 TX4 6, w ∈ lw_tbl) w h, (by decide +kernel : ∀ w ∈ u_ws RX4 TX4 6, goodWord w = true) w h⟩
theorem inX5 : ∀ w ∈ u_ws RX5 TX5 16, w ∈ wU := fun w h => List.mem_filter.mpr ⟨(by decide +kernel : ∀ w ∈ u_ws RX5 TX5 16, w ∈ lw_tbl) w h, (by decide +kernel : ∀ w ∈ u_ws RX5 TX5 16, goodWord w = true) w h⟩
theorem inX6 : ∀ w ∈ u_ws RX6 TX6 11, w ∈ wU := fun w h => List.mem_filter.mpr ⟨(by decide +kernel : ∀ w ∈ u_ws RX6 TX6 11, w ∈ lw_tbl) w h, (by decide +kernel : ∀ w ∈ u_ws RX6 TX6 11, goodWord w = true) w h⟩
theorem inX7 : ∀ w ∈ u_ws RX7 TX7 5, w ∈ wU := fun w h => List.mem_filter.mpr ⟨(by decide +kernel : ∀ w ∈ u_ws RX7 TX7 5, w ∈ lw_tbl) w h, (by decide +kernel : ∀ w ∈ u_ws RX7 TX7 5, goodWord w = true) w h⟩
theorem inX8 : ∀ w ∈ u_ws RX8 TX8 17, w ∈ wU := fun w h => List.mem_filter.mpr ⟨(by decide +kernel : ∀ w ∈ u_ws RX8 TX8 17, w ∈ lw_tbl) w h, (by decide +kernel : ∀ w ∈ u_ws RX8 TX8 17, goodWord w = true) w h⟩
theorem inX9 : ∀ w ∈ u_ws RX9 TX9 9, w ∈ wU := fun w h => List.mem_filter.mpr ⟨(by decide +kernel : ∀ w ∈ u_ws RX9 TX9 9, w ∈ lw_tbl) w h, (by decide +kernel : ∀ w ∈ u_ws RX9 TX9 9, goodWord w = true) w h⟩
theorem inX11 : ∀ w ∈ u_ws RX11 TX11 14, w ∈ wU := fun w h => List.mem_filter.mpr ⟨(by decide +kernel : ∀ w ∈ u_ws RX11 TX11 14, w ∈ lw_tbl) w h, (by decide +kernel : ∀ w ∈ u_ws RX11 TX11 14, goodWord w = true) w h⟩
theorem inX12 : ∀ w ∈ u_ws RX12 TX12 46, w ∈ wU := fun w h => List.mem_filter.mpr ⟨(by decide +kernel : ∀ w ∈ u_ws RX12 TX12 46, w ∈ lw_tbl) w h, (by decide +kernel : ∀ w ∈ u_ws RX12 TX12 46, goodWord w = true) w h⟩
theorem wd_0 : (Cond.methodLink "SpineTables$Fraction" 1 ⟨"java/lang/Object", "<init>", "()V"⟩) ∈ wU := mU (tin_1 _ (List.mem_of_getElem? (i := 103) rfl)) rfl
theorem wd_1 : (Cond.instanceMethod ⟨"java/lang/Object", "<init>", "()V"⟩) ∈ wU := mU (tin_1 _ (List.mem_of_getElem? (i := 28) rfl)) rfl
theorem wd_2 : (Cond.fieldLink "SpineTables$Fraction" 7 "SpineTables$Fraction" "above" "J") ∈ wU := mU (tin_1 _ (List.mem_of_getElem? (i := 104) rfl)) rfl
theorem wd_3 : (Cond.fieldLink "SpineTables$Fraction" 13 "SpineTables$Fraction" "below" "J") ∈ wU := mU (tin_1 _ (List.mem_of_getElem? (i := 107) rfl)) rfl
theorem wd_4 : (Cond.methodLink "SpineTables$Reader" 3 ⟨"java/lang/Object", "<init>", "()V"⟩) ∈ wU := mU (tin_1 _ (List.mem_of_getElem? (i := 37) rfl)) rfl
theorem wd_5 : (Cond.fieldLink "SpineTables$Reader" 9 "SpineTables$Reader" "code" "I") ∈ wU := mU (tin_1 _ (List.mem_of_getElem? (i := 38) rfl)) rfl
theorem wd_6 : (Cond.fieldLink "SpineTables$Reader" 15 "SpineTables$Reader" "place" "I") ∈ wU := mU (tin_1 _ (List.mem_of_getElem? (i := 40) rfl)) rfl
theorem wd_7 : (Cond.fieldLink "SpineTables$Reader" 18 "SpineTables$Reader" "text" "[B") ∈ wU := mU (tin_1 _ (List.mem_of_getElem? (i := 42) rfl)) rfl
theorem wd_8 : (Cond.fieldLink "SpineTables$Reader" 22 "SpineTables$Reader" "size" "I") ∈ wU := mU (tin_1 _ (List.mem_of_getElem? (i := 43) rfl)) rfl
theorem wd_9 : (Cond.fieldLink "SpineTables$Reader" 25 "SpineTables$Reader" "into" "LSpineTables$Table;") ∈ wU := mU (tin_1 _ (List.mem_of_getElem? (i := 44) rfl)) rfl
theorem wd_10 : (Cond.fieldLink "SpineTables$Reader" 29 "SpineTables$Reader" "lineEnd" "I") ∈ wU := mU (tin_1 _ (List.mem_of_getElem? (i := 45) rfl)) rfl
theorem wd_11 : (Cond.fieldLink "SpineTables$Reader" 32 "SpineTables$Reader" "sort" "I") ∈ wU := mU (tin_1 _ (List.mem_of_getElem? (i := 46) rfl)) rfl
theorem wd_12 : (Cond.fieldLink "SpineTables$Reader" 35 "SpineTables$Reader" "tokens" "I") ∈ wU := mU (tin_1 _ (List.mem_of_getElem? (i := 47) rfl)) rfl
theorem wd_13 : (Cond.arrayClass .int) ∈ wU := mU (tin_1 _ (List.mem_of_getElem? (i := 91) rfl)) rfl
theorem wd_14 : (Cond.fieldLink "SpineTables$Reader" 38 "SpineTables$Reader" "starts" "[I") ∈ wU := mU (tin_1 _ (List.mem_of_getElem? (i := 48) rfl)) rfl
theorem wd_15 : (Cond.fieldLink "SpineTables$Reader" 42 "SpineTables$Reader" "ends" "[I") ∈ wU := mU (tin_1 _ (List.mem_of_getElem? (i := 49) rfl)) rfl
theorem wd_16 : (Cond.fieldLink "SpineTables$Reader" 45 "SpineTables$Reader" "acts" "[I") ∈ wU := mU (tin_1 _ (List.mem_of_getElem? (i := 50) rfl)) rfl
theorem wd_17 : (Cond.fieldLink "SpineTables$Reader" 48 "SpineTables$Reader" "firstJoin" "I") ∈ wU := mU (tin_1 _ (List.mem_of_getElem? (i := 51) rfl)) rfl
theorem wd_18 : (Cond.fieldLink "SpineTables$Reader" 51 "SpineTables$Reader" "latestJoin" "I") ∈ wU := mU (tin_1 _ (List.mem_of_getElem? (i := 52) rfl)) rfl
theorem wd_19 : (Cond.fieldLink "SpineTables$Reader" 54 "SpineTables$Reader" "swaps" "I") ∈ wU := mU (tin_1 _ (List.mem_of_getElem? (i := 53) rfl)) rfl
theorem wd_20 : (Cond.fieldLink "SpineTables$Reader" 57 "SpineTables$Reader" "adds" "I") ∈ wU := mU (tin_1 _ (List.mem_of_getElem? (i := 54) rfl)) rfl
theorem wd_21 : (Cond.fieldLink "SpineTables$Reader" 60 "SpineTables$Reader" "grown" "I") ∈ wU := mU (tin_1 _ (List.mem_of_getElem? (i := 55) rfl)) rfl
theorem wd_22 : (Cond.methodLink "SpineTables$Walker" 3 ⟨"java/lang/Object", "<init>", "()V"⟩) ∈ wU := mU (tin_1 _ (List.mem_of_getElem? (i := 97) rfl)) rfl
theorem wd_23 : (Cond.fieldLink "SpineTables$Walker" 9 "SpineTables$Walker" "endAbove" "[I") ∈ wU := mU (tin_1 _ (List.mem_of_getElem? (i := 115) rfl)) rfl
theorem wd_24 : (Cond.fieldLink "SpineTables$Walker" 15 "SpineTables$Walker" "endBelow" "[I") ∈ wU := mU (tin_1 _ (List.mem_of_getElem? (i := 116) rfl)) rfl
theorem wd_25 : (Cond.fieldLink "SpineTables$Walker" 18 "SpineTables$Walker" "oldAbove" "[I") ∈ wU := mU (tin_1 _ (List.mem_of_getElem? (i := 117) rfl)) rfl
theorem wd_26 : (Cond.fieldLink "SpineTables$Walker" 21 "SpineTables$Walker" "oldBelow" "[I") ∈ wU := mU (tin_1 _ (List.mem_of_getElem? (i := 118) rfl)) rfl
theorem wd_27 : (Cond.fieldLink "SpineTables$Walker" 24 "SpineTables$Walker" "from" "[I") ∈ wU := mU (tin_1 _ (List.mem_of_getElem? (i := 119) rfl)) rfl
theorem wd_28 : (Cond.classLink "SpineTables$Walker" 27 "SpineTables$Fraction") ∈ wU := mU (tin_1 _ (List.mem_of_getElem? (i := 98) rfl)) rfl
theorem wd_29 : (Cond.instantiable "SpineTables$Fraction" 2) ∈ wU := mU (tin_1 _ (List.mem_of_getElem? (i := 99) rfl)) rfl
theorem wd_30 : (Cond.initialized "SpineTables$Fraction") ∈ wU := mU (tin_1 _ (List.mem_of_getElem? (i := 4) rfl)) rfl
theorem wd_31 : (.code yX3_init cX3_init 1 none) ∈ wU := mU (tin_1 _ (List.mem_of_getElem? (i := 102) rfl)) rfl
theorem wd_32 : (Cond.instanceMethod yX3_init) ∈ wU := mU (tin_1 _ (List.mem_of_getElem? (i := 101) rfl)) rfl
theorem wd_33 : (Cond.fieldLink "SpineTables$Walker" 30 "SpineTables$Walker" "sum" "LSpineTables$Fraction;") ∈ wU := mU (tin_1 _ (List.mem_of_getElem? (i := 120) rfl)) rfl
theorem wd_34 : (Cond.fieldLink "SpineTables$Walker" 34 "SpineTables$Walker" "table" "LSpineTables$Table;") ∈ wU := mU (tin_1 _ (List.mem_of_getElem? (i := 121) rfl)) rfl
theorem wd_35 : (Cond.fieldLink "SpineTables$Walker" 38 "SpineTables$Walker" "nowAbove" "I") ∈ wU := mU (tin_1 _ (List.mem_of_getElem? (i := 122) rfl)) rfl
theorem wd_36 : (Cond.fieldLink "SpineTables$Walker" 42 "SpineTables$Walker" "nowBelow" "I") ∈ wU := mU (tin_1 _ (List.mem_of_getElem? (i := 123) rfl)) rfl
theorem wd_37 : (Cond.methodLink "SpineTables$Lengths" 3 ⟨"java/lang/Object", "<init>", "()V"⟩) ∈ wU := mU (tin_1 _ (List.mem_of_getElem? (i := 148) rfl)) rfl
theorem wd_38 : (Cond.fieldLink "SpineTables$Lengths" 9 "SpineTables$Lengths" "above" "I") ∈ wU := mU (tin_1 _ (List.mem_of_getElem? (i := 151) rfl)) rfl
theorem wd_39 : (Cond.fieldLink "SpineTables$Lengths" 15 "SpineTables$Lengths" "below" "I") ∈ wU := mU (tin_1 _ (List.mem_of_getElem? (i := 153) rfl)) rfl
theorem wd_40 : (Cond.classLink "SpineTables$Lengths" 18 "SpineTables$Fraction") ∈ wU := mU (tin_1 _ (List.mem_of_getElem? (i := 149) rfl)) rfl
theorem wd_41 : (Cond.fieldLink "SpineTables$Lengths" 21 "SpineTables$Lengths" "value" "LSpineTables$Fraction;") ∈ wU := mU (tin_1 _ (List.mem_of_getElem? (i := 155) rfl)) rfl
theorem wd_42 : (Cond.fieldLink "SpineTables$Lengths" 25 "SpineTables$Lengths" "text" "[B") ∈ wU := mU (tin_1 _ (List.mem_of_getElem? (i := 156) rfl)) rfl
theorem wd_43 : (Cond.fieldLink "SpineTables$Lengths" 29 "SpineTables$Lengths" "at" "I") ∈ wU := mU (tin_1 _ (List.mem_of_getElem? (i := 157) rfl)) rfl
theorem wd_44 : (Cond.fieldLink "SpineTables$Lengths" 32 "SpineTables$Lengths" "end" "I") ∈ wU := mU (tin_1 _ (List.mem_of_getElem? (i := 158) rfl)) rfl
theorem wd_45 : (Cond.methodLink "SpineTables$Side" 3 ⟨"java/lang/Object", "<init>", "()V"⟩) ∈ wU := mU (tin_1 _ (List.mem_of_getElem? (i := 183) rfl)) rfl
theorem wd_46 : (Cond.fieldLink "SpineTables$Side" 9 "SpineTables$Side" "table" "LSpineTables$Table;") ∈ wU := mU (tin_1 _ (List.mem_of_getElem? (i := 184) rfl)) rfl
theorem wd_47 : (Cond.fieldLink "SpineTables$Side" 15 "SpineTables$Side" "next" "I") ∈ wU := mU (tin_1 _ (List.mem_of_getElem? (i := 186) rfl)) rfl
theorem wd_48 : (Cond.fieldLink "SpineTables$Side" 19 "SpineTables$Side" "strands" "I") ∈ wU := mU (tin_1 _ (List.mem_of_getElem? (i := 188) rfl)) rfl
theorem wd_49 : (Cond.fieldLink "SpineTables$Side" 22 "SpineTables$Side" "isUrgent" "Z") ∈ wU := mU (tin_1 _ (List.mem_of_getElem? (i := 190) rfl)) rfl
theorem wd_50 : (Cond.fieldLink "SpineTables$Side" 26 "SpineTables$Side" "from" "[I") ∈ wU := mU (tin_1 _ (List.mem_of_getElem? (i := 192) rfl)) rfl
theorem wd_51 : (Cond.methodLink "SpineTables$Assembler" 3 ⟨"java/lang/Object", "<init>", "()V"⟩) ∈ wU := mU (tin_1 _ (List.mem_of_getElem? (i := 177) rfl)) rfl
theorem wd_52 : (Cond.classLink "SpineTables$Assembler" 9 "SpineTables$Side") ∈ wU := mU (tin_1 _ (List.mem_of_getElem? (i := 178) rfl)) rfl
theorem wd_53 : (Cond.instantiable "SpineTables$Side" 5) ∈ wU := mU (tin_1 _ (List.mem_of_getElem? (i := 179) rfl)) rfl
theorem wd_54 : (Cond.initialized "SpineTables$Side") ∈ wU := mU (tin_1 _ (List.mem_of_getElem? (i := 7) rfl)) rfl
theorem wd_55 : (.code yX7_init cX7_init 1 none) ∈ wU := mU (tin_1 _ (List.mem_of_getElem? (i := 182) rfl)) rfl
theorem wd_56 : (Cond.instanceMethod yX7_init) ∈ wU := mU (tin_1 _ (List.mem_of_getElem? (i := 181) rfl)) rfl
theorem wd_57 : (Cond.fieldLink "SpineTables$Assembler" 12 "SpineTables$Assembler" "left" "LSpineTables$Side;") ∈ wU := mU (tin_1 _ (List.mem_of_getElem? (i := 204) rfl)) rfl
theorem wd_58 : (Cond.fieldLink "SpineTables$Assembler" 18 "SpineTables$Assembler" "right" "LSpineTables$Side;") ∈ wU := mU (tin_1 _ (List.mem_of_getElem? (i := 205) rfl)) rfl
theorem wd_59 : (Cond.fieldLink "SpineTables$Assembler" 21 "SpineTables$Assembler" "into" "LSpineTables$Rows;") ∈ wU := mU (tin_1 _ (List.mem_of_getElem? (i := 206) rfl)) rfl
theorem wd_60 : (Cond.methodLink "SpineTables$Extractor" 3 ⟨"java/lang/Object", "<init>", "()V"⟩) ∈ wU := mU (tin_1 _ (List.mem_of_getElem? (i := 219) rfl)) rfl
theorem wd_61 : (Cond.fieldLink "SpineTables$Extractor" 9 "SpineTables$Extractor" "from" "[I") ∈ wU := mU (tin_1 _ (List.mem_of_getElem? (i := 220) rfl)) rfl
theorem wd_62 : (Cond.methodLink "SpineTables$BarCheck" 3 ⟨"java/lang/Object", "<init>", "()V"⟩) ∈ wU := mU (tin_1 _ (List.mem_of_getElem? (i := 229) rfl)) rfl
theorem wd_63 : (Cond.classLink "SpineTables$BarCheck" 9 "SpineTables$Fraction") ∈ wU := mU (tin_1 _ (List.mem_of_getElem? (i := 230) rfl)) rfl
theorem wd_64 : (Cond.fieldLink "SpineTables$BarCheck" 12 "SpineTables$BarCheck" "gap" "LSpineTables$Fraction;") ∈ wU := mU (tin_1 _ (List.mem_of_getElem? (i := 232) rfl)) rfl
theorem wd_65 : (Cond.fieldLink "SpineTables$BarCheck" 18 "SpineTables$BarCheck" "meterAbove" "I") ∈ wU := mU (tin_1 _ (List.mem_of_getElem? (i := 233) rfl)) rfl
theorem wd_66 : (Cond.fieldLink "SpineTables$BarCheck" 22 "SpineTables$BarCheck" "meterBelow" "I") ∈ wU := mU (tin_1 _ (List.mem_of_getElem? (i := 234) rfl)) rfl
theorem wd_67 : (Cond.fieldLink "SpineTables$BarCheck" 25 "SpineTables$BarCheck" "dueAbove" "I") ∈ wU := mU (tin_1 _ (List.mem_of_getElem? (i := 235) rfl)) rfl
theorem wd_68 : (Cond.fieldLink "SpineTables$BarCheck" 28 "SpineTables$BarCheck" "dueBelow" "I") ∈ wU := mU (tin_1 _ (List.mem_of_getElem? (i := 236) rfl)) rfl
theorem wd_69 : (Cond.methodLink "SpineTables$Rows" 3 ⟨"java/lang/Object", "<init>", "()V"⟩) ∈ wU := mU (tin_2 _ (List.mem_of_getElem? (i := 85) rfl)) rfl
theorem wd_70 : (Cond.arrayClass .byte) ∈ wU := mU (tin_1 _ (List.mem_of_getElem? (i := 89) rfl)) rfl
theorem wd_71 : (Cond.fieldLink "SpineTables$Rows" 9 "SpineTables$Rows" "text" "[B") ∈ wU := mU (tin_2 _ (List.mem_of_getElem? (i := 86) rfl)) rfl
theorem wd_72 : (Cond.fieldLink "SpineTables$Rows" 15 "SpineTables$Rows" "starts" "[I") ∈ wU := mU (tin_2 _ (List.mem_of_getElem? (i := 91) rfl)) rfl
theorem wd_73 : (Cond.fieldLink "SpineTables$Rows" 19 "SpineTables$Rows" "sorts" "[I") ∈ wU := mU (tin_2 _ (List.mem_of_getElem? (i := 92) rfl)) rfl
theorem wd_74 : (Cond.fieldLink "SpineTables$Rows" 22 "SpineTables$Rows" "firsts" "[I") ∈ wU := mU (tin_2 _ (List.mem_of_getElem? (i := 93) rfl)) rfl
theorem wd_75 : (Cond.fieldLink "SpineTables$Rows" 25 "SpineTables$Rows" "tokenStarts" "[I") ∈ wU := mU (tin_2 _ (List.mem_of_getElem? (i := 94) rfl)) rfl
theorem wd_76 : (Cond.fieldLink "SpineTables$Rows" 28 "SpineTables$Rows" "tokenEnds" "[I") ∈ wU := mU (tin_2 _ (List.mem_of_getElem? (i := 95) rfl)) rfl
theorem wd_77 : (Cond.fieldLink "SpineTables$Rows" 31 "SpineTables$Rows" "acts" "[I") ∈ wU := mU (tin_2 _ (List.mem_of_getElem? (i := 96) rfl)) rfl
theorem wd_78 : (Cond.fieldLink "SpineTables$Rows" 34 "SpineTables$Rows" "size" "I") ∈ wU := mU (tin_2 _ (List.mem_of_getElem? (i := 97) rfl)) rfl
theorem wd_79 : (Cond.fieldLink "SpineTables$Rows" 38 "SpineTables$Rows" "count" "I") ∈ wU := mU (tin_2 _ (List.mem_of_getElem? (i := 99) rfl)) rfl
theorem wd_80 : (Cond.fieldLink "SpineTables$Rows" 41 "SpineTables$Rows" "tokens" "I") ∈ wU := mU (tin_2 _ (List.mem_of_getElem? (i := 107) rfl)) rfl
theorem wd_81 : (Cond.fieldLink "SpineTables$Rows" 44 "SpineTables$Rows" "overfull" "Z") ∈ wU := mU (tin_2 _ (List.mem_of_getElem? (i := 108) rfl)) rfl
theorem wd_82 : (Cond.methodLink "SpineTables$Table" 3 ⟨"java/lang/Object", "<init>", "()V"⟩) ∈ wU := mU (tin_2 _ (List.mem_of_getElem? (i := 79) rfl)) rfl
theorem wd_83 : (Cond.classLink "SpineTables$Table" 9 "SpineTables$Rows") ∈ wU := mU (tin_2 _ (List.mem_of_getElem? (i := 80) rfl)) rfl
theorem wd_84 : (Cond.instantiable "SpineTables$Rows" 11) ∈ wU := mU (tin_2 _ (List.mem_of_getElem? (i := 81) rfl)) rfl
theorem wd_85 : (Cond.initialized "SpineTables$Rows") ∈ wU := mU (tin_1 _ (List.mem_of_getElem? (i := 12) rfl)) rfl
theorem wd_86 : (.code yX6_init cX6_init 1 none) ∈ wU := mU (tin_2 _ (List.mem_of_getElem? (i := 84) rfl)) rfl
theorem wd_87 : (Cond.instanceMethod yX6_init) ∈ wU := mU (tin_2 _ (List.mem_of_getElem? (i := 83) rfl)) rfl
theorem wd_88 : (Cond.fieldLink "SpineTables$Table" 12 "SpineTables$Table" "rows" "LSpineTables$Rows;") ∈ wU := mU (tin_2 _ (List.mem_of_getElem? (i := 134) rfl)) rfl
theorem wd_89 : (Cond.fieldLink "SpineTables$Table" 18 "SpineTables$Table" "tokenKinds" "[I") ∈ wU := mU (tin_2 _ (List.mem_of_getElem? (i := 143) rfl)) rfl
theorem wd_90 : (Cond.fieldLink "SpineTables$Table" 22 "SpineTables$Table" "tokenNumbers" "[I") ∈ wU := mU (tin_2 _ (List.mem_of_getElem? (i := 144) rfl)) rfl
theorem wd_91 : (Cond.fieldLink "SpineTables$Table" 25 "SpineTables$Table" "tokenHelds" "[I") ∈ wU := mU (tin_2 _ (List.mem_of_getElem? (i := 145) rfl)) rfl
theorem wd_92 : (Cond.fieldLink "SpineTables$Table" 28 "SpineTables$Table" "lengthsAbove" "[I") ∈ wU := mU (tin_2 _ (List.mem_of_getElem? (i := 146) rfl)) rfl
theorem wd_93 : (Cond.fieldLink "SpineTables$Table" 31 "SpineTables$Table" "lengthsBelow" "[I") ∈ wU := mU (tin_2 _ (List.mem_of_getElem? (i := 147) rfl)) rfl
theorem wd_94 : (Cond.fieldLink "SpineTables$Table" 34 "SpineTables$Table" "kindTokens" "[I") ∈ wU := mU (tin_2 _ (List.mem_of_getElem? (i := 148) rfl)) rfl
theorem wd_95 : (Cond.fieldLink "SpineTables$Table" 37 "SpineTables$Table" "kindRhythms" "[I") ∈ wU := mU (tin_2 _ (List.mem_of_getElem? (i := 149) rfl)) rfl
theorem wd_96 : (Cond.fieldLink "SpineTables$Table" 40 "SpineTables$Table" "kinds" "I") ∈ wU := mU (tin_2 _ (List.mem_of_getElem? (i := 150) rfl)) rfl
theorem wd_97 : (Cond.fieldLink "SpineTables$Table" 44 "SpineTables$Table" "numbers" "I") ∈ wU := mU (tin_2 _ (List.mem_of_getElem? (i := 152) rfl)) rfl
theorem wd_98 : (Cond.fieldLink "SpineTables$Table" 47 "SpineTables$Table" "latest" "I") ∈ wU := mU (tin_2 _ (List.mem_of_getElem? (i := 153) rfl)) rfl
theorem wd_99 : (Cond.fieldLink "SpineTables$Table" 50 "SpineTables$Table" "strands" "I") ∈ wU := mU (tin_2 _ (List.mem_of_getElem? (i := 155) rfl)) rfl
theorem wd_100 : (Cond.fieldLink "SpineTables$Table" 53 "SpineTables$Table" "sources" "[I") ∈ wU := mU (tin_2 _ (List.mem_of_getElem? (i := 157) rfl)) rfl
theorem wd_101 : (Cond.fieldLink "SpineTables$Table" 56 "SpineTables$Table" "timesAbove" "[I") ∈ wU := mU (tin_2 _ (List.mem_of_getElem? (i := 158) rfl)) rfl
theorem wd_102 : (Cond.fieldLink "SpineTables$Table" 59 "SpineTables$Table" "timesBelow" "[I") ∈ wU := mU (tin_2 _ (List.mem_of_getElem? (i := 159) rfl)) rfl
theorem wd_103 : (Cond.fieldLink "SpineTables$Table" 62 "SpineTables$Table" "misfitRow" "I") ∈ wU := mU (tin_2 _ (List.mem_of_getElem? (i := 160) rfl)) rfl
theorem wd_104 : (Cond.fieldLink "SpineTables$Table" 65 "SpineTables$Table" "misfitCode" "I") ∈ wU := mU (tin_2 _ (List.mem_of_getElem? (i := 163) rfl)) rfl
theorem wd_105 : (Cond.methodLink "SpineTables" 1 ⟨"java/lang/Object", "<init>", "()V"⟩) ∈ wU := mU (tin_1 _ (List.mem_of_getElem? (i := 27) rfl)) rfl
theorem wd_106 : (Cond.fieldLink "SpineTables" 9 "SpineTables" "tape" "[B") ∈ wU := mU (tin_2 _ (List.mem_of_getElem? (i := 8) rfl)) rfl
theorem wd_107 : (Cond.fieldLink "SpineTables" 13 "SpineTables" "tapeSize" "I") ∈ wU := mU (tin_2 _ (List.mem_of_getElem? (i := 9) rfl)) rfl
theorem wd_108 : (Cond.fieldLink "SpineTables" 17 "SpineTables" "written" "[B") ∈ wU := mU (tin_2 _ (List.mem_of_getElem? (i := 10) rfl)) rfl
theorem wd_109 : (Cond.fieldLink "SpineTables" 20 "SpineTables" "writtenSize" "I") ∈ wU := mU (tin_2 _ (List.mem_of_getElem? (i := 11) rfl)) rfl
theorem wd_110 : (Cond.fieldLink "SpineTables" 23 "SpineTables" "faultCode" "I") ∈ wU := mU (tin_2 _ (List.mem_of_getElem? (i := 12) rfl)) rfl
theorem wd_111 : (Cond.classLink "SpineTables" 26 "SpineTables$Table") ∈ wU := mU (tin_1 _ (List.mem_of_getElem? (i := 30) rfl)) rfl
theorem wd_112 : (Cond.fieldLink "SpineTables" 28 "SpineTables" "tables" "[LSpineTables$Table;") ∈ wU := mU (tin_2 _ (List.mem_of_getElem? (i := 13) rfl)) rfl
theorem wd_113 : (Cond.arrayClass .boolean) ∈ wU := mU (tin_1 _ (List.mem_of_getElem? (i := 90) rfl)) rfl
theorem wd_114 : (Cond.fieldLink "SpineTables" 32 "SpineTables" "taken" "[Z") ∈ wU := mU (tin_2 _ (List.mem_of_getElem? (i := 14) rfl)) rfl
theorem wd_115 : (Cond.fieldLink "SpineTables" 36 "SpineTables" "bench" "LSpineTables$Table;") ∈ wU := mU (tin_2 _ (List.mem_of_getElem? (i := 15) rfl)) rfl
theorem wd_116 : (Cond.classLink "SpineTables" 40 "SpineTables$Reader") ∈ wU := mU (tin_1 _ (List.mem_of_getElem? (i := 32) rfl)) rfl
theorem wd_117 : (Cond.instantiable "SpineTables$Reader" 16) ∈ wU := mU (tin_1 _ (List.mem_of_getElem? (i := 33) rfl)) rfl
theorem wd_118 : (Cond.initialized "SpineTables$Reader") ∈ wU := mU (tin_1 _ (List.mem_of_getElem? (i := 2) rfl)) rfl
theorem wd_119 : (.code yX5_init cX5_init 1 none) ∈ wU := mU (tin_1 _ (List.mem_of_getElem? (i := 36) rfl)) rfl
theorem wd_120 : (Cond.instanceMethod yX5_init) ∈ wU := mU (tin_1 _ (List.mem_of_getElem? (i := 35) rfl)) rfl
theorem wd_121 : (Cond.fieldLink "SpineTables" 43 "SpineTables" "reader" "LSpineTables$Reader;") ∈ wU := mU (tin_2 _ (List.mem_of_getElem? (i := 16) rfl)) rfl
theorem wd_122 : (Cond.classLink "SpineTables" 47 "SpineTables$Walker") ∈ wU := mU (tin_1 _ (List.mem_of_getElem? (i := 92) rfl)) rfl
theorem wd_123 : (Cond.instantiable "SpineTables$Walker" 9) ∈ wU := mU (tin_1 _ (List.mem_of_getElem? (i := 93) rfl)) rfl
theorem wd_124 : (Cond.initialized "SpineTables$Walker") ∈ wU := mU (tin_1 _ (List.mem_of_getElem? (i := 3) rfl)) rfl
theorem wd_125 : (.code yX9_init cX9_init 1 none) ∈ wU := mU (tin_1 _ (List.mem_of_getElem? (i := 96) rfl)) rfl
theorem wd_126 : (Cond.instanceMethod yX9_init) ∈ wU := mU (tin_1 _ (List.mem_of_getElem? (i := 95) rfl)) rfl
theorem wd_127 : (Cond.fieldLink "SpineTables" 50 "SpineTables" "walker" "LSpineTables$Walker;") ∈ wU := mU (tin_2 _ (List.mem_of_getElem? (i := 17) rfl)) rfl
theorem wd_128 : (Cond.classLink "SpineTables" 54 "SpineTables$Lengths") ∈ wU := mU (tin_1 _ (List.mem_of_getElem? (i := 143) rfl)) rfl
theorem wd_129 : (Cond.instantiable "SpineTables$Lengths" 6) ∈ wU := mU (tin_1 _ (List.mem_of_getElem? (i := 144) rfl)) rfl
theorem wd_130 : (Cond.initialized "SpineTables$Lengths") ∈ wU := mU (tin_1 _ (List.mem_of_getElem? (i := 5) rfl)) rfl
theorem wd_131 : (.code yX4_init cX4_init 1 none) ∈ wU := mU (tin_1 _ (List.mem_of_getElem? (i := 147) rfl)) rfl
theorem wd_132 : (Cond.instanceMethod yX4_init) ∈ wU := mU (tin_1 _ (List.mem_of_getElem? (i := 146) rfl)) rfl
theorem wd_133 : (Cond.fieldLink "SpineTables" 57 "SpineTables" "lengths" "LSpineTables$Lengths;") ∈ wU := mU (tin_2 _ (List.mem_of_getElem? (i := 18) rfl)) rfl
theorem wd_134 : (Cond.classLink "SpineTables" 61 "SpineTables$Assembler") ∈ wU := mU (tin_1 _ (List.mem_of_getElem? (i := 172) rfl)) rfl
theorem wd_135 : (Cond.instantiable "SpineTables$Assembler" 3) ∈ wU := mU (tin_1 _ (List.mem_of_getElem? (i := 173) rfl)) rfl
theorem wd_136 : (Cond.initialized "SpineTables$Assembler") ∈ wU := mU (tin_1 _ (List.mem_of_getElem? (i := 6) rfl)) rfl
theorem wd_137 : (.code yX0_init cX0_init 1 none) ∈ wU := mU (tin_1 _ (List.mem_of_getElem? (i := 176) rfl)) rfl
theorem wd_138 : (Cond.instanceMethod yX0_init) ∈ wU := mU (tin_1 _ (List.mem_of_getElem? (i := 175) rfl)) rfl
theorem wd_139 : (Cond.fieldLink "SpineTables" 64 "SpineTables" "assembler" "LSpineTables$Assembler;") ∈ wU := mU (tin_2 _ (List.mem_of_getElem? (i := 19) rfl)) rfl
theorem wd_140 : (Cond.classLink "SpineTables" 68 "SpineTables$Extractor") ∈ wU := mU (tin_1 _ (List.mem_of_getElem? (i := 214) rfl)) rfl
theorem wd_141 : (Cond.instantiable "SpineTables$Extractor" 1) ∈ wU := mU (tin_1 _ (List.mem_of_getElem? (i := 215) rfl)) rfl
theorem wd_142 : (Cond.initialized "SpineTables$Extractor") ∈ wU := mU (tin_1 _ (List.mem_of_getElem? (i := 8) rfl)) rfl
theorem wd_143 : (.code yX2_init cX2_init 1 none) ∈ wU := mU (tin_1 _ (List.mem_of_getElem? (i := 218) rfl)) rfl
theorem wd_144 : (Cond.instanceMethod yX2_init) ∈ wU := mU (tin_1 _ (List.mem_of_getElem? (i := 217) rfl)) rfl
theorem wd_145 : (Cond.fieldLink "SpineTables" 71 "SpineTables" "extractor" "LSpineTables$Extractor;") ∈ wU := mU (tin_2 _ (List.mem_of_getElem? (i := 20) rfl)) rfl
theorem wd_146 : (Cond.classLink "SpineTables" 75 "SpineTables$BarCheck") ∈ wU := mU (tin_1 _ (List.mem_of_getElem? (i := 224) rfl)) rfl
theorem wd_147 : (Cond.instantiable "SpineTables$BarCheck" 5) ∈ wU := mU (tin_1 _ (List.mem_of_getElem? (i := 225) rfl)) rfl
theorem wd_148 : (Cond.initialized "SpineTables$BarCheck") ∈ wU := mU (tin_1 _ (List.mem_of_getElem? (i := 9) rfl)) rfl
theorem wd_149 : (.code yX1_init cX1_init 1 none) ∈ wU := mU (tin_1 _ (List.mem_of_getElem? (i := 228) rfl)) rfl
theorem wd_150 : (Cond.instanceMethod yX1_init) ∈ wU := mU (tin_1 _ (List.mem_of_getElem? (i := 227) rfl)) rfl
theorem wd_151 : (Cond.fieldLink "SpineTables" 78 "SpineTables" "barCheck" "LSpineTables$BarCheck;") ∈ wU := mU (tin_2 _ (List.mem_of_getElem? (i := 21) rfl)) rfl
theorem wd_152 : (Cond.methodLink "SpineTablesModel" 1 ⟨"java/lang/Object", "<init>", "()V"⟩) ∈ wU := mU (tin_6 _ (List.mem_of_getElem? (i := 122) rfl)) rfl
theorem wd_153 : (Cond.fieldLink "SpineTablesModel" 7 "SpineTablesModel" "tape" "[I") ∈ wU := mU (tin_6 _ (List.mem_of_getElem? (i := 124) rfl)) rfl
theorem wd_154 : (Cond.fieldLink "SpineTablesModel" 13 "SpineTablesModel" "out" "[I") ∈ wU := mU (tin_6 _ (List.mem_of_getElem? (i := 129) rfl)) rfl
theorem wd_155 : (Cond.fieldLink "SpineTablesModel" 16 "SpineTablesModel" "used" "[Z") ∈ wU := mU (tin_6 _ (List.mem_of_getElem? (i := 131) rfl)) rfl
theorem wd_156 : (Cond.fieldLink "SpineTablesModel" 20 "SpineTablesModel" "text" "[I") ∈ wU := mU (tin_6 _ (List.mem_of_getElem? (i := 132) rfl)) rfl
theorem wd_157 : (Cond.fieldLink "SpineTablesModel" 23 "SpineTablesModel" "sizes" "[I") ∈ wU := mU (tin_6 _ (List.mem_of_getElem? (i := 133) rfl)) rfl
theorem wd_158 : (Cond.fieldLink "SpineTablesModel" 26 "SpineTablesModel" "rows" "[I") ∈ wU := mU (tin_6 _ (List.mem_of_getElem? (i := 134) rfl)) rfl
theorem wd_159 : (Cond.fieldLink "SpineTablesModel" 29 "SpineTablesModel" "kinds" "[I") ∈ wU := mU (tin_6 _ (List.mem_of_getElem? (i := 135) rfl)) rfl
theorem wd_160 : (Cond.arrayClass .long) ∈ wU := mU (tin_7 _ (List.mem_of_getElem? (i := 22) rfl)) rfl
theorem wd_161 : (Cond.fieldLink "SpineTablesModel" 32 "SpineTablesModel" "names" "[J") ∈ wU := mU (tin_6 _ (List.mem_of_getElem? (i := 136) rfl)) rfl
theorem wd_162 : (Cond.fieldLink "SpineTablesModel" 36 "SpineTablesModel" "numbers" "[I") ∈ wU := mU (tin_6 _ (List.mem_of_getElem? (i := 137) rfl)) rfl
theorem wd_163 : (Cond.fieldLink "SpineTablesModel" 39 "SpineTablesModel" "kindOf" "[I") ∈ wU := mU (tin_6 _ (List.mem_of_getElem? (i := 138) rfl)) rfl
theorem wd_164 : (Cond.fieldLink "SpineTablesModel" 42 "SpineTablesModel" "makerKind" "[I") ∈ wU := mU (tin_6 _ (List.mem_of_getElem? (i := 139) rfl)) rfl
theorem wd_165 : (Cond.fieldLink "SpineTablesModel" 45 "SpineTablesModel" "sorts" "[I") ∈ wU := mU (tin_6 _ (List.mem_of_getElem? (i := 140) rfl)) rfl
theorem wd_166 : (Cond.fieldLink "SpineTablesModel" 48 "SpineTablesModel" "starts" "[I") ∈ wU := mU (tin_6 _ (List.mem_of_getElem? (i := 141) rfl)) rfl
theorem wd_167 : (Cond.fieldLink "SpineTablesModel" 51 "SpineTablesModel" "stops" "[I") ∈ wU := mU (tin_6 _ (List.mem_of_getElem? (i := 142) rfl)) rfl
theorem wd_168 : (Cond.fieldLink "SpineTablesModel" 54 "SpineTablesModel" "widths" "[I") ∈ wU := mU (tin_6 _ (List.mem_of_getElem? (i := 143) rfl)) rfl
theorem wd_169 : (Cond.fieldLink "SpineTablesModel" 57 "SpineTablesModel" "young" "[I") ∈ wU := mU (tin_6 _ (List.mem_of_getElem? (i := 144) rfl)) rfl
theorem wd_170 : (Cond.fieldLink "SpineTablesModel" 60 "SpineTablesModel" "ups" "[J") ∈ wU := mU (tin_6 _ (List.mem_of_getElem? (i := 145) rfl)) rfl
theorem wd_171 : (Cond.fieldLink "SpineTablesModel" 63 "SpineTablesModel" "downs" "[J") ∈ wU := mU (tin_6 _ (List.mem_of_getElem? (i := 146) rfl)) rfl
theorem wd_172 : (Cond.fieldLink "SpineTablesModel" 66 "SpineTablesModel" "tokenAt" "[I") ∈ wU := mU (tin_6 _ (List.mem_of_getElem? (i := 147) rfl)) rfl
theorem wd_173 : (Cond.fieldLink "SpineTablesModel" 69 "SpineTablesModel" "tokenEnd" "[I") ∈ wU := mU (tin_6 _ (List.mem_of_getElem? (i := 148) rfl)) rfl
theorem wd_174 : (Cond.fieldLink "SpineTablesModel" 72 "SpineTablesModel" "strand" "[I") ∈ wU := mU (tin_6 _ (List.mem_of_getElem? (i := 149) rfl)) rfl
theorem wd_175 : (Cond.fieldLink "SpineTablesModel" 75 "SpineTablesModel" "held" "[I") ∈ wU := mU (tin_6 _ (List.mem_of_getElem? (i := 150) rfl)) rfl
theorem wd_176 : (Cond.fieldLink "SpineTablesModel" 78 "SpineTablesModel" "misfits" "[I") ∈ wU := mU (tin_6 _ (List.mem_of_getElem? (i := 151) rfl)) rfl
theorem wd_177 : (Cond.fieldLink "SpineTablesModel" 81 "SpineTablesModel" "misfitRows" "[I") ∈ wU := mU (tin_6 _ (List.mem_of_getElem? (i := 152) rfl)) rfl
theorem wd_178 : (Cond.fieldLink "SpineTablesModel" 84 "SpineTablesModel" "nowStrand" "[I") ∈ wU := mU (tin_6 _ (List.mem_of_getElem? (i := 154) rfl)) rfl
theorem wd_179 : (Cond.fieldLink "SpineTablesModel" 87 "SpineTablesModel" "nowHeld" "[I") ∈ wU := mU (tin_6 _ (List.mem_of_getElem? (i := 155) rfl)) rfl
theorem wd_180 : (Cond.fieldLink "SpineTablesModel" 90 "SpineTablesModel" "nowUp" "[J") ∈ wU := mU (tin_6 _ (List.mem_of_getElem? (i := 156) rfl)) rfl
theorem wd_181 : (Cond.fieldLink "SpineTablesModel" 93 "SpineTablesModel" "nowDown" "[J") ∈ wU := mU (tin_6 _ (List.mem_of_getElem? (i := 157) rfl)) rfl
theorem wd_182 : (Cond.fieldLink "SpineTablesModel" 96 "SpineTablesModel" "thenStrand" "[I") ∈ wU := mU (tin_6 _ (List.mem_of_getElem? (i := 159) rfl)) rfl
theorem wd_183 : (Cond.fieldLink "SpineTablesModel" 99 "SpineTablesModel" "thenHeld" "[I") ∈ wU := mU (tin_6 _ (List.mem_of_getElem? (i := 160) rfl)) rfl
theorem wd_184 : (Cond.fieldLink "SpineTablesModel" 102 "SpineTablesModel" "thenUp" "[J") ∈ wU := mU (tin_6 _ (List.mem_of_getElem? (i := 161) rfl)) rfl
theorem wd_185 : (Cond.fieldLink "SpineTablesModel" 105 "SpineTablesModel" "thenDown" "[J") ∈ wU := mU (tin_6 _ (List.mem_of_getElem? (i := 162) rfl)) rfl
theorem wd_186 : (Cond.fieldLink "SpineTablesModel" 108 "SpineTablesModel" "made" "[I") ∈ wU := mU (tin_6 _ (List.mem_of_getElem? (i := 166) rfl)) rfl
theorem wd_187 : (.code yX11_feedNumber cX11_feedNumber 3 none) ∈ wU := mU (tin_2 _ (List.mem_of_getElem? (i := 58) rfl)) rfl
theorem wd_188 : (Cond.selects "SpineTables" yX11_feedNumber yX11_feedNumber) ∈ wU := mU (tin_0 _ (List.mem_of_getElem? (i := 0) rfl)) rfl
theorem wd_189 : (Cond.methodLink "SpineTables" 82 yX11_feedNumber) ∈ wU := mU (tin_2 _ (List.mem_of_getElem? (i := 55) rfl)) rfl
theorem wd_190 : (Cond.instanceMethod yX11_feedNumber) ∈ wU := mU (tin_2 _ (List.mem_of_getElem? (i := 57) rfl)) rfl
theorem wd_191 : (Cond.initialized "SpineTables") ∈ wU := mU (tin_1 _ (List.mem_of_getElem? (i := 1) rfl)) rfl
theorem wd_192 : (Cond.classLink "SpineTables" 177 "java/lang/IndexOutOfBoundsException") ∈ wU := mU (tin_4 _ (List.mem_of_getElem? (i := 144) rfl)) rfl
theorem wd_193 : (Cond.initialized "java/lang/IndexOutOfBoundsException") ∈ wU := mU (tin_1 _ (List.mem_of_getElem? (i := 19) rfl)) rfl
theorem wd_194 : (.code yX11_tableAt cX11_tableAt 3 (some (.object "SpineTables$Table"))) ∈ wU := mU (tin_4 _ (List.mem_of_getElem? (i := 143) rfl)) rfl
theorem wd_195 : (Cond.selects "SpineTables" yX11_tableAt yX11_tableAt) ∈ wU := mU (tin_0 _ (List.mem_of_getElem? (i := 51) rfl)) rfl
theorem wd_196 : (Cond.methodLink "SpineTables" 115 yX11_tableAt) ∈ wU := mU (tin_4 _ (List.mem_of_getElem? (i := 140) rfl)) rfl
theorem wd_197 : (Cond.instanceMethod yX11_tableAt) ∈ wU := mU (tin_4 _ (List.mem_of_getElem? (i := 142) rfl)) rfl
theorem wd_198 : (.code yX11_drop cX11_drop 3 (some .int)) ∈ wU := mU (tin_4 _ (List.mem_of_getElem? (i := 139) rfl)) rfl
theorem wd_199 : (Cond.selects "SpineTables" yX11_drop yX11_drop) ∈ wU := mU (tin_4 _ (List.mem_of_getElem? (i := 138) rfl)) rfl
theorem wd_200 : (Cond.methodLink "SpineTablesLaw" 7 yX11_drop) ∈ wU := mU (tin_4 _ (List.mem_of_getElem? (i := 136) rfl)) rfl
theorem wd_201 : (Cond.instanceMethod yX11_drop) ∈ wU := mU (tin_4 _ (List.mem_of_getElem? (i := 137) rfl)) rfl
theorem wd_202 : (Cond.classLink "SpineTablesLaw" 13 "java/lang/IndexOutOfBoundsException") ∈ wU := mU (tin_4 _ (List.mem_of_getElem? (i := 135) rfl)) rfl
theorem wd_203 : (.code yX11_told cX11_told 4 (some .int)) ∈ wU := mU (tin_4 _ (List.mem_of_getElem? (i := 218) rfl)) rfl
theorem wd_204 : (Cond.selects "SpineTables" yX11_told yX11_told) ∈ wU := mU (tin_4 _ (List.mem_of_getElem? (i := 217) rfl)) rfl
theorem wd_205 : (Cond.methodLink "SpineTablesLaw" 15 yX11_told) ∈ wU := mU (tin_4 _ (List.mem_of_getElem? (i := 215) rfl)) rfl
theorem wd_206 : (Cond.instanceMethod yX11_told) ∈ wU := mU (tin_4 _ (List.mem_of_getElem? (i := 216) rfl)) rfl
theorem wd_207 : (.code yX11_row cX11_row 5 (some .int)) ∈ wU := mU (tin_5 _ (List.mem_of_getElem? (i := 9) rfl)) rfl
theorem wd_208 : (Cond.selects "SpineTables" yX11_row yX11_row) ∈ wU := mU (tin_5 _ (List.mem_of_getElem? (i := 8) rfl)) rfl
theorem wd_209 : (Cond.methodLink "SpineTablesLaw" 21 yX11_row) ∈ wU := mU (tin_5 _ (List.mem_of_getElem? (i := 6) rfl)) rfl
theorem wd_210 : (Cond.instanceMethod yX11_row) ∈ wU := mU (tin_5 _ (List.mem_of_getElem? (i := 7) rfl)) rfl
theorem wd_211 : (.code yX11_strand cX11_strand 7 (some .int)) ∈ wU := mU (tin_5 _ (List.mem_of_getElem? (i := 26) rfl)) rfl
theorem wd_212 : (Cond.selects "SpineTables" yX11_strand yX11_strand) ∈ wU := mU (tin_5 _ (List.mem_of_getElem? (i := 25) rfl)) rfl
theorem wd_213 : (Cond.methodLink "SpineTablesLaw" 25 yX11_strand) ∈ wU := mU (tin_5 _ (List.mem_of_getElem? (i := 23) rfl)) rfl
theorem wd_214 : (Cond.instanceMethod yX11_strand) ∈ wU := mU (tin_5 _ (List.mem_of_getElem? (i := 24) rfl)) rfl
theorem wd_215 : (.code yX11_kind cX11_kind 5 (some .int)) ∈ wU := mU (tin_5 _ (List.mem_of_getElem? (i := 45) rfl)) rfl
theorem wd_216 : (Cond.selects "SpineTables" yX11_kind yX11_kind) ∈ wU := mU (tin_5 _ (List.mem_of_getElem? (i := 44) rfl)) rfl
theorem wd_217 : (Cond.methodLink "SpineTablesLaw" 29 yX11_kind) ∈ wU := mU (tin_5 _ (List.mem_of_getElem? (i := 42) rfl)) rfl
theorem wd_218 : (Cond.instanceMethod yX11_kind) ∈ wU := mU (tin_5 _ (List.mem_of_getElem? (i := 43) rfl)) rfl
theorem wd_219 : (.code yX11_token cX11_token 7 (some .int)) ∈ wU := mU (tin_5 _ (List.mem_of_getElem? (i := 61) rfl)) rfl
theorem wd_220 : (Cond.selects "SpineTables" yX11_token yX11_token) ∈ wU := mU (tin_5 _ (List.mem_of_getElem? (i := 60) rfl)) rfl
theorem wd_221 : (Cond.methodLink "SpineTablesLaw" 32 yX11_token) ∈ wU := mU (tin_5 _ (List.mem_of_getElem? (i := 58) rfl)) rfl
theorem wd_222 : (Cond.instanceMethod yX11_token) ∈ wU := mU (tin_5 _ (List.mem_of_getElem? (i := 59) rfl)) rfl
theorem wd_223 : (.code yX11_walk cX11_walk 2 (some .int)) ∈ wU := mU (tin_5 _ (List.mem_of_getElem? (i := 80) rfl)) rfl
theorem wd_224 : (Cond.selects "SpineTables" yX11_walk yX11_walk) ∈ wU := mU (tin_5 _ (List.mem_of_getElem? (i := 79) rfl)) rfl
theorem wd_225 : (Cond.methodLink "SpineTablesLaw" 35 yX11_walk) ∈ wU := mU (tin_5 _ (List.mem_of_getElem? (i := 77) rfl)) rfl
theorem wd_226 : (Cond.instanceMethod yX11_walk) ∈ wU := mU (tin_5 _ (List.mem_of_getElem? (i := 78) rfl)) rfl
theorem wd_227 : (.code yX11_misfit cX11_misfit 2 (some .int)) ∈ wU := mU (tin_5 _ (List.mem_of_getElem? (i := 87) rfl)) rfl
theorem wd_228 : (Cond.selects "SpineTables" yX11_misfit yX11_misfit) ∈ wU := mU (tin_5 _ (List.mem_of_getElem? (i := 86) rfl)) rfl
theorem wd_229 : (Cond.methodLink "SpineTablesLaw" 38 yX11_misfit) ∈ wU := mU (tin_5 _ (List.mem_of_getElem? (i := 84) rfl)) rfl
theorem wd_230 : (Cond.instanceMethod yX11_misfit) ∈ wU := mU (tin_5 _ (List.mem_of_getElem? (i := 85) rfl)) rfl
theorem wd_231 : (.code yX11_time cX11_time 5 (some .int)) ∈ wU := mU (tin_5 _ (List.mem_of_getElem? (i := 95) rfl)) rfl
theorem wd_232 : (Cond.selects "SpineTables" yX11_time yX11_time) ∈ wU := mU (tin_5 _ (List.mem_of_getElem? (i := 94) rfl)) rfl
theorem wd_233 : (Cond.methodLink "SpineTablesLaw" 41 yX11_time) ∈ wU := mU (tin_5 _ (List.mem_of_getElem? (i := 92) rfl)) rfl
theorem wd_234 : (Cond.instanceMethod yX11_time) ∈ wU := mU (tin_5 _ (List.mem_of_getElem? (i := 93) rfl)) rfl
theorem wd_235 : (.code yX11_length cX11_length 7 (some .int)) ∈ wU := mU (tin_5 _ (List.mem_of_getElem? (i := 129) rfl)) rfl
theorem wd_236 : (Cond.selects "SpineTables" yX11_length yX11_length) ∈ wU := mU (tin_5 _ (List.mem_of_getElem? (i := 128) rfl)) rfl
theorem wd_237 : (Cond.methodLink "SpineTablesLaw" 46 yX11_length) ∈ wU := mU (tin_5 _ (List.mem_of_getElem? (i := 126) rfl)) rfl
theorem wd_238 : (Cond.instanceMethod yX11_length) ∈ wU := mU (tin_5 _ (List.mem_of_getElem? (i := 127) rfl)) rfl
theorem wd_239 : (.code yX11_bars cX11_bars 3 (some .int)) ∈ wU := mU (tin_5 _ (List.mem_of_getElem? (i := 139) rfl)) rfl
theorem wd_240 : (Cond.selects "SpineTables" yX11_bars yX11_bars) ∈ wU := mU (tin_5 _ (List.mem_of_getElem? (i := 138) rfl)) rfl
theorem wd_241 : (Cond.methodLink "SpineTablesLaw" 49 yX11_bars) ∈ wU := mU (tin_5 _ (List.mem_of_getElem? (i := 136) rfl)) rfl
theorem wd_242 : (Cond.instanceMethod yX11_bars) ∈ wU := mU (tin_5 _ (List.mem_of_getElem? (i := 137) rfl)) rfl
theorem wd_243 : (.code yX11_extract cX11_extract 7 (some .int)) ∈ wU := mU (tin_5 _ (List.mem_of_getElem? (i := 172) rfl)) rfl
theorem wd_244 : (Cond.selects "SpineTables" yX11_extract yX11_extract) ∈ wU := mU (tin_5 _ (List.mem_of_getElem? (i := 171) rfl)) rfl
theorem wd_245 : (Cond.methodLink "SpineTablesLaw" 52 yX11_extract) ∈ wU := mU (tin_5 _ (List.mem_of_getElem? (i := 169) rfl)) rfl
theorem wd_246 : (Cond.instanceMethod yX11_extract) ∈ wU := mU (tin_5 _ (List.mem_of_getElem? (i := 170) rfl)) rfl
theorem wd_247 : (.code yX11_assemble cX11_assemble 7 (some .int)) ∈ wU := mU (tin_5 _ (List.mem_of_getElem? (i := 239) rfl)) rfl
theorem wd_248 : (Cond.selects "SpineTables" yX11_assemble yX11_assemble) ∈ wU := mU (tin_5 _ (List.mem_of_getElem? (i := 238) rfl)) rfl
theorem wd_249 : (Cond.methodLink "SpineTablesLaw" 55 yX11_assemble) ∈ wU := mU (tin_5 _ (List.mem_of_getElem? (i := 236) rfl)) rfl
theorem wd_250 : (Cond.instanceMethod yX11_assemble) ∈ wU := mU (tin_5 _ (List.mem_of_getElem? (i := 237) rfl)) rfl
theorem wd_251 : (.code yX11_same cX11_same 5 (some .boolean)) ∈ wU := mU (tin_6 _ (List.mem_of_getElem? (i := 100) rfl)) rfl
theorem wd_252 : (Cond.selects "SpineTables" yX11_same yX11_same) ∈ wU := mU (tin_6 _ (List.mem_of_getElem? (i := 99) rfl)) rfl
theorem wd_253 : (Cond.methodLink "SpineTablesLaw" 58 yX11_same) ∈ wU := mU (tin_6 _ (List.mem_of_getElem? (i := 97) rfl)) rfl
theorem wd_254 : (Cond.instanceMethod yX11_same) ∈ wU := mU (tin_6 _ (List.mem_of_getElem? (i := 98) rfl)) rfl
theorem wd_255 : (.code yX11_write cX11_write 3 (some .int)) ∈ wU := mU (tin_6 _ (List.mem_of_getElem? (i := 112) rfl)) rfl
theorem wd_256 : (Cond.selects "SpineTables" yX11_write yX11_write) ∈ wU := mU (tin_6 _ (List.mem_of_getElem? (i := 111) rfl)) rfl
theorem wd_257 : (Cond.methodLink "SpineTablesLaw" 62 yX11_write) ∈ wU := mU (tin_6 _ (List.mem_of_getElem? (i := 109) rfl)) rfl
theorem wd_258 : (Cond.instanceMethod yX11_write) ∈ wU := mU (tin_6 _ (List.mem_of_getElem? (i := 110) rfl)) rfl
theorem dL_assemble_0 : decode cL_assemble 0 = .ok (.aload_n 3, 1) := by decide +kernel
theorem dL_assemble_1 : decode cL_assemble 1 = .ok (.iconst 0, 1) := by decide +kernel
theorem dL_assemble_2 : decode cL_assemble 2 = .ok (.aload_n 0, 1) := by decide +kernel
theorem dL_assemble_3 : decode cL_assemble 3 = .ok (.iload_n 1, 1) := by decide +kernel
theorem dL_assemble_4 : decode cL_assemble 4 = .ok (.iload_n 2, 1) := by decide +kernel
theorem dL_assemble_5 : decode cL_assemble 5 = .ok (.invokevirtual 55, 3) := by decide +kernel
theorem dL_assemble_13 : decode cL_assemble 13 = .ok (.astore 4, 2) := by decide +kernel
theorem dL_assemble_15 : decode cL_assemble 15 = .ok (.iconst 1, 1) := by decide +kernel
theorem dL_assemble_16 : decode cL_assemble 16 = .ok (.ireturn, 1) := by decide +kernel
theorem dL_bars_0 : decode cL_bars 0 = .ok (.aload_n 2, 1) := by decide +kernel
theorem dL_bars_1 : decode cL_bars 1 = .ok (.iconst 0, 1) := by decide +kernel
theorem dL_bars_2 : decode cL_bars 2 = .ok (.aload_n 0, 1) := by decide +kernel
theorem dL_bars_3 : decode cL_bars 3 = .ok (.iload_n 1, 1) := by decide +kernel
theorem dL_bars_4 : decode cL_bars 4 = .ok (.invokevirtual 49, 3) := by decide +kernel
theorem dL_bars_12 : decode cL_bars 12 = .ok (.astore_n 3, 1) := by decide +kernel
theorem dL_bars_13 : decode cL_bars 13 = .ok (.iconst 1, 1) := by decide +kernel
theorem dL_bars_14 : decode cL_bars 14 = .ok (.ireturn, 1) := by decide +kernel
theorem dL_drop_0 : decode cL_drop 0 = .ok (.aload_n 2, 1) := by decide +kernel
theorem dL_drop_1 : decode cL_drop 1 = .ok (.iconst 0, 1) := by decide +kernel
theorem dL_drop_2 : decode cL_drop 2 = .ok (.aload_n 0, 1) := by decide +kernel
theorem dL_drop_3 : decode cL_drop 3 = .ok (.iload_n 1, 1) := by decide +kernel
theorem dL_drop_4 : decode cL_drop 4 = .ok (.invokevirtual 7, 3) := by decide +kernel
theorem dL_drop_12 : decode cL_drop 12 = .ok (.astore_n 3, 1) := by decide +kernel
theorem dL_drop_13 : decode cL_drop 13 = .ok (.iconst 1, 1) := by decide +kernel
theorem dL_drop_14 : decode cL_drop 14 = .ok (.ireturn, 1) := by decide +kernel
theorem dL_extract_0 : decode cL_extract 0 = .ok (.aload_n 2, 1) := by decide +kernel
theorem dL_extract_1 : decode cL_extract 1 = .ok (.iconst 0, 1) := by decide +kernel
theorem dL_extract_2 : decode cL_extract 2 = .ok (.aload_n 0, 1) := by decide +kernel
theorem dL_extract_3 : decode cL_extract 3 = .ok (.iload_n 1, 1) := by decide +kernel
theorem dL_extract_4 : decode cL_extract 4 = .ok (.invokevirtual 52, 3) := by decide +kernel
theorem dL_extract_12 : decode cL_extract 12 = .ok (.astore_n 3, 1) := by decide +kernel
theorem dL_extract_13 : decode cL_extract 13 = .ok (.iconst 1, 1) := by decide +kernel
theorem dL_extract_14 : decode cL_extract 14 = .ok (.ireturn, 1) := by decide +kernel
theorem dL_kind_0 : decode cL_kind 0 = .ok (.aload 4, 2) := by decide +kernel
theorem dL_kind_2 : decode cL_kind 2 = .ok (.iconst 0, 1) := by decide +kernel
theorem dL_kind_3 : decode cL_kind 3 = .ok (.aload_n 0, 1) := by decide +kernel
theorem dL_kind_4 : decode cL_kind 4 = .ok (.iload_n 1, 1) := by decide +kernel
theorem dL_kind_5 : decode cL_kind 5 = .ok (.iload_n 2, 1) := by decide +kernel
theorem dL_kind_6 : decode cL_kind 6 = .ok (.iload_n 3, 1) := by decide +kernel
theorem dL_kind_7 : decode cL_kind 7 = .ok (.invokevirtual 29, 3) := by decide +kernel
theorem dL_kind_15 : decode cL_kind 15 = .ok (.astore 5, 2) := by decide +kernel
theorem dL_kind_17 : decode cL_kind 17 = .ok (.iconst 1, 1) := by decide +kernel
theorem dL_kind_18 : decode cL_kind 18 = .ok (.ireturn, 1) := by decide +kernel
theorem dL_length_0 : decode cL_length 0 = .ok (.aload 5, 2) := by decide +kernel
theorem dL_length_2 : decode cL_length 2 = .ok (.iconst 0, 1) := by decide +kernel
theorem dL_length_3 : decode cL_length 3 = .ok (.aload_n 0, 1) := by decide +kernel
theorem dL_length_4 : decode cL_length 4 = .ok (.iload_n 1, 1) := by decide +kernel
theorem dL_length_5 : decode cL_length 5 = .ok (.iload_n 2, 1) := by decide +kernel
theorem dL_length_6 : decode cL_length 6 = .ok (.iload_n 3, 1) := by decide +kernel
theorem dL_length_7 : decode cL_length 7 = .ok (.iload 4, 2) := by decide +kernel
theorem dL_length_9 : decode cL_length 9 = .ok (.invokevirtual 46, 3) := by decide +kernel
theorem dL_length_17 : decode cL_length 17 = .ok (.astore 6, 2) := by decide +kernel
theorem dL_length_19 : decode cL_length 19 = .ok (.iconst 1, 1) := by decide +kernel
theorem dL_length_20 : decode cL_length 20 = .ok (.ireturn, 1) := by decide +kernel
theorem dL_misfit_0 : decode cL_misfit 0 = .ok (.aload_n 2, 1) := by decide +kernel
theorem dL_misfit_1 : decode cL_misfit 1 = .ok (.iconst 0, 1) := by decide +kernel
theorem dL_misfit_2 : decode cL_misfit 2 = .ok (.aload_n 0, 1) := by decide +kernel
theorem dL_misfit_3 : decode cL_misfit 3 = .ok (.iload_n 1, 1) := by decide +kernel
theorem dL_misfit_4 : decode cL_misfit 4 = .ok (.invokevirtual 38, 3) := by decide +kernel
theorem dL_misfit_12 : decode cL_misfit 12 = .ok (.astore_n 3, 1) := by decide +kernel
theorem dL_misfit_13 : decode cL_misfit 13 = .ok (.iconst 1, 1) := by decide +kernel
theorem dL_misfit_14 : decode cL_misfit 14 = .ok (.ireturn, 1) := by decide +kernel
theorem dL_row_0 : decode cL_row 0 = .ok (.aload 4, 2) := by decide +kernel
theorem dL_row_2 : decode cL_row 2 = .ok (.iconst 0, 1) := by decide +kernel
theorem dL_row_3 : decode cL_row 3 = .ok (.aload_n 0, 1) := by decide +kernel
theorem dL_row_4 : decode cL_row 4 = .ok (.iload_n 1, 1) := by decide +kernel
theorem dL_row_5 : decode cL_row 5 = .ok (.iload_n 2, 1) := by decide +kernel
theorem dL_row_6 : decode cL_row 6 = .ok (.iload_n 3, 1) := by decide +kernel
theorem dL_row_7 : decode cL_row 7 = .ok (.invokevirtual 21, 3) := by decide +kernel
theorem dL_row_15 : decode cL_row 15 = .ok (.astore 5, 2) := by decide +kernel
theorem dL_row_17 : decode cL_row 17 = .ok (.iconst 1, 1) := by decide +kernel
theorem dL_row_18 : decode cL_row 18 = .ok (.ireturn, 1) := by decide +kernel
theorem dL_same_0 : decode cL_same 0 = .ok (.aload_n 3, 1) := by decide +kernel
theorem dL_same_1 : decode cL_same 1 = .ok (.iconst 0, 1) := by decide +kernel
theorem dL_same_2 : decode cL_same 2 = .ok (.aload_n 0, 1) := by decide +kernel
theorem dL_same_3 : decode cL_same 3 = .ok (.iload_n 1, 1) := by decide +kernel
theorem dL_same_4 : decode cL_same 4 = .ok (.iload_n 2, 1) := by decide +kernel
theorem dL_same_5 : decode cL_same 5 = .ok (.invokevirtual 58, 3) := by decide +kernel
theorem dL_same_20 : decode cL_same 20 = .ok (.astore 4, 2) := by decide +kernel
theorem dL_same_22 : decode cL_same 22 = .ok (.iconst 1, 1) := by decide +kernel
theorem dL_same_23 : decode cL_same 23 = .ok (.ireturn, 1) := by decide +kernel
theorem dL_strand_0 : decode cL_strand 0 = .ok (.aload 5, 2) := by decide +kernel
theorem dL_strand_2 : decode cL_strand 2 = .ok (.iconst 0, 1) := by decide +kernel
theorem dL_strand_3 : decode cL_strand 3 = .ok (.aload_n 0, 1) := by decide +kernel
theorem dL_strand_4 : decode cL_strand 4 = .ok (.iload_n 1, 1) := by decide +kernel
theorem dL_strand_5 : decode cL_strand 5 = .ok (.iload_n 2, 1) := by decide +kernel
theorem dL_strand_6 : decode cL_strand 6 = .ok (.iload_n 3, 1) := by decide +kernel
theorem dL_strand_7 : decode cL_strand 7 = .ok (.iload 4, 2) := by decide +kernel
theorem dL_strand_9 : decode cL_strand 9 = .ok (.invokevirtual 25, 3) := by decide +kernel
theorem dL_strand_17 : decode cL_strand 17 = .ok (.astore 6, 2) := by decide +kernel
theorem dL_strand_19 : decode cL_strand 19 = .ok (.iconst 1, 1) := by decide +kernel
theorem dL_strand_20 : decode cL_strand 20 = .ok (.ireturn, 1) := by decide +kernel
theorem dL_time_0 : decode cL_time 0 = .ok (.aload 4, 2) := by decide +kernel
theorem dL_time_2 : decode cL_time 2 = .ok (.iconst 0, 1) := by decide +kernel
theorem dL_time_3 : decode cL_time 3 = .ok (.aload_n 0, 1) := by decide +kernel
theorem dL_time_4 : decode cL_time 4 = .ok (.iload_n 1, 1) := by decide +kernel
theorem dL_time_5 : decode cL_time 5 = .ok (.iload_n 2, 1) := by decide +kernel
theorem dL_time_6 : decode cL_time 6 = .ok (.iload_n 3, 1) := by decide +kernel
theorem dL_time_7 : decode cL_time 7 = .ok (.invokevirtual 41, 3) := by decide +kernel
theorem dL_time_15 : decode cL_time 15 = .ok (.astore 5, 2) := by decide +kernel
theorem dL_time_17 : decode cL_time 17 = .ok (.iconst 1, 1) := by decide +kernel
theorem dL_time_18 : decode cL_time 18 = .ok (.ireturn, 1) := by decide +kernel
theorem dL_token_0 : decode cL_token 0 = .ok (.aload 5, 2) := by decide +kernel
theorem dL_token_2 : decode cL_token 2 = .ok (.iconst 0, 1) := by decide +kernel
theorem dL_token_3 : decode cL_token 3 = .ok (.aload_n 0, 1) := by decide +kernel
theorem dL_token_4 : decode cL_token 4 = .ok (.iload_n 1, 1) := by decide +kernel
theorem dL_token_5 : decode cL_token 5 = .ok (.iload_n 2, 1) := by decide +kernel
theorem dL_token_6 : decode cL_token 6 = .ok (.iload_n 3, 1) := by decide +kernel
theorem dL_token_7 : decode cL_token 7 = .ok (.iload 4, 2) := by decide +kernel
theorem dL_token_9 : decode cL_token 9 = .ok (.invokevirtual 32, 3) := by decide +kernel
theorem dL_token_17 : decode cL_token 17 = .ok (.astore 6, 2) := by decide +kernel
theorem dL_token_19 : decode cL_token 19 = .ok (.iconst 1, 1) := by decide +kernel
theorem dL_token_20 : decode cL_token 20 = .ok (.ireturn, 1) := by decide +kernel
theorem dL_told_0 : decode cL_told 0 = .ok (.aload_n 3, 1) := by decide +kernel
theorem dL_told_1 : decode cL_told 1 = .ok (.iconst 0, 1) := by decide +kernel
theorem dL_told_2 : decode cL_told 2 = .ok (.aload_n 0, 1) := by decide +kernel
theorem dL_told_3 : decode cL_told 3 = .ok (.iload_n 1, 1) := by decide +kernel
theorem dL_told_4 : decode cL_told 4 = .ok (.iload_n 2, 1) := by decide +kernel
theorem dL_told_5 : decode cL_told 5 = .ok (.invokevirtual 15, 3) := by decide +kernel
theorem dL_told_13 : decode cL_told 13 = .ok (.astore 4, 2) := by decide +kernel
theorem dL_told_15 : decode cL_told 15 = .ok (.iconst 1, 1) := by decide +kernel
theorem dL_told_16 : decode cL_told 16 = .ok (.ireturn, 1) := by decide +kernel
theorem dL_walk_0 : decode cL_walk 0 = .ok (.aload_n 2, 1) := by decide +kernel
theorem dL_walk_1 : decode cL_walk 1 = .ok (.iconst 0, 1) := by decide +kernel
theorem dL_walk_2 : decode cL_walk 2 = .ok (.aload_n 0, 1) := by decide +kernel
theorem dL_walk_3 : decode cL_walk 3 = .ok (.iload_n 1, 1) := by decide +kernel
theorem dL_walk_4 : decode cL_walk 4 = .ok (.invokevirtual 35, 3) := by decide +kernel
theorem dL_walk_12 : decode cL_walk 12 = .ok (.astore_n 3, 1) := by decide +kernel
theorem dL_walk_13 : decode cL_walk 13 = .ok (.iconst 1, 1) := by decide +kernel
theorem dL_walk_14 : decode cL_walk 14 = .ok (.ireturn, 1) := by decide +kernel
theorem dL_write_0 : decode cL_write 0 = .ok (.aload_n 2, 1) := by decide +kernel
theorem dL_write_1 : decode cL_write 1 = .ok (.iconst 0, 1) := by decide +kernel
theorem dL_write_2 : decode cL_write 2 = .ok (.aload_n 0, 1) := by decide +kernel
theorem dL_write_3 : decode cL_write 3 = .ok (.iload_n 1, 1) := by decide +kernel
theorem dL_write_4 : decode cL_write 4 = .ok (.invokevirtual 62, 3) := by decide +kernel
theorem dL_write_12 : decode cL_write 12 = .ok (.astore_n 3, 1) := by decide +kernel
theorem dL_write_13 : decode cL_write 13 = .ok (.iconst 1, 1) := by decide +kernel
theorem dL_write_14 : decode cL_write 14 = .ok (.ireturn, 1) := by decide +kernel
theorem dX0_init_0 : decode cX0_init 0 = .ok (.aload_n 0, 1) := by decide +kernel
theorem dX0_init_1 : decode cX0_init 1 = .ok (.invokespecial 3, 3) := by decide +kernel
theorem dX0_init_4 : decode cX0_init 4 = .ok (.aload_n 0, 1) := by decide +kernel
theorem dX0_init_5 : decode cX0_init 5 = .ok (.new 9, 3) := by decide +kernel
theorem dX0_init_8 : decode cX0_init 8 = .ok (.dup, 1) := by decide +kernel
theorem dX0_init_9 : decode cX0_init 9 = .ok (.invokespecial 11, 3) := by decide +kernel
theorem dX0_init_12 : decode cX0_init 12 = .ok (.putfield 12, 3) := by decide +kernel
theorem dX0_init_15 : decode cX0_init 15 = .ok (.aload_n 0, 1) := by decide +kernel
theorem dX0_init_16 : decode cX0_init 16 = .ok (.new 9, 3) := by decide +kernel
theorem dX0_init_19 : decode cX0_init 19 = .ok (.dup, 1) := by decide +kernel
theorem dX0_init_20 : decode cX0_init 20 = .ok (.invokespecial 11, 3) := by decide +kernel
theorem dX0_init_23 : decode cX0_init 23 = .ok (.putfield 18, 3) := by decide +kernel
theorem dX0_init_26 : decode cX0_init 26 = .ok (.aload_n 0, 1) := by decide +kernel
theorem dX0_init_27 : decode cX0_init 27 = .ok (.aconst_null, 1) := by decide +kernel
theorem dX0_init_28 : decode cX0_init 28 = .ok (.putfield 21, 3) := by decide +kernel
theorem dX0_init_31 : decode cX0_init 31 = .ok (.return_, 1) := by decide +kernel
theorem dX11_assemble_0 : decode cX11_assemble 0 = .ok (.aload_n 0, 1) := by decide +kernel
theorem dX11_assemble_1 : decode cX11_assemble 1 = .ok (.iload_n 1, 1) := by decide +kernel
theorem dX11_assemble_2 : decode cX11_assemble 2 = .ok (.invokevirtual 115, 3) := by decide +kernel
theorem dX11_bars_0 : decode cX11_bars 0 = .ok (.aload_n 0, 1) := by decide +kernel
theorem dX11_bars_1 : decode cX11_bars 1 = .ok (.iload_n 1, 1) := by decide +kernel
theorem dX11_bars_2 : decode cX11_bars 2 = .ok (.invokevirtual 115, 3) := by decide +kernel
theorem dX11_cut_0 : decode cX11_cut 0 = .ok (.iload_n 1, 1) := by decide +kernel
theorem dX11_cut_1 : decode cX11_cut 1 = .ok (.ifCond .lt 11, 3) := by decide +kernel
theorem dX11_cut_4 : decode cX11_cut 4 = .ok (.iload_n 1, 1) := by decide +kernel
theorem dX11_cut_5 : decode cX11_cut 5 = .ok (.aload_n 0, 1) := by decide +kernel
theorem dX11_cut_6 : decode cX11_cut 6 = .ok (.getfield 13, 3) := by decide +kernel
theorem dX11_cut_9 : decode cX11_cut 9 = .ok (.if_icmp .le 5, 3) := by decide +kernel
theorem dX11_cut_12 : decode cX11_cut 12 = .ok (.iconst (-1), 1) := by decide +kernel
theorem dX11_cut_13 : decode cX11_cut 13 = .ok (.ireturn, 1) := by decide +kernel
theorem dX11_cut_14 : decode cX11_cut 14 = .ok (.aload_n 0, 1) := by decide +kernel
theorem dX11_cut_15 : decode cX11_cut 15 = .ok (.getfield 13, 3) := by decide +kernel
theorem dX11_cut_18 : decode cX11_cut 18 = .ok (.iload_n 1, 1) := by decide +kernel
theorem dX11_cut_19 : decode cX11_cut 19 = .ok (.isub, 1) := by decide +kernel
theorem dX11_cut_20 : decode cX11_cut 20 = .ok (.istore_n 2, 1) := by decide +kernel
theorem dX11_cut_21 : decode cX11_cut 21 = .ok (.aload_n 0, 1) := by decide +kernel
theorem dX11_cut_22 : decode cX11_cut 22 = .ok (.iload_n 1, 1) := by decide +kernel
theorem dX11_cut_23 : decode cX11_cut 23 = .ok (.putfield 13, 3) := by decide +kernel
theorem dX11_cut_26 : decode cX11_cut 26 = .ok (.iload_n 2, 1) := by decide +kernel
theorem dX11_cut_27 : decode cX11_cut 27 = .ok (.ireturn, 1) := by decide +kernel
theorem dX11_drop_0 : decode cX11_drop 0 = .ok (.aload_n 0, 1) := by decide +kernel
theorem dX11_drop_1 : decode cX11_drop 1 = .ok (.iload_n 1, 1) := by decide +kernel
theorem dX11_drop_2 : decode cX11_drop 2 = .ok (.invokevirtual 115, 3) := by decide +kernel
theorem dX11_extract_0 : decode cX11_extract 0 = .ok (.aload_n 0, 1) := by decide +kernel
theorem dX11_extract_1 : decode cX11_extract 1 = .ok (.iload_n 1, 1) := by decide +kernel
theorem dX11_extract_2 : decode cX11_extract 2 = .ok (.invokevirtual 115, 3) := by decide +kernel
theorem dX11_fault_0 : decode cX11_fault 0 = .ok (.aload_n 0, 1) := by decide +kernel
theorem dX11_fault_1 : decode cX11_fault 1 = .ok (.getfield 23, 3) := by decide +kernel
theorem dX11_fault_4 : decode cX11_fault 4 = .ok (.ireturn, 1) := by decide +kernel
theorem dX11_feed_0 : decode cX11_feed 0 = .ok (.aload_n 0, 1) := by decide +kernel
theorem dX11_feed_1 : decode cX11_feed 1 = .ok (.getfield 13, 3) := by decide +kernel
theorem dX11_feed_4 : decode cX11_feed 4 = .ok (.bipush 20, 2) := by decide +kernel
theorem dX11_feed_6 : decode cX11_feed 6 = .ok (.iadd, 1) := by decide +kernel
theorem dX11_feed_7 : decode cX11_feed 7 = .ok (.sipush 3000, 3) := by decide +kernel
theorem dX11_feed_10 : decode cX11_feed 10 = .ok (.if_icmp .le 5, 3) := by decide +kernel
theorem dX11_feed_15 : decode cX11_feed 15 = .ok (.aload_n 0, 1) := by decide +kernel
theorem dX11_feed_16 : decode cX11_feed 16 = .ok (.iload_n 1, 1) := by decide +kernel
theorem dX11_feed_17 : decode cX11_feed 17 = .ok (.invokevirtual 82, 3) := by decide +kernel
theorem dX11_feed_20 : decode cX11_feed 20 = .ok (.aload_n 0, 1) := by decide +kernel
theorem dX11_feed_21 : decode cX11_feed 21 = .ok (.iload_n 2, 1) := by decide +kernel
theorem dX11_feed_22 : decode cX11_feed 22 = .ok (.invokevirtual 82, 3) := by decide +kernel
theorem dX11_feed_25 : decode cX11_feed 25 = .ok (.aload_n 0, 1) := by decide +kernel
theorem dX11_feed_26 : decode cX11_feed 26 = .ok (.iload_n 3, 1) := by decide +kernel
theorem dX11_feed_27 : decode cX11_feed 27 = .ok (.invokevirtual 82, 3) := by decide +kernel
theorem dX11_feed_30 : decode cX11_feed 30 = .ok (.aload_n 0, 1) := by decide +kernel
theorem dX11_feed_31 : decode cX11_feed 31 = .ok (.iload 4, 2) := by decide +kernel
theorem dX11_feed_33 : decode cX11_feed 33 = .ok (.invokevirtual 82, 3) := by decide +kernel
theorem dX11_feed_36 : decode cX11_feed 36 = .ok (.aload_n 0, 1) := by decide +kernel
theorem dX11_feed_37 : decode cX11_feed 37 = .ok (.iload 5, 2) := by decide +kernel
theorem dX11_feed_39 : decode cX11_feed 39 = .ok (.invokevirtual 82, 3) := by decide +kernel
theorem dX11_feed_42 : decode cX11_feed 42 = .ok (.aload_n 0, 1) := by decide +kernel
theorem dX11_feed_43 : decode cX11_feed 43 = .ok (.getfield 13, 3) := by decide +kernel
theorem dX11_feed_46 : decode cX11_feed 46 = .ok (.ireturn, 1) := by decide +kernel
theorem dX11_feedNumber_0 : decode cX11_feedNumber 0 = .ok (.bipush 24, 2) := by decide +kernel
theorem dX11_feedNumber_2 : decode cX11_feedNumber 2 = .ok (.istore_n 2, 1) := by decide +kernel
theorem dX11_feedNumber_3 : decode cX11_feedNumber 3 = .ok (.iload_n 2, 1) := by decide +kernel
theorem dX11_feedNumber_4 : decode cX11_feedNumber 4 = .ok (.ifCond .lt 42, 3) := by decide +kernel
theorem dX11_feedNumber_7 : decode cX11_feedNumber 7 = .ok (.aload_n 0, 1) := by decide +kernel
theorem dX11_feedNumber_8 : decode cX11_feedNumber 8 = .ok (.getfield 13, 3) := by decide +kernel
theorem dX11_feedNumber_11 : decode cX11_feedNumber 11 = .ok (.sipush 3000, 3) := by decide +kernel
theorem dX11_feedNumber_14 : decode cX11_feedNumber 14 = .ok (.if_icmp .ge 32, 3) := by decide +kernel
theorem dX11_feedNumber_17 : decode cX11_feedNumber 17 = .ok (.aload_n 0, 1) := by decide +kernel
theorem dX11_feedNumber_18 : decode cX11_feedNumber 18 = .ok (.getfield 9, 3) := by decide +kernel
theorem dX11_feedNumber_21 : decode cX11_feedNumber 21 = .ok (.aload_n 0, 1) := by decide +kernel
theorem dX11_feedNumber_22 : decode cX11_feedNumber 22 = .ok (.getfield 13, 3) := by decide +kernel
theorem dX11_feedNumber_25 : decode cX11_feedNumber 25 = .ok (.iload_n 1, 1) := by decide +kernel
theorem dX11_feedNumber_26 : decode cX11_feedNumber 26 = .ok (.iload_n 2, 1) := by decide +kernel
theorem dX11_feedNumber_27 : decode cX11_feedNumber 27 = .ok (.ishr, 1) := by decide +kernel
theorem dX11_feedNumber_28 : decode cX11_feedNumber 28 = .ok (.i2b, 1) := by decide +kernel
theorem dX11_feedNumber_29 : decode cX11_feedNumber 29 = .ok (.bastore, 1) := by decide +kernel
theorem dX11_feedNumber_30 : decode cX11_feedNumber 30 = .ok (.aload_n 0, 1) := by decide +kernel
theorem dX11_feedNumber_31 : decode cX11_feedNumber 31 = .ok (.dup, 1) := by decide +kernel
theorem dX11_feedNumber_32 : decode cX11_feedNumber 32 = .ok (.getfield 13, 3) := by decide +kernel
theorem dX11_feedNumber_35 : decode cX11_feedNumber 35 = .ok (.iconst 1, 1) := by decide +kernel
theorem dX11_feedNumber_36 : decode cX11_feedNumber 36 = .ok (.iadd, 1) := by decide +kernel
theorem dX11_feedNumber_37 : decode cX11_feedNumber 37 = .ok (.putfield 13, 3) := by decide +kernel
theorem dX11_feedNumber_40 : decode cX11_feedNumber 40 = .ok (.iinc 2 (-8), 3) := by decide +kernel
theorem dX11_feedNumber_43 : decode cX11_feedNumber 43 = .ok (.goto (-40), 3) := by decide +kernel
theorem dX11_feedNumber_46 : decode cX11_feedNumber 46 = .ok (.return_, 1) := by decide +kernel
theorem dX11_freePlace_0 : decode cX11_freePlace 0 = .ok (.iconst 0, 1) := by decide +kernel
theorem dX11_freePlace_1 : decode cX11_freePlace 1 = .ok (.istore_n 1, 1) := by decide +kernel
theorem dX11_freePlace_2 : decode cX11_freePlace 2 = .ok (.iload_n 1, 1) := by decide +kernel
theorem dX11_freePlace_3 : decode cX11_freePlace 3 = .ok (.bipush 8, 2) := by decide +kernel
theorem dX11_freePlace_5 : decode cX11_freePlace 5 = .ok (.if_icmp .ge 20, 3) := by decide +kernel
theorem dX11_freePlace_8 : decode cX11_freePlace 8 = .ok (.aload_n 0, 1) := by decide +kernel
theorem dX11_freePlace_9 : decode cX11_freePlace 9 = .ok (.getfield 32, 3) := by decide +kernel
theorem dX11_freePlace_12 : decode cX11_freePlace 12 = .ok (.iload_n 1, 1) := by decide +kernel
theorem dX11_freePlace_13 : decode cX11_freePlace 13 = .ok (.baload, 1) := by decide +kernel
theorem dX11_freePlace_14 : decode cX11_freePlace 14 = .ok (.ifCond .ne 5, 3) := by decide +kernel
theorem dX11_freePlace_17 : decode cX11_freePlace 17 = .ok (.iload_n 1, 1) := by decide +kernel
theorem dX11_freePlace_18 : decode cX11_freePlace 18 = .ok (.ireturn, 1) := by decide +kernel
theorem dX11_init_0 : decode cX11_init 0 = .ok (.aload_n 0, 1) := by decide +kernel
theorem dX11_init_1 : decode cX11_init 1 = .ok (.invokespecial 1, 3) := by decide +kernel
theorem dX11_init_4 : decode cX11_init 4 = .ok (.aload_n 0, 1) := by decide +kernel
theorem dX11_init_5 : decode cX11_init 5 = .ok (.sipush 3000, 3) := by decide +kernel
theorem dX11_init_8 : decode cX11_init 8 = .ok (.newarray .byte, 2) := by decide +kernel
theorem dX11_init_10 : decode cX11_init 10 = .ok (.putfield 9, 3) := by decide +kernel
theorem dX11_init_13 : decode cX11_init 13 = .ok (.aload_n 0, 1) := by decide +kernel
theorem dX11_init_14 : decode cX11_init 14 = .ok (.iconst 0, 1) := by decide +kernel
theorem dX11_init_15 : decode cX11_init 15 = .ok (.putfield 13, 3) := by decide +kernel
theorem dX11_init_18 : decode cX11_init 18 = .ok (.aload_n 0, 1) := by decide +kernel
theorem dX11_init_19 : decode cX11_init 19 = .ok (.sipush 3001, 3) := by decide +kernel
theorem dX11_init_22 : decode cX11_init 22 = .ok (.newarray .byte, 2) := by decide +kernel
theorem dX11_init_24 : decode cX11_init 24 = .ok (.putfield 17, 3) := by decide +kernel
theorem dX11_init_27 : decode cX11_init 27 = .ok (.aload_n 0, 1) := by decide +kernel
theorem dX11_init_28 : decode cX11_init 28 = .ok (.iconst 0, 1) := by decide +kernel
theorem dX11_init_29 : decode cX11_init 29 = .ok (.putfield 20, 3) := by decide +kernel
theorem dX11_init_32 : decode cX11_init 32 = .ok (.aload_n 0, 1) := by decide +kernel
theorem dX11_init_33 : decode cX11_init 33 = .ok (.iconst 0, 1) := by decide +kernel
theorem dX11_init_34 : decode cX11_init 34 = .ok (.putfield 23, 3) := by decide +kernel
theorem dX11_init_37 : decode cX11_init 37 = .ok (.aload_n 0, 1) := by decide +kernel
theorem dX11_init_38 : decode cX11_init 38 = .ok (.bipush 8, 2) := by decide +kernel
theorem dX11_init_40 : decode cX11_init 40 = .ok (.anewarray 26, 3) := by decide +kernel
theorem dX11_init_43 : decode cX11_init 43 = .ok (.putfield 28, 3) := by decide +kernel
theorem dX11_init_46 : decode cX11_init 46 = .ok (.aload_n 0, 1) := by decide +kernel
theorem dX11_init_47 : decode cX11_init 47 = .ok (.bipush 8, 2) := by decide +kernel
theorem dX11_init_49 : decode cX11_init 49 = .ok (.newarray .boolean, 2) := by decide +kernel
theorem dX11_init_51 : decode cX11_init 51 = .ok (.putfield 32, 3) := by decide +kernel
theorem dX11_init_54 : decode cX11_init 54 = .ok (.aload_n 0, 1) := by decide +kernel
theorem dX11_init_55 : decode cX11_init 55 = .ok (.aconst_null, 1) := by decide +kernel
theorem dX11_init_56 : decode cX11_init 56 = .ok (.putfield 36, 3) := by decide +kernel
theorem dX11_init_59 : decode cX11_init 59 = .ok (.aload_n 0, 1) := by decide +kernel
theorem dX11_init_60 : decode cX11_init 60 = .ok (.new 40, 3) := by decide +kernel
theorem dX11_init_63 : decode cX11_init 63 = .ok (.dup, 1) := by decide +kernel
theorem dX11_init_64 : decode cX11_init 64 = .ok (.invokespecial 42, 3) := by decide +kernel
theorem dX11_init_67 : decode cX11_init 67 = .ok (.putfield 43, 3) := by decide +kernel
theorem dX11_init_70 : decode cX11_init 70 = .ok (.aload_n 0, 1) := by decide +kernel
theorem dX11_init_71 : decode cX11_init 71 = .ok (.new 47, 3) := by decide +kernel
theorem dX11_init_74 : decode cX11_init 74 = .ok (.dup, 1) := by decide +kernel
theorem dX11_init_75 : decode cX11_init 75 = .ok (.invokespecial 49, 3) := by decide +kernel
theorem dX11_init_78 : decode cX11_init 78 = .ok (.putfield 50, 3) := by decide +kernel
theorem dX11_init_81 : decode cX11_init 81 = .ok (.aload_n 0, 1) := by decide +kernel
theorem dX11_init_82 : decode cX11_init 82 = .ok (.new 54, 3) := by decide +kernel
theorem dX11_init_85 : decode cX11_init 85 = .ok (.dup, 1) := by decide +kernel
theorem dX11_init_86 : decode cX11_init 86 = .ok (.invokespecial 56, 3) := by decide +kernel
theorem dX11_init_89 : decode cX11_init 89 = .ok (.putfield 57, 3) := by decide +kernel
theorem dX11_init_92 : decode cX11_init 92 = .ok (.aload_n 0, 1) := by decide +kernel
theorem dX11_init_93 : decode cX11_init 93 = .ok (.new 61, 3) := by decide +kernel
theorem dX11_init_96 : decode cX11_init 96 = .ok (.dup, 1) := by decide +kernel
theorem dX11_init_97 : decode cX11_init 97 = .ok (.invokespecial 63, 3) := by decide +kernel
theorem dX11_init_100 : decode cX11_init 100 = .ok (.putfield 64, 3) := by decide +kernel
theorem dX11_init_103 : decode cX11_init 103 = .ok (.aload_n 0, 1) := by decide +kernel
theorem dX11_init_104 : decode cX11_init 104 = .ok (.new 68, 3) := by decide +kernel
theorem dX11_init_107 : decode cX11_init 107 = .ok (.dup, 1) := by decide +kernel
theorem dX11_init_108 : decode cX11_init 108 = .ok (.invokespecial 70, 3) := by decide +kernel
theorem dX11_init_111 : decode cX11_init 111 = .ok (.putfield 71, 3) := by decide +kernel
theorem dX11_init_114 : decode cX11_init 114 = .ok (.aload_n 0, 1) := by decide +kernel
theorem dX11_init_115 : decode cX11_init 115 = .ok (.new 75, 3) := by decide +kernel
theorem dX11_init_118 : decode cX11_init 118 = .ok (.dup, 1) := by decide +kernel
theorem dX11_init_119 : decode cX11_init 119 = .ok (.invokespecial 77, 3) := by decide +kernel
theorem dX11_init_122 : decode cX11_init 122 = .ok (.putfield 78, 3) := by decide +kernel
theorem dX11_init_125 : decode cX11_init 125 = .ok (.return_, 1) := by decide +kernel
theorem dX11_kind_0 : decode cX11_kind 0 = .ok (.aload_n 0, 1) := by decide +kernel
theorem dX11_kind_1 : decode cX11_kind 1 = .ok (.iload_n 1, 1) := by decide +kernel
theorem dX11_kind_2 : decode cX11_kind 2 = .ok (.invokevirtual 115, 3) := by decide +kernel
theorem dX11_length_0 : decode cX11_length 0 = .ok (.aload_n 0, 1) := by decide +kernel
theorem dX11_length_1 : decode cX11_length 1 = .ok (.iload_n 1, 1) := by decide +kernel
theorem dX11_length_2 : decode cX11_length 2 = .ok (.invokevirtual 115, 3) := by decide +kernel
theorem dX11_misfit_0 : decode cX11_misfit 0 = .ok (.aload_n 0, 1) := by decide +kernel
theorem dX11_misfit_1 : decode cX11_misfit 1 = .ok (.iload_n 1, 1) := by decide +kernel
theorem dX11_misfit_2 : decode cX11_misfit 2 = .ok (.invokevirtual 115, 3) := by decide +kernel
theorem dX11_out_0 : decode cX11_out 0 = .ok (.iload_n 1, 1) := by decide +kernel
theorem dX11_out_1 : decode cX11_out 1 = .ok (.ifCond .lt 18, 3) := by decide +kernel
theorem dX11_out_4 : decode cX11_out 4 = .ok (.iload_n 1, 1) := by decide +kernel
theorem dX11_out_5 : decode cX11_out 5 = .ok (.aload_n 0, 1) := by decide +kernel
theorem dX11_out_6 : decode cX11_out 6 = .ok (.getfield 20, 3) := by decide +kernel
theorem dX11_out_9 : decode cX11_out 9 = .ok (.if_icmp .ge 10, 3) := by decide +kernel
theorem dX11_out_19 : decode cX11_out 19 = .ok (.iconst (-1), 1) := by decide +kernel
theorem dX11_out_20 : decode cX11_out 20 = .ok (.goto 9, 3) := by decide +kernel
theorem dX11_out_29 : decode cX11_out 29 = .ok (.ireturn, 1) := by decide +kernel
theorem dX11_row_0 : decode cX11_row 0 = .ok (.aload_n 0, 1) := by decide +kernel
theorem dX11_row_1 : decode cX11_row 1 = .ok (.iload_n 1, 1) := by decide +kernel
theorem dX11_row_2 : decode cX11_row 2 = .ok (.invokevirtual 115, 3) := by decide +kernel
theorem dX11_same_0 : decode cX11_same 0 = .ok (.aload_n 0, 1) := by decide +kernel
theorem dX11_same_1 : decode cX11_same 1 = .ok (.iload_n 1, 1) := by decide +kernel
theorem dX11_same_2 : decode cX11_same 2 = .ok (.invokevirtual 115, 3) := by decide +kernel
theorem dX11_strand_0 : decode cX11_strand 0 = .ok (.aload_n 0, 1) := by decide +kernel
theorem dX11_strand_1 : decode cX11_strand 1 = .ok (.iload_n 1, 1) := by decide +kernel
theorem dX11_strand_2 : decode cX11_strand 2 = .ok (.invokevirtual 115, 3) := by decide +kernel
theorem dX11_tableAt_0 : decode cX11_tableAt 0 = .ok (.iload_n 1, 1) := by decide +kernel
theorem dX11_tableAt_1 : decode cX11_tableAt 1 = .ok (.ifCond .lt 18, 3) := by decide +kernel
theorem dX11_tableAt_4 : decode cX11_tableAt 4 = .ok (.iload_n 1, 1) := by decide +kernel
theorem dX11_tableAt_5 : decode cX11_tableAt 5 = .ok (.bipush 8, 2) := by decide +kernel
theorem dX11_tableAt_7 : decode cX11_tableAt 7 = .ok (.if_icmp .ge 12, 3) := by decide +kernel
theorem dX11_tableAt_10 : decode cX11_tableAt 10 = .ok (.aload_n 0, 1) := by decide +kernel
theorem dX11_tableAt_11 : decode cX11_tableAt 11 = .ok (.getfield 32, 3) := by decide +kernel
theorem dX11_tableAt_14 : decode cX11_tableAt 14 = .ok (.iload_n 1, 1) := by decide +kernel
theorem dX11_tableAt_15 : decode cX11_tableAt 15 = .ok (.baload, 1) := by decide +kernel
theorem dX11_tableAt_16 : decode cX11_tableAt 16 = .ok (.ifCond .ne 7, 3) := by decide +kernel
theorem dX11_tableAt_19 : decode cX11_tableAt 19 = .ok (.aconst_null, 1) := by decide +kernel
theorem dX11_tableAt_20 : decode cX11_tableAt 20 = .ok (.goto 9, 3) := by decide +kernel
theorem dX11_tableAt_29 : decode cX11_tableAt 29 = .ok (.astore_n 2, 1) := by decide +kernel
theorem dX11_tableAt_30 : decode cX11_tableAt 30 = .ok (.aload_n 2, 1) := by decide +kernel
theorem dX11_tableAt_31 : decode cX11_tableAt 31 = .ok (.ifnonnull 14, 3) := by decide +kernel
theorem dX11_tableAt_34 : decode cX11_tableAt 34 = .ok (.new 177, 3) := by decide +kernel
theorem dX11_tableAt_37 : decode cX11_tableAt 37 = .ok (.dup, 1) := by decide +kernel
theorem dX11_tableAt_38 : decode cX11_tableAt 38 = .ok (.ldc_w 274, 3) := by decide +kernel
theorem dX11_tableAt_41 : decode cX11_tableAt 41 = .ok (.invokespecial 181, 3) := by decide +kernel
theorem dX11_tableAt_44 : decode cX11_tableAt 44 = .ok (.athrow, 1) := by decide +kernel
theorem dX11_time_0 : decode cX11_time 0 = .ok (.aload_n 0, 1) := by decide +kernel
theorem dX11_time_1 : decode cX11_time 1 = .ok (.iload_n 1, 1) := by decide +kernel
theorem dX11_time_2 : decode cX11_time 2 = .ok (.invokevirtual 115, 3) := by decide +kernel
theorem dX11_token_0 : decode cX11_token 0 = .ok (.aload_n 0, 1) := by decide +kernel
theorem dX11_token_1 : decode cX11_token 1 = .ok (.iload_n 1, 1) := by decide +kernel
theorem dX11_token_2 : decode cX11_token 2 = .ok (.invokevirtual 115, 3) := by decide +kernel
theorem dX11_told_0 : decode cX11_told 0 = .ok (.aload_n 0, 1) := by decide +kernel
theorem dX11_told_1 : decode cX11_told 1 = .ok (.iload_n 1, 1) := by decide +kernel
theorem dX11_told_2 : decode cX11_told 2 = .ok (.invokevirtual 115, 3) := by decide +kernel
theorem dX11_walk_0 : decode cX11_walk 0 = .ok (.aload_n 0, 1) := by decide +kernel
theorem dX11_walk_1 : decode cX11_walk 1 = .ok (.iload_n 1, 1) := by decide +kernel
theorem dX11_walk_2 : decode cX11_walk 2 = .ok (.invokevirtual 115, 3) := by decide +kernel
theorem dX11_write_0 : decode cX11_write 0 = .ok (.aload_n 0, 1) := by decide +kernel
theorem dX11_write_1 : decode cX11_write 1 = .ok (.iload_n 1, 1) := by decide +kernel
theorem dX11_write_2 : decode cX11_write 2 = .ok (.invokevirtual 115, 3) := by decide +kernel
theorem dX12_init_0 : decode cX12_init 0 = .ok (.aload_n 0, 1) := by decide +kernel
theorem dX12_init_1 : decode cX12_init 1 = .ok (.invokespecial 1, 3) := by decide +kernel
theorem dX12_init_4 : decode cX12_init 4 = .ok (.aload_n 0, 1) := by decide +kernel
theorem dX12_init_5 : decode cX12_init 5 = .ok (.sipush 3000, 3) := by decide +kernel
theorem dX12_init_8 : decode cX12_init 8 = .ok (.newarray .int, 2) := by decide +kernel
theorem dX12_init_10 : decode cX12_init 10 = .ok (.putfield 7, 3) := by decide +kernel
theorem dX12_init_13 : decode cX12_init 13 = .ok (.aload_n 0, 1) := by decide +kernel
theorem dX12_init_14 : decode cX12_init 14 = .ok (.sipush 3002, 3) := by decide +kernel
theorem dX12_init_17 : decode cX12_init 17 = .ok (.newarray .int, 2) := by decide +kernel
theorem dX12_init_19 : decode cX12_init 19 = .ok (.putfield 13, 3) := by decide +kernel
theorem dX12_init_22 : decode cX12_init 22 = .ok (.aload_n 0, 1) := by decide +kernel
theorem dX12_init_23 : decode cX12_init 23 = .ok (.bipush 8, 2) := by decide +kernel
theorem dX12_init_25 : decode cX12_init 25 = .ok (.newarray .boolean, 2) := by decide +kernel
theorem dX12_init_27 : decode cX12_init 27 = .ok (.putfield 16, 3) := by decide +kernel
theorem dX12_init_30 : decode cX12_init 30 = .ok (.aload_n 0, 1) := by decide +kernel
theorem dX12_init_31 : decode cX12_init 31 = .ok (.sipush 24016, 3) := by decide +kernel
theorem dX12_init_34 : decode cX12_init 34 = .ok (.newarray .int, 2) := by decide +kernel
theorem dX12_init_36 : decode cX12_init 36 = .ok (.putfield 20, 3) := by decide +kernel
theorem dX12_init_39 : decode cX12_init 39 = .ok (.aload_n 0, 1) := by decide +kernel
theorem dX12_init_40 : decode cX12_init 40 = .ok (.bipush 8, 2) := by decide +kernel
theorem dX12_init_42 : decode cX12_init 42 = .ok (.newarray .int, 2) := by decide +kernel
theorem dX12_init_44 : decode cX12_init 44 = .ok (.putfield 23, 3) := by decide +kernel
theorem dX12_init_47 : decode cX12_init 47 = .ok (.aload_n 0, 1) := by decide +kernel
theorem dX12_init_48 : decode cX12_init 48 = .ok (.bipush 8, 2) := by decide +kernel
theorem dX12_init_50 : decode cX12_init 50 = .ok (.newarray .int, 2) := by decide +kernel
theorem dX12_init_52 : decode cX12_init 52 = .ok (.putfield 26, 3) := by decide +kernel
theorem dX12_init_55 : decode cX12_init 55 = .ok (.aload_n 0, 1) := by decide +kernel
theorem dX12_init_56 : decode cX12_init 56 = .ok (.bipush 8, 2) := by decide +kernel
theorem dX12_init_58 : decode cX12_init 58 = .ok (.newarray .int, 2) := by decide +kernel
theorem dX12_init_60 : decode cX12_init 60 = .ok (.putfield 29, 3) := by decide +kernel
theorem dX12_init_63 : decode cX12_init 63 = .ok (.aload_n 0, 1) := by decide +kernel
theorem dX12_init_64 : decode cX12_init 64 = .ok (.sipush 1760, 3) := by decide +kernel
theorem dX12_init_67 : decode cX12_init 67 = .ok (.newarray .long, 2) := by decide +kernel
theorem dX12_init_69 : decode cX12_init 69 = .ok (.putfield 32, 3) := by decide +kernel
theorem dX12_init_72 : decode cX12_init 72 = .ok (.aload_n 0, 1) := by decide +kernel
theorem dX12_init_73 : decode cX12_init 73 = .ok (.bipush 8, 2) := by decide +kernel
theorem dX12_init_75 : decode cX12_init 75 = .ok (.newarray .int, 2) := by decide +kernel
theorem dX12_init_77 : decode cX12_init 77 = .ok (.putfield 36, 3) := by decide +kernel
theorem dX12_init_80 : decode cX12_init 80 = .ok (.aload_n 0, 1) := by decide +kernel
theorem dX12_init_81 : decode cX12_init 81 = .ok (.sipush 1760, 3) := by decide +kernel
theorem dX12_init_84 : decode cX12_init 84 = .ok (.newarray .int, 2) := by decide +kernel
theorem dX12_init_86 : decode cX12_init 86 = .ok (.putfield 39, 3) := by decide +kernel
theorem dX12_init_89 : decode cX12_init 89 = .ok (.aload_n 0, 1) := by decide +kernel
theorem dX12_init_90 : decode cX12_init 90 = .ok (.sipush 1760, 3) := by decide +kernel
theorem dX12_init_93 : decode cX12_init 93 = .ok (.newarray .int, 2) := by decide +kernel
theorem dX12_init_95 : decode cX12_init 95 = .ok (.putfield 42, 3) := by decide +kernel
theorem dX12_init_98 : decode cX12_init 98 = .ok (.aload_n 0, 1) := by decide +kernel
theorem dX12_init_99 : decode cX12_init 99 = .ok (.sipush 1600, 3) := by decide +kernel
theorem dX12_init_102 : decode cX12_init 102 = .ok (.newarray .int, 2) := by decide +kernel
theorem dX12_init_104 : decode cX12_init 104 = .ok (.putfield 45, 3) := by decide +kernel
theorem dX12_init_107 : decode cX12_init 107 = .ok (.aload_n 0, 1) := by decide +kernel
theorem dX12_init_108 : decode cX12_init 108 = .ok (.sipush 1600, 3) := by decide +kernel
theorem dX12_init_111 : decode cX12_init 111 = .ok (.newarray .int, 2) := by decide +kernel
theorem dX12_init_113 : decode cX12_init 113 = .ok (.putfield 48, 3) := by decide +kernel
theorem dX12_init_116 : decode cX12_init 116 = .ok (.aload_n 0, 1) := by decide +kernel
theorem dX12_init_117 : decode cX12_init 117 = .ok (.sipush 1600, 3) := by decide +kernel
theorem dX12_init_120 : decode cX12_init 120 = .ok (.newarray .int, 2) := by decide +kernel
theorem dX12_init_122 : decode cX12_init 122 = .ok (.putfield 51, 3) := by decide +kernel
theorem dX12_init_125 : decode cX12_init 125 = .ok (.aload_n 0, 1) := by decide +kernel
theorem dX12_init_126 : decode cX12_init 126 = .ok (.sipush 1600, 3) := by decide +kernel
theorem dX12_init_129 : decode cX12_init 129 = .ok (.newarray .int, 2) := by decide +kernel
theorem dX12_init_131 : decode cX12_init 131 = .ok (.putfield 54, 3) := by decide +kernel
theorem dX12_init_134 : decode cX12_init 134 = .ok (.aload_n 0, 1) := by decide +kernel
theorem dX12_init_135 : decode cX12_init 135 = .ok (.sipush 1600, 3) := by decide +kernel
theorem dX12_init_138 : decode cX12_init 138 = .ok (.newarray .int, 2) := by decide +kernel
theorem dX12_init_140 : decode cX12_init 140 = .ok (.putfield 57, 3) := by decide +kernel
theorem dX12_init_143 : decode cX12_init 143 = .ok (.aload_n 0, 1) := by decide +kernel
theorem dX12_init_144 : decode cX12_init 144 = .ok (.sipush 1608, 3) := by decide +kernel
theorem dX12_init_147 : decode cX12_init 147 = .ok (.newarray .long, 2) := by decide +kernel
theorem dX12_init_149 : decode cX12_init 149 = .ok (.putfield 60, 3) := by decide +kernel
theorem dX12_init_152 : decode cX12_init 152 = .ok (.aload_n 0, 1) := by decide +kernel
theorem dX12_init_153 : decode cX12_init 153 = .ok (.sipush 1608, 3) := by decide +kernel
theorem dX12_init_156 : decode cX12_init 156 = .ok (.newarray .long, 2) := by decide +kernel
theorem dX12_init_158 : decode cX12_init 158 = .ok (.putfield 63, 3) := by decide +kernel
theorem dX12_init_161 : decode cX12_init 161 = .ok (.aload_n 0, 1) := by decide +kernel
theorem dX12_init_162 : decode cX12_init 162 = .ok (.sipush 19200, 3) := by decide +kernel
theorem dX12_init_165 : decode cX12_init 165 = .ok (.newarray .int, 2) := by decide +kernel
theorem dX12_init_167 : decode cX12_init 167 = .ok (.putfield 66, 3) := by decide +kernel
theorem dX12_init_170 : decode cX12_init 170 = .ok (.aload_n 0, 1) := by decide +kernel
theorem dX12_init_171 : decode cX12_init 171 = .ok (.sipush 19200, 3) := by decide +kernel
theorem dX12_init_174 : decode cX12_init 174 = .ok (.newarray .int, 2) := by decide +kernel
theorem dX12_init_176 : decode cX12_init 176 = .ok (.putfield 69, 3) := by decide +kernel
theorem dX12_init_179 : decode cX12_init 179 = .ok (.aload_n 0, 1) := by decide +kernel
theorem dX12_init_180 : decode cX12_init 180 = .ok (.sipush 19200, 3) := by decide +kernel
theorem dX12_init_183 : decode cX12_init 183 = .ok (.newarray .int, 2) := by decide +kernel
theorem dX12_init_185 : decode cX12_init 185 = .ok (.putfield 72, 3) := by decide +kernel
theorem dX12_init_188 : decode cX12_init 188 = .ok (.aload_n 0, 1) := by decide +kernel
theorem dX12_init_189 : decode cX12_init 189 = .ok (.sipush 19200, 3) := by decide +kernel
theorem dX12_init_192 : decode cX12_init 192 = .ok (.newarray .int, 2) := by decide +kernel
theorem dX12_init_194 : decode cX12_init 194 = .ok (.putfield 75, 3) := by decide +kernel
theorem dX12_init_197 : decode cX12_init 197 = .ok (.aload_n 0, 1) := by decide +kernel
theorem dX12_init_198 : decode cX12_init 198 = .ok (.bipush 8, 2) := by decide +kernel
theorem dX12_init_200 : decode cX12_init 200 = .ok (.newarray .int, 2) := by decide +kernel
theorem dX12_init_202 : decode cX12_init 202 = .ok (.putfield 78, 3) := by decide +kernel
theorem dX12_init_205 : decode cX12_init 205 = .ok (.aload_n 0, 1) := by decide +kernel
theorem dX12_init_206 : decode cX12_init 206 = .ok (.bipush 8, 2) := by decide +kernel
theorem dX12_init_208 : decode cX12_init 208 = .ok (.newarray .int, 2) := by decide +kernel
theorem dX12_init_210 : decode cX12_init 210 = .ok (.putfield 81, 3) := by decide +kernel
theorem dX12_init_213 : decode cX12_init 213 = .ok (.aload_n 0, 1) := by decide +kernel
theorem dX12_init_214 : decode cX12_init 214 = .ok (.bipush 32, 2) := by decide +kernel
theorem dX12_init_216 : decode cX12_init 216 = .ok (.newarray .int, 2) := by decide +kernel
theorem dX12_init_218 : decode cX12_init 218 = .ok (.putfield 84, 3) := by decide +kernel
theorem dX12_init_221 : decode cX12_init 221 = .ok (.aload_n 0, 1) := by decide +kernel
theorem dX12_init_222 : decode cX12_init 222 = .ok (.bipush 32, 2) := by decide +kernel
theorem dX12_init_224 : decode cX12_init 224 = .ok (.newarray .int, 2) := by decide +kernel
theorem dX12_init_226 : decode cX12_init 226 = .ok (.putfield 87, 3) := by decide +kernel
theorem dX12_init_229 : decode cX12_init 229 = .ok (.aload_n 0, 1) := by decide +kernel
theorem dX12_init_230 : decode cX12_init 230 = .ok (.bipush 32, 2) := by decide +kernel
theorem dX12_init_232 : decode cX12_init 232 = .ok (.newarray .long, 2) := by decide +kernel
theorem dX12_init_234 : decode cX12_init 234 = .ok (.putfield 90, 3) := by decide +kernel
theorem dX12_init_237 : decode cX12_init 237 = .ok (.aload_n 0, 1) := by decide +kernel
theorem dX12_init_238 : decode cX12_init 238 = .ok (.bipush 32, 2) := by decide +kernel
theorem dX12_init_240 : decode cX12_init 240 = .ok (.newarray .long, 2) := by decide +kernel
theorem dX12_init_242 : decode cX12_init 242 = .ok (.putfield 93, 3) := by decide +kernel
theorem dX12_init_245 : decode cX12_init 245 = .ok (.aload_n 0, 1) := by decide +kernel
theorem dX12_init_246 : decode cX12_init 246 = .ok (.bipush 32, 2) := by decide +kernel
theorem dX12_init_248 : decode cX12_init 248 = .ok (.newarray .int, 2) := by decide +kernel
theorem dX12_init_250 : decode cX12_init 250 = .ok (.putfield 96, 3) := by decide +kernel
theorem dX12_init_253 : decode cX12_init 253 = .ok (.aload_n 0, 1) := by decide +kernel
theorem dX12_init_254 : decode cX12_init 254 = .ok (.bipush 32, 2) := by decide +kernel
theorem dX12_init_256 : decode cX12_init 256 = .ok (.newarray .int, 2) := by decide +kernel
theorem dX12_init_258 : decode cX12_init 258 = .ok (.putfield 99, 3) := by decide +kernel
theorem dX12_init_261 : decode cX12_init 261 = .ok (.aload_n 0, 1) := by decide +kernel
theorem dX12_init_262 : decode cX12_init 262 = .ok (.bipush 32, 2) := by decide +kernel
theorem dX12_init_264 : decode cX12_init 264 = .ok (.newarray .long, 2) := by decide +kernel
theorem dX12_init_266 : decode cX12_init 266 = .ok (.putfield 102, 3) := by decide +kernel
theorem dX12_init_269 : decode cX12_init 269 = .ok (.aload_n 0, 1) := by decide +kernel
theorem dX12_init_270 : decode cX12_init 270 = .ok (.bipush 32, 2) := by decide +kernel
theorem dX12_init_272 : decode cX12_init 272 = .ok (.newarray .long, 2) := by decide +kernel
theorem dX12_init_274 : decode cX12_init 274 = .ok (.putfield 105, 3) := by decide +kernel
theorem dX12_init_277 : decode cX12_init 277 = .ok (.aload_n 0, 1) := by decide +kernel
theorem dX12_init_278 : decode cX12_init 278 = .ok (.sipush 20000, 3) := by decide +kernel
theorem dX12_init_281 : decode cX12_init 281 = .ok (.newarray .int, 2) := by decide +kernel
theorem dX12_init_283 : decode cX12_init 283 = .ok (.putfield 108, 3) := by decide +kernel
theorem dX12_init_286 : decode cX12_init 286 = .ok (.return_, 1) := by decide +kernel
theorem dX1_init_0 : decode cX1_init 0 = .ok (.aload_n 0, 1) := by decide +kernel
theorem dX1_init_1 : decode cX1_init 1 = .ok (.invokespecial 3, 3) := by decide +kernel
theorem dX1_init_4 : decode cX1_init 4 = .ok (.aload_n 0, 1) := by decide +kernel
theorem dX1_init_5 : decode cX1_init 5 = .ok (.new 9, 3) := by decide +kernel
theorem dX1_init_8 : decode cX1_init 8 = .ok (.dup, 1) := by decide +kernel
theorem dX1_init_9 : decode cX1_init 9 = .ok (.invokespecial 11, 3) := by decide +kernel
theorem dX1_init_12 : decode cX1_init 12 = .ok (.putfield 12, 3) := by decide +kernel
theorem dX1_init_15 : decode cX1_init 15 = .ok (.aload_n 0, 1) := by decide +kernel
theorem dX1_init_16 : decode cX1_init 16 = .ok (.iconst 0, 1) := by decide +kernel
theorem dX1_init_17 : decode cX1_init 17 = .ok (.putfield 18, 3) := by decide +kernel
theorem dX1_init_20 : decode cX1_init 20 = .ok (.aload_n 0, 1) := by decide +kernel
theorem dX1_init_21 : decode cX1_init 21 = .ok (.iconst 1, 1) := by decide +kernel
theorem dX1_init_22 : decode cX1_init 22 = .ok (.putfield 22, 3) := by decide +kernel
theorem dX1_init_25 : decode cX1_init 25 = .ok (.aload_n 0, 1) := by decide +kernel
theorem dX1_init_26 : decode cX1_init 26 = .ok (.iconst 0, 1) := by decide +kernel
theorem dX1_init_27 : decode cX1_init 27 = .ok (.putfield 25, 3) := by decide +kernel
theorem dX1_init_30 : decode cX1_init 30 = .ok (.aload_n 0, 1) := by decide +kernel
theorem dX1_init_31 : decode cX1_init 31 = .ok (.iconst 1, 1) := by decide +kernel
theorem dX1_init_32 : decode cX1_init 32 = .ok (.putfield 28, 3) := by decide +kernel
theorem dX1_init_35 : decode cX1_init 35 = .ok (.return_, 1) := by decide +kernel
theorem dX2_init_0 : decode cX2_init 0 = .ok (.aload_n 0, 1) := by decide +kernel
theorem dX2_init_1 : decode cX2_init 1 = .ok (.invokespecial 3, 3) := by decide +kernel
theorem dX2_init_4 : decode cX2_init 4 = .ok (.aload_n 0, 1) := by decide +kernel
theorem dX2_init_5 : decode cX2_init 5 = .ok (.bipush 12, 2) := by decide +kernel
theorem dX2_init_7 : decode cX2_init 7 = .ok (.newarray .int, 2) := by decide +kernel
theorem dX2_init_9 : decode cX2_init 9 = .ok (.putfield 9, 3) := by decide +kernel
theorem dX2_init_12 : decode cX2_init 12 = .ok (.return_, 1) := by decide +kernel
theorem dX3_init_0 : decode cX3_init 0 = .ok (.aload_n 0, 1) := by decide +kernel
theorem dX3_init_1 : decode cX3_init 1 = .ok (.invokespecial 1, 3) := by decide +kernel
theorem dX3_init_4 : decode cX3_init 4 = .ok (.aload_n 0, 1) := by decide +kernel
theorem dX3_init_5 : decode cX3_init 5 = .ok (.lconst 0, 1) := by decide +kernel
theorem dX3_init_6 : decode cX3_init 6 = .ok (.putfield 7, 3) := by decide +kernel
theorem dX3_init_9 : decode cX3_init 9 = .ok (.aload_n 0, 1) := by decide +kernel
theorem dX3_init_10 : decode cX3_init 10 = .ok (.lconst 1, 1) := by decide +kernel
theorem dX3_init_11 : decode cX3_init 11 = .ok (.putfield 13, 3) := by decide +kernel
theorem dX3_init_14 : decode cX3_init 14 = .ok (.return_, 1) := by decide +kernel
theorem dX4_init_0 : decode cX4_init 0 = .ok (.aload_n 0, 1) := by decide +kernel
theorem dX4_init_1 : decode cX4_init 1 = .ok (.invokespecial 3, 3) := by decide +kernel
theorem dX4_init_4 : decode cX4_init 4 = .ok (.aload_n 0, 1) := by decide +kernel
theorem dX4_init_5 : decode cX4_init 5 = .ok (.iconst 0, 1) := by decide +kernel
theorem dX4_init_6 : decode cX4_init 6 = .ok (.putfield 9, 3) := by decide +kernel
theorem dX4_init_9 : decode cX4_init 9 = .ok (.aload_n 0, 1) := by decide +kernel
theorem dX4_init_10 : decode cX4_init 10 = .ok (.iconst 1, 1) := by decide +kernel
theorem dX4_init_11 : decode cX4_init 11 = .ok (.putfield 15, 3) := by decide +kernel
theorem dX4_init_14 : decode cX4_init 14 = .ok (.aload_n 0, 1) := by decide +kernel
theorem dX4_init_15 : decode cX4_init 15 = .ok (.new 18, 3) := by decide +kernel
theorem dX4_init_18 : decode cX4_init 18 = .ok (.dup, 1) := by decide +kernel
theorem dX4_init_19 : decode cX4_init 19 = .ok (.invokespecial 20, 3) := by decide +kernel
theorem dX4_init_22 : decode cX4_init 22 = .ok (.putfield 21, 3) := by decide +kernel
theorem dX4_init_25 : decode cX4_init 25 = .ok (.aload_n 0, 1) := by decide +kernel
theorem dX4_init_26 : decode cX4_init 26 = .ok (.aconst_null, 1) := by decide +kernel
theorem dX4_init_27 : decode cX4_init 27 = .ok (.putfield 25, 3) := by decide +kernel
theorem dX4_init_30 : decode cX4_init 30 = .ok (.aload_n 0, 1) := by decide +kernel
theorem dX4_init_31 : decode cX4_init 31 = .ok (.iconst 0, 1) := by decide +kernel
theorem dX4_init_32 : decode cX4_init 32 = .ok (.putfield 29, 3) := by decide +kernel
theorem dX4_init_35 : decode cX4_init 35 = .ok (.aload_n 0, 1) := by decide +kernel
theorem dX4_init_36 : decode cX4_init 36 = .ok (.iconst 0, 1) := by decide +kernel
theorem dX4_init_37 : decode cX4_init 37 = .ok (.putfield 32, 3) := by decide +kernel
theorem dX4_init_40 : decode cX4_init 40 = .ok (.return_, 1) := by decide +kernel
theorem dX5_init_0 : decode cX5_init 0 = .ok (.aload_n 0, 1) := by decide +kernel
theorem dX5_init_1 : decode cX5_init 1 = .ok (.invokespecial 3, 3) := by decide +kernel
theorem dX5_init_4 : decode cX5_init 4 = .ok (.aload_n 0, 1) := by decide +kernel
theorem dX5_init_5 : decode cX5_init 5 = .ok (.iconst 0, 1) := by decide +kernel
theorem dX5_init_6 : decode cX5_init 6 = .ok (.putfield 9, 3) := by decide +kernel
theorem dX5_init_9 : decode cX5_init 9 = .ok (.aload_n 0, 1) := by decide +kernel
theorem dX5_init_10 : decode cX5_init 10 = .ok (.iconst 0, 1) := by decide +kernel
theorem dX5_init_11 : decode cX5_init 11 = .ok (.putfield 15, 3) := by decide +kernel
theorem dX5_init_14 : decode cX5_init 14 = .ok (.aload_n 0, 1) := by decide +kernel
theorem dX5_init_15 : decode cX5_init 15 = .ok (.aconst_null, 1) := by decide +kernel
theorem dX5_init_16 : decode cX5_init 16 = .ok (.putfield 18, 3) := by decide +kernel
theorem dX5_init_19 : decode cX5_init 19 = .ok (.aload_n 0, 1) := by decide +kernel
theorem dX5_init_20 : decode cX5_init 20 = .ok (.iconst 0, 1) := by decide +kernel
theorem dX5_init_21 : decode cX5_init 21 = .ok (.putfield 22, 3) := by decide +kernel
theorem dX5_init_24 : decode cX5_init 24 = .ok (.aload_n 0, 1) := by decide +kernel
theorem dX5_init_25 : decode cX5_init 25 = .ok (.aconst_null, 1) := by decide +kernel
theorem dX5_init_26 : decode cX5_init 26 = .ok (.putfield 25, 3) := by decide +kernel
theorem dX5_init_29 : decode cX5_init 29 = .ok (.aload_n 0, 1) := by decide +kernel
theorem dX5_init_30 : decode cX5_init 30 = .ok (.iconst 0, 1) := by decide +kernel
theorem dX5_init_31 : decode cX5_init 31 = .ok (.putfield 29, 3) := by decide +kernel
theorem dX5_init_34 : decode cX5_init 34 = .ok (.aload_n 0, 1) := by decide +kernel
theorem dX5_init_35 : decode cX5_init 35 = .ok (.iconst 4, 1) := by decide +kernel
theorem dX5_init_36 : decode cX5_init 36 = .ok (.putfield 32, 3) := by decide +kernel
theorem dX5_init_39 : decode cX5_init 39 = .ok (.aload_n 0, 1) := by decide +kernel
theorem dX5_init_40 : decode cX5_init 40 = .ok (.iconst 0, 1) := by decide +kernel
theorem dX5_init_41 : decode cX5_init 41 = .ok (.putfield 35, 3) := by decide +kernel
theorem dX5_init_44 : decode cX5_init 44 = .ok (.aload_n 0, 1) := by decide +kernel
theorem dX5_init_45 : decode cX5_init 45 = .ok (.bipush 13, 2) := by decide +kernel
theorem dX5_init_47 : decode cX5_init 47 = .ok (.newarray .int, 2) := by decide +kernel
theorem dX5_init_49 : decode cX5_init 49 = .ok (.putfield 38, 3) := by decide +kernel
theorem dX5_init_52 : decode cX5_init 52 = .ok (.aload_n 0, 1) := by decide +kernel
theorem dX5_init_53 : decode cX5_init 53 = .ok (.bipush 13, 2) := by decide +kernel
theorem dX5_init_55 : decode cX5_init 55 = .ok (.newarray .int, 2) := by decide +kernel
theorem dX5_init_57 : decode cX5_init 57 = .ok (.putfield 42, 3) := by decide +kernel
theorem dX5_init_60 : decode cX5_init 60 = .ok (.aload_n 0, 1) := by decide +kernel
theorem dX5_init_61 : decode cX5_init 61 = .ok (.bipush 13, 2) := by decide +kernel
theorem dX5_init_63 : decode cX5_init 63 = .ok (.newarray .int, 2) := by decide +kernel
theorem dX5_init_65 : decode cX5_init 65 = .ok (.putfield 45, 3) := by decide +kernel
theorem dX5_init_68 : decode cX5_init 68 = .ok (.aload_n 0, 1) := by decide +kernel
theorem dX5_init_69 : decode cX5_init 69 = .ok (.iconst (-1), 1) := by decide +kernel
theorem dX5_init_70 : decode cX5_init 70 = .ok (.putfield 48, 3) := by decide +kernel
theorem dX5_init_73 : decode cX5_init 73 = .ok (.aload_n 0, 1) := by decide +kernel
theorem dX5_init_74 : decode cX5_init 74 = .ok (.iconst (-1), 1) := by decide +kernel
theorem dX5_init_75 : decode cX5_init 75 = .ok (.putfield 51, 3) := by decide +kernel
theorem dX5_init_78 : decode cX5_init 78 = .ok (.aload_n 0, 1) := by decide +kernel
theorem dX5_init_79 : decode cX5_init 79 = .ok (.iconst 0, 1) := by decide +kernel
theorem dX5_init_80 : decode cX5_init 80 = .ok (.putfield 54, 3) := by decide +kernel
theorem dX5_init_83 : decode cX5_init 83 = .ok (.aload_n 0, 1) := by decide +kernel
theorem dX5_init_84 : decode cX5_init 84 = .ok (.iconst 0, 1) := by decide +kernel
theorem dX5_init_85 : decode cX5_init 85 = .ok (.putfield 57, 3) := by decide +kernel
theorem dX5_init_88 : decode cX5_init 88 = .ok (.aload_n 0, 1) := by decide +kernel
theorem dX5_init_89 : decode cX5_init 89 = .ok (.iconst 0, 1) := by decide +kernel
theorem dX5_init_90 : decode cX5_init 90 = .ok (.putfield 60, 3) := by decide +kernel
theorem dX5_init_93 : decode cX5_init 93 = .ok (.return_, 1) := by decide +kernel
theorem dX6_init_0 : decode cX6_init 0 = .ok (.aload_n 0, 1) := by decide +kernel
theorem dX6_init_1 : decode cX6_init 1 = .ok (.invokespecial 3, 3) := by decide +kernel
theorem dX6_init_4 : decode cX6_init 4 = .ok (.aload_n 0, 1) := by decide +kernel
theorem dX6_init_5 : decode cX6_init 5 = .ok (.sipush 3001, 3) := by decide +kernel
theorem dX6_init_8 : decode cX6_init 8 = .ok (.newarray .byte, 2) := by decide +kernel
theorem dX6_init_10 : decode cX6_init 10 = .ok (.putfield 9, 3) := by decide +kernel
theorem dX6_init_13 : decode cX6_init 13 = .ok (.aload_n 0, 1) := by decide +kernel
theorem dX6_init_14 : decode cX6_init 14 = .ok (.sipush 201, 3) := by decide +kernel
theorem dX6_init_17 : decode cX6_init 17 = .ok (.newarray .int, 2) := by decide +kernel
theorem dX6_init_19 : decode cX6_init 19 = .ok (.putfield 15, 3) := by decide +kernel
theorem dX6_init_22 : decode cX6_init 22 = .ok (.aload_n 0, 1) := by decide +kernel
theorem dX6_init_23 : decode cX6_init 23 = .ok (.sipush 200, 3) := by decide +kernel
theorem dX6_init_26 : decode cX6_init 26 = .ok (.newarray .int, 2) := by decide +kernel
theorem dX6_init_28 : decode cX6_init 28 = .ok (.putfield 19, 3) := by decide +kernel
theorem dX6_init_31 : decode cX6_init 31 = .ok (.aload_n 0, 1) := by decide +kernel
theorem dX6_init_32 : decode cX6_init 32 = .ok (.sipush 201, 3) := by decide +kernel
theorem dX6_init_35 : decode cX6_init 35 = .ok (.newarray .int, 2) := by decide +kernel
theorem dX6_init_37 : decode cX6_init 37 = .ok (.putfield 22, 3) := by decide +kernel
theorem dX6_init_40 : decode cX6_init 40 = .ok (.aload_n 0, 1) := by decide +kernel
theorem dX6_init_41 : decode cX6_init 41 = .ok (.sipush 1500, 3) := by decide +kernel
theorem dX6_init_44 : decode cX6_init 44 = .ok (.newarray .int, 2) := by decide +kernel
theorem dX6_init_46 : decode cX6_init 46 = .ok (.putfield 25, 3) := by decide +kernel
theorem dX6_init_49 : decode cX6_init 49 = .ok (.aload_n 0, 1) := by decide +kernel
theorem dX6_init_50 : decode cX6_init 50 = .ok (.sipush 1500, 3) := by decide +kernel
theorem dX6_init_53 : decode cX6_init 53 = .ok (.newarray .int, 2) := by decide +kernel
theorem dX6_init_55 : decode cX6_init 55 = .ok (.putfield 28, 3) := by decide +kernel
theorem dX6_init_58 : decode cX6_init 58 = .ok (.aload_n 0, 1) := by decide +kernel
theorem dX6_init_59 : decode cX6_init 59 = .ok (.sipush 1500, 3) := by decide +kernel
theorem dX6_init_62 : decode cX6_init 62 = .ok (.newarray .int, 2) := by decide +kernel
theorem dX6_init_64 : decode cX6_init 64 = .ok (.putfield 31, 3) := by decide +kernel
theorem dX6_init_67 : decode cX6_init 67 = .ok (.aload_n 0, 1) := by decide +kernel
theorem dX6_init_68 : decode cX6_init 68 = .ok (.iconst 0, 1) := by decide +kernel
theorem dX6_init_69 : decode cX6_init 69 = .ok (.putfield 34, 3) := by decide +kernel
theorem dX6_init_72 : decode cX6_init 72 = .ok (.aload_n 0, 1) := by decide +kernel
theorem dX6_init_73 : decode cX6_init 73 = .ok (.iconst 0, 1) := by decide +kernel
theorem dX6_init_74 : decode cX6_init 74 = .ok (.putfield 38, 3) := by decide +kernel
theorem dX6_init_77 : decode cX6_init 77 = .ok (.aload_n 0, 1) := by decide +kernel
theorem dX6_init_78 : decode cX6_init 78 = .ok (.iconst 0, 1) := by decide +kernel
theorem dX6_init_79 : decode cX6_init 79 = .ok (.putfield 41, 3) := by decide +kernel
theorem dX6_init_82 : decode cX6_init 82 = .ok (.aload_n 0, 1) := by decide +kernel
theorem dX6_init_83 : decode cX6_init 83 = .ok (.iconst 0, 1) := by decide +kernel
theorem dX6_init_84 : decode cX6_init 84 = .ok (.putfield 44, 3) := by decide +kernel
theorem dX6_init_87 : decode cX6_init 87 = .ok (.return_, 1) := by decide +kernel
theorem dX7_init_0 : decode cX7_init 0 = .ok (.aload_n 0, 1) := by decide +kernel
theorem dX7_init_1 : decode cX7_init 1 = .ok (.invokespecial 3, 3) := by decide +kernel
theorem dX7_init_4 : decode cX7_init 4 = .ok (.aload_n 0, 1) := by decide +kernel
theorem dX7_init_5 : decode cX7_init 5 = .ok (.aconst_null, 1) := by decide +kernel
theorem dX7_init_6 : decode cX7_init 6 = .ok (.putfield 9, 3) := by decide +kernel
theorem dX7_init_9 : decode cX7_init 9 = .ok (.aload_n 0, 1) := by decide +kernel
theorem dX7_init_10 : decode cX7_init 10 = .ok (.iconst 0, 1) := by decide +kernel
theorem dX7_init_11 : decode cX7_init 11 = .ok (.putfield 15, 3) := by decide +kernel
theorem dX7_init_14 : decode cX7_init 14 = .ok (.aload_n 0, 1) := by decide +kernel
theorem dX7_init_15 : decode cX7_init 15 = .ok (.iconst 0, 1) := by decide +kernel
theorem dX7_init_16 : decode cX7_init 16 = .ok (.putfield 19, 3) := by decide +kernel
theorem dX7_init_19 : decode cX7_init 19 = .ok (.aload_n 0, 1) := by decide +kernel
theorem dX7_init_20 : decode cX7_init 20 = .ok (.iconst 0, 1) := by decide +kernel
theorem dX7_init_21 : decode cX7_init 21 = .ok (.putfield 22, 3) := by decide +kernel
theorem dX7_init_24 : decode cX7_init 24 = .ok (.aload_n 0, 1) := by decide +kernel
theorem dX7_init_25 : decode cX7_init 25 = .ok (.bipush 12, 2) := by decide +kernel
theorem dX7_init_27 : decode cX7_init 27 = .ok (.newarray .int, 2) := by decide +kernel
theorem dX7_init_29 : decode cX7_init 29 = .ok (.putfield 26, 3) := by decide +kernel
theorem dX7_init_32 : decode cX7_init 32 = .ok (.return_, 1) := by decide +kernel
theorem dX8_init_0 : decode cX8_init 0 = .ok (.aload_n 0, 1) := by decide +kernel
theorem dX8_init_1 : decode cX8_init 1 = .ok (.invokespecial 3, 3) := by decide +kernel
theorem dX8_init_4 : decode cX8_init 4 = .ok (.aload_n 0, 1) := by decide +kernel
theorem dX8_init_5 : decode cX8_init 5 = .ok (.new 9, 3) := by decide +kernel
theorem dX8_init_8 : decode cX8_init 8 = .ok (.dup, 1) := by decide +kernel
theorem dX8_init_9 : decode cX8_init 9 = .ok (.invokespecial 11, 3) := by decide +kernel
theorem dX8_init_12 : decode cX8_init 12 = .ok (.putfield 12, 3) := by decide +kernel
theorem dX8_init_15 : decode cX8_init 15 = .ok (.aload_n 0, 1) := by decide +kernel
theorem dX8_init_16 : decode cX8_init 16 = .ok (.sipush 1500, 3) := by decide +kernel
theorem dX8_init_19 : decode cX8_init 19 = .ok (.newarray .int, 2) := by decide +kernel
theorem dX8_init_21 : decode cX8_init 21 = .ok (.putfield 18, 3) := by decide +kernel
theorem dX8_init_24 : decode cX8_init 24 = .ok (.aload_n 0, 1) := by decide +kernel
theorem dX8_init_25 : decode cX8_init 25 = .ok (.sipush 1500, 3) := by decide +kernel
theorem dX8_init_28 : decode cX8_init 28 = .ok (.newarray .int, 2) := by decide +kernel
theorem dX8_init_30 : decode cX8_init 30 = .ok (.putfield 22, 3) := by decide +kernel
theorem dX8_init_33 : decode cX8_init 33 = .ok (.aload_n 0, 1) := by decide +kernel
theorem dX8_init_34 : decode cX8_init 34 = .ok (.sipush 1500, 3) := by decide +kernel
theorem dX8_init_37 : decode cX8_init 37 = .ok (.newarray .int, 2) := by decide +kernel
theorem dX8_init_39 : decode cX8_init 39 = .ok (.putfield 25, 3) := by decide +kernel
theorem dX8_init_42 : decode cX8_init 42 = .ok (.aload_n 0, 1) := by decide +kernel
theorem dX8_init_43 : decode cX8_init 43 = .ok (.sipush 1500, 3) := by decide +kernel
theorem dX8_init_46 : decode cX8_init 46 = .ok (.newarray .int, 2) := by decide +kernel
theorem dX8_init_48 : decode cX8_init 48 = .ok (.putfield 28, 3) := by decide +kernel
theorem dX8_init_51 : decode cX8_init 51 = .ok (.aload_n 0, 1) := by decide +kernel
theorem dX8_init_52 : decode cX8_init 52 = .ok (.sipush 1500, 3) := by decide +kernel
theorem dX8_init_55 : decode cX8_init 55 = .ok (.newarray .int, 2) := by decide +kernel
theorem dX8_init_57 : decode cX8_init 57 = .ok (.putfield 31, 3) := by decide +kernel
theorem dX8_init_60 : decode cX8_init 60 = .ok (.aload_n 0, 1) := by decide +kernel
theorem dX8_init_61 : decode cX8_init 61 = .ok (.sipush 212, 3) := by decide +kernel
theorem dX8_init_64 : decode cX8_init 64 = .ok (.newarray .int, 2) := by decide +kernel
theorem dX8_init_66 : decode cX8_init 66 = .ok (.putfield 34, 3) := by decide +kernel
theorem dX8_init_69 : decode cX8_init 69 = .ok (.aload_n 0, 1) := by decide +kernel
theorem dX8_init_70 : decode cX8_init 70 = .ok (.sipush 212, 3) := by decide +kernel
theorem dX8_init_73 : decode cX8_init 73 = .ok (.newarray .int, 2) := by decide +kernel
theorem dX8_init_75 : decode cX8_init 75 = .ok (.putfield 37, 3) := by decide +kernel
theorem dX8_init_78 : decode cX8_init 78 = .ok (.aload_n 0, 1) := by decide +kernel
theorem dX8_init_79 : decode cX8_init 79 = .ok (.iconst 0, 1) := by decide +kernel
theorem dX8_init_80 : decode cX8_init 80 = .ok (.putfield 40, 3) := by decide +kernel
theorem dX8_init_83 : decode cX8_init 83 = .ok (.aload_n 0, 1) := by decide +kernel
theorem dX8_init_84 : decode cX8_init 84 = .ok (.iconst 0, 1) := by decide +kernel
theorem dX8_init_85 : decode cX8_init 85 = .ok (.putfield 44, 3) := by decide +kernel
theorem dX8_init_88 : decode cX8_init 88 = .ok (.aload_n 0, 1) := by decide +kernel
theorem dX8_init_89 : decode cX8_init 89 = .ok (.iconst (-1), 1) := by decide +kernel
theorem dX8_init_90 : decode cX8_init 90 = .ok (.putfield 47, 3) := by decide +kernel
theorem dX8_init_93 : decode cX8_init 93 = .ok (.aload_n 0, 1) := by decide +kernel
theorem dX8_init_94 : decode cX8_init 94 = .ok (.iconst 0, 1) := by decide +kernel
theorem dX8_init_95 : decode cX8_init 95 = .ok (.putfield 50, 3) := by decide +kernel
theorem dX8_init_98 : decode cX8_init 98 = .ok (.aload_n 0, 1) := by decide +kernel
theorem dX8_init_99 : decode cX8_init 99 = .ok (.bipush 12, 2) := by decide +kernel
theorem dX8_init_101 : decode cX8_init 101 = .ok (.newarray .int, 2) := by decide +kernel
theorem dX8_init_103 : decode cX8_init 103 = .ok (.putfield 53, 3) := by decide +kernel
theorem dX8_init_106 : decode cX8_init 106 = .ok (.aload_n 0, 1) := by decide +kernel
theorem dX8_init_107 : decode cX8_init 107 = .ok (.sipush 201, 3) := by decide +kernel
theorem dX8_init_110 : decode cX8_init 110 = .ok (.newarray .int, 2) := by decide +kernel
theorem dX8_init_112 : decode cX8_init 112 = .ok (.putfield 56, 3) := by decide +kernel
theorem dX8_init_115 : decode cX8_init 115 = .ok (.aload_n 0, 1) := by decide +kernel
theorem dX8_init_116 : decode cX8_init 116 = .ok (.sipush 201, 3) := by decide +kernel
theorem dX8_init_119 : decode cX8_init 119 = .ok (.newarray .int, 2) := by decide +kernel
theorem dX8_init_121 : decode cX8_init 121 = .ok (.putfield 59, 3) := by decide +kernel
theorem dX8_init_124 : decode cX8_init 124 = .ok (.aload_n 0, 1) := by decide +kernel
theorem dX8_init_125 : decode cX8_init 125 = .ok (.iconst (-1), 1) := by decide +kernel
theorem dX8_init_126 : decode cX8_init 126 = .ok (.putfield 62, 3) := by decide +kernel
theorem dX8_init_129 : decode cX8_init 129 = .ok (.aload_n 0, 1) := by decide +kernel
theorem dX8_init_130 : decode cX8_init 130 = .ok (.iconst 0, 1) := by decide +kernel
theorem dX8_init_131 : decode cX8_init 131 = .ok (.putfield 65, 3) := by decide +kernel
theorem dX8_init_134 : decode cX8_init 134 = .ok (.return_, 1) := by decide +kernel
theorem dX9_init_0 : decode cX9_init 0 = .ok (.aload_n 0, 1) := by decide +kernel
theorem dX9_init_1 : decode cX9_init 1 = .ok (.invokespecial 3, 3) := by decide +kernel
theorem dX9_init_4 : decode cX9_init 4 = .ok (.aload_n 0, 1) := by decide +kernel
theorem dX9_init_5 : decode cX9_init 5 = .ok (.bipush 12, 2) := by decide +kernel
theorem dX9_init_7 : decode cX9_init 7 = .ok (.newarray .int, 2) := by decide +kernel
theorem dX9_init_9 : decode cX9_init 9 = .ok (.putfield 9, 3) := by decide +kernel
theorem dX9_init_12 : decode cX9_init 12 = .ok (.aload_n 0, 1) := by decide +kernel
theorem dX9_init_13 : decode cX9_init 13 = .ok (.bipush 12, 2) := by decide +kernel
theorem dX9_init_15 : decode cX9_init 15 = .ok (.newarray .int, 2) := by decide +kernel
theorem dX9_init_17 : decode cX9_init 17 = .ok (.putfield 15, 3) := by decide +kernel
theorem dX9_init_20 : decode cX9_init 20 = .ok (.aload_n 0, 1) := by decide +kernel
theorem dX9_init_21 : decode cX9_init 21 = .ok (.bipush 12, 2) := by decide +kernel
theorem dX9_init_23 : decode cX9_init 23 = .ok (.newarray .int, 2) := by decide +kernel
theorem dX9_init_25 : decode cX9_init 25 = .ok (.putfield 18, 3) := by decide +kernel
theorem dX9_init_28 : decode cX9_init 28 = .ok (.aload_n 0, 1) := by decide +kernel
theorem dX9_init_29 : decode cX9_init 29 = .ok (.bipush 12, 2) := by decide +kernel
theorem dX9_init_31 : decode cX9_init 31 = .ok (.newarray .int, 2) := by decide +kernel
theorem dX9_init_33 : decode cX9_init 33 = .ok (.putfield 21, 3) := by decide +kernel
theorem dX9_init_36 : decode cX9_init 36 = .ok (.aload_n 0, 1) := by decide +kernel
theorem dX9_init_37 : decode cX9_init 37 = .ok (.bipush 12, 2) := by decide +kernel
theorem dX9_init_39 : decode cX9_init 39 = .ok (.newarray .int, 2) := by decide +kernel
theorem dX9_init_41 : decode cX9_init 41 = .ok (.putfield 24, 3) := by decide +kernel
theorem dX9_init_44 : decode cX9_init 44 = .ok (.aload_n 0, 1) := by decide +kernel
theorem dX9_init_45 : decode cX9_init 45 = .ok (.new 27, 3) := by decide +kernel
theorem dX9_init_48 : decode cX9_init 48 = .ok (.dup, 1) := by decide +kernel
theorem dX9_init_49 : decode cX9_init 49 = .ok (.invokespecial 29, 3) := by decide +kernel
theorem dX9_init_52 : decode cX9_init 52 = .ok (.putfield 30, 3) := by decide +kernel
theorem dX9_init_55 : decode cX9_init 55 = .ok (.aload_n 0, 1) := by decide +kernel
theorem dX9_init_56 : decode cX9_init 56 = .ok (.aconst_null, 1) := by decide +kernel
theorem dX9_init_57 : decode cX9_init 57 = .ok (.putfield 34, 3) := by decide +kernel
theorem dX9_init_60 : decode cX9_init 60 = .ok (.aload_n 0, 1) := by decide +kernel
theorem dX9_init_61 : decode cX9_init 61 = .ok (.iconst 0, 1) := by decide +kernel
theorem dX9_init_62 : decode cX9_init 62 = .ok (.putfield 38, 3) := by decide +kernel
theorem dX9_init_65 : decode cX9_init 65 = .ok (.aload_n 0, 1) := by decide +kernel
theorem dX9_init_66 : decode cX9_init 66 = .ok (.iconst 1, 1) := by decide +kernel
theorem dX9_init_67 : decode cX9_init 67 = .ok (.putfield 42, 3) := by decide +kernel
theorem dX9_init_70 : decode cX9_init 70 = .ok (.return_, 1) := by decide +kernel
