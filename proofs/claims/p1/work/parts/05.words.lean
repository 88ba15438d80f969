theorem wd_oi : (.code objectInit ⟨#[0xb1]⟩ 1 none) ∈ wU := mU (tin_1 _ (List.mem_of_getElem? (i := 29) rfl)) rfl
theorem inX0 : ∀ w ∈ u_ws RX0 TX0 3, w ∈ wU := fun w h => List.mem_filter.mpr ⟨(by decide +kernel : ∀ w ∈ u_ws RX0 TX0 3, w ∈ lw_tbl) w h, (by decide +kernel : ∀ w ∈ u_ws RX0 TX0 3, goodWord w = true) w h⟩
theorem inX1 : ∀ w ∈ u_ws RX1 TX1 5, w ∈ wU := fun w h => List.mem_filter.mpr ⟨(by decide +kernel : ∀ w ∈ u_ws RX1 TX1 5, w ∈ lw_tbl) w h, (by decide +kernel : ∀ w ∈ u_ws RX1 TX1 5, goodWord w = true) w h⟩
theorem inX2 : ∀ w ∈ u_ws RX2 TX2 1, w ∈ wU := fun w h => List.mem_filter.mpr ⟨(by decide +kernel : ∀ w ∈ u_ws RX2 TX2 1, w ∈ lw_tbl) w h, (by decide +kernel : ∀ w ∈ u_ws RX2 TX2 1, goodWord w = true) w h⟩
theorem inX3 : ∀ w ∈ u_ws RX3 TX3 2, w ∈ wU := fun w h => List.mem_filter.mpr ⟨(by decide +kernel : ∀ w ∈ u_ws RX3 TX3 2, w ∈ lw_tbl) w h, (by decide +kernel : ∀ w ∈ u_ws RX3 TX3 2, goodWord w = true) w h⟩
theorem inX4 : ∀ w ∈ u_ws RX4 TX4 6, w ∈ wU := fun w h => List.mem_filter.mpr ⟨(by decide +kernel : ∀ w ∈ u_ws RX4 TX4 6, w ∈ lw_tbl) w h, (by decide +kernel : ∀ w ∈ u_ws RX4 TX4 6, goodWord w = true) w h⟩
theorem inX5 : ∀ w ∈ u_ws RX5 TX5 16, w ∈ wU := fun w h => List.mem_filter.mpr ⟨(by decide +kernel : ∀ w ∈ u_ws RX5 TX5 16, w ∈ lw_tbl) w h, (by decide +kernel : ∀ w ∈ u_ws RX5 TX5 16, goodWord w = true) w h⟩
theorem inX6 : ∀ w ∈ u_ws RX6 TX6 11, w ∈ wU := fun w h => List.mem_filter.mpr ⟨(by decide +kernel : ∀ w ∈ u_ws RX6 TX6 11, w ∈ lw_tbl) w h, (by decide +kernel : ∀ w ∈ u_ws RX6 TX6 11, goodWord w = true) w h⟩
theorem inX7 : ∀ w ∈ u_ws RX7 TX7 5, w ∈ wU := fun w h => List.mem_filter.mpr ⟨(by decide +kernel : ∀ w ∈ u_ws RX7 TX7 5, w ∈ lw_tbl) w h, (by decide +kernel : ∀ w ∈ u_ws RX7 TX7 5, goodWord w = true) w h⟩
theorem inX8 : ∀ w ∈ u_ws RX8 TX8 17, w ∈ wU := fun w h => List.mem_filter.mpr ⟨(by decide +kernel : ∀ w ∈ u_ws RX8 TX8 17, w ∈ lw_tbl) w h, (by decide +kernel : ∀ w ∈ u_ws RX8 TX8 17, goodWord w = true) w h⟩
theorem inX9 : ∀ w ∈ u_ws RX9 TX9 9, w ∈ wU := fun w h => List.mem_filter.mpr ⟨(by decide +kernel : ∀ w ∈ u_ws RX9 TX9 9, w ∈ lw_tbl) w h, (by decide +kernel : ∀ w ∈ u_ws RX9 TX9 9, goodWord w = true) w h⟩
theorem inX11 : ∀ w ∈ u_ws RX11 TX11 14, w ∈ wU := fun w h => List.mem_filter.mpr ⟨(by decide +kernel : ∀ w ∈ u_ws RX11 TX11 14, w ∈ lw_tbl) w h, (by decide +kernel : ∀ w ∈ u_ws RX11 TX11 14, goodWord w = true) w h⟩
theorem inX12 : ∀ w ∈ u_ws RX12 TX12 46, w ∈ wU := fun w h => List.mem_filter.mpr ⟨(by decide +kernel : ∀ w ∈ u_ws RX12 TX12 46, w ∈ lw_tbl) w h, (by decide +kernel : ∀ w ∈ u_ws RX12 TX12 46, goodWord w = true) w h⟩
theorem wd_0 : (Cond.methodLink "SpineTables$Fraction" 1 ⟨"java/lang/Object", "<init>", "()V"⟩) ∈ wU := mU (tin_1 _ (List.mem_of_getElem? (i := 103) rfl)) rfl
theorem wd_1 : (Cond.instanceMethod ⟨"java/lang/Object", "<init>", "()V"⟩) ∈ wU := mU (tin_1 _ (List.mem_of_getElem? (i := 28) rfl)) rfl
theorem wd_2 : (Cond.fieldLink "SpineTables$Fraction" 7 "SpineTables$Fraction" "above" "J") ∈ wU := mU (tin_1 _ (List.mem_of_getElem? (i := 104) rfl)) rfl
theorem wd_3 : (Cond.fieldLink "SpineTables$Fraction" 13 "SpineTables$Fraction" "below" "J") ∈ wU := mU (tin_1 _ (List.mem_of_getElem? (i := 107) rfl)) rfl
theorem wd_4 : (Cond.methodLink "SpineTables$Reader" 3 ⟨"java/lang/Object", "<init>", "()V"⟩) ∈ wU := mU (tin_1 _ (List.mem_of_getElem? (i := 37) rfl)) rfl
theorem wd_5 : (Cond.fieldLink "SpineTables$Reader" 9 "SpineTables$Reader" "code" "I") ∈ wU := mU (tin_1 _ (List.mem_of_getElem? (i := 38) rfl)) rfl
theorem wd_6 : (Cond.fieldLink "SpineTables$Reader" 15 "SpineTables$Reader" "place" "I") ∈ wU := mU (tin_1 _ (List.mem_of_getElem? (i := 40) rfl)) rfl
theorem wd_7 : (Cond.fieldLink "SpineTables$Reader" 18 "SpineTables$Reader" "text" "[B") ∈ wU := mU (tin_1 _ (List.mem_of_getElem? (i := 42) rfl)) rfl
theorem wd_8 : (Cond.fieldLink "SpineTables$Reader" 22 "SpineTables$Reader" "size" "I") ∈ wU := mU (tin_1 _ (List.mem_of_getElem? (i := 43) rfl)) rfl
theorem wd_9 : (Cond.fieldLink "SpineTables$Reader" 25 "SpineTables$Reader" "into" "LSpineTables$Table;") ∈ wU := mU (tin_1 _ (List.mem_of_getElem? (i := 44) rfl)) rfl
theorem wd_10 : (Cond.fieldLink "SpineTables$Reader" 29 "SpineTables$Reader" "lineEnd" "I") ∈ wU := mU (tin_1 _ (List.mem_of_getElem? (i := 45) rfl)) rfl
theorem wd_11 : (Cond.fieldLink "SpineTables$Reader" 32 "SpineTables$Reader" "sort" "I") ∈ wU := mU (tin_1 _ (List.mem_of_getElem? (i := 46) rfl)) rfl
theorem wd_12 : (Cond.fieldLink "SpineTables$Reader" 35 "SpineTables$Reader" "tokens" "I") ∈ wU := mU (tin_1 _ (List.mem_of_getElem? (i := 47) rfl)) rfl
theorem wd_13 : (Cond.arrayClass .int) ∈ wU := mU (tin_1 _ (List.mem_of_getElem? (i := 91) rfl)) rfl
theorem wd_14 : (Cond.fieldLink "SpineTables$Reader" 38 "SpineTables$Reader" "starts" "[I") ∈ wU := mU (tin_1 _ (List.mem_of_getElem? (i := 48) rfl)) rfl
theorem wd_15 : (Cond.fieldLink "SpineTables$Reader" 42 "SpineTables$Reader" "ends" "[I") ∈ wU := mU (tin_1 _ (List.mem_of_getElem? (i := 49) rfl)) rfl
theorem wd_16 : (Cond.fieldLink "SpineTables$Reader" 45 "SpineTables$Reader" "acts" "[I") ∈ wU := mU (tin_1 _ (List.mem_of_getElem? (i := 50) rfl)) rfl
theorem wd_17 : (Cond.fieldLink "SpineTables$Reader" 48 "SpineTables$Reader" "firstJoin" "I") ∈ wU := mU (tin_1 _ (List.mem_of_getElem? (i := 51) rfl)) rfl
theorem wd_18 : (Cond.fieldLink "SpineTables$Reader" 51 "SpineTables$Reader" "latestJoin" "I") ∈ wU := mU (tin_1 _ (List.mem_of_getElem? (i := 52) rfl)) rfl
theorem wd_19 : (Cond.fieldLink "SpineTables$Reader" 54 "SpineTables$Reader" "swaps" "I") ∈ wU := mU (tin_1 _ (List.mem_of_getElem? (i := 53) rfl)) rfl
theorem wd_20 : (Cond.fieldLink "SpineTables$Reader" 57 "SpineTables$Reader" "adds" "I") ∈ wU := mU (tin_1 _ (List.mem_of_getElem? (i := 54) rfl)) rfl
theorem wd_21 : (Cond.fieldLink "SpineTables$Reader" 60 "SpineTables$Reader" "grown" "I") ∈ wU := mU (tin_1 _ (List.mem_of_getElem? (i := 55) rfl)) rfl
theorem wd_22 : (Cond.methodLink "SpineTables$Walker" 3 ⟨"java/lang/Object", "<init>", "()V"⟩) ∈ wU := mU (tin_1 _ (List.mem_of_getElem? (i := 97) rfl)) rfl
theorem wd_23 : (Cond.fieldLink "SpineTables$Walker" 9 "SpineTables$Walker" "endAbove" "[I") ∈ wU := mU (tin_1 _ (List.mem_of_getElem? (i := 115) rfl)) rfl
theorem wd_24 : (Cond.fieldLink "SpineTables$Walker" 15 "SpineTables$Walker" "endBelow" "[I") ∈ wU := mU (tin_1 _ (List.mem_of_getElem? (i := 116) rfl)) rfl
theorem wd_25 : (Cond.fieldLink "SpineTables$Walker" 18 "SpineTables$Walker" "oldAbove" "[I") ∈ wU := mU (tin_1 _ (List.mem_of_getElem? (i := 117) rfl)) rfl
theorem wd_26 : (Cond.fieldLink "SpineTables$Walker" 21 "SpineTables$Walker" "oldBelow" "[I") ∈ wU := mU (tin_1 _ (List.mem_of_getElem? (i := 118) rfl)) rfl
theorem wd_27 : (Cond.fieldLink "SpineTables$Walker" 24 "SpineTables$Walker" "from" "[I") ∈ wU := mU (tin_1 _ (List.mem_of_getElem? (i := 119) rfl)) rfl
theorem wd_28 : (Cond.classLink "SpineTables$Walker" 27 "SpineTables$Fraction") ∈ wU := mU (tin_1 _ (List.mem_of_getElem? (i := 98) rfl)) rfl
theorem wd_29 : (Cond.instantiable "SpineTables$Fraction" 2) ∈ wU := mU (tin_1 _ (List.mem_of_getElem? (i := 99) rfl)) rfl
theorem wd_30 : (Cond.initialized "SpineTables$Fraction") ∈ wU := mU (tin_1 _ (List.mem_of_getElem? (i := 4) rfl)) rfl
theorem wd_31 : (.code yX3_init cX3_init 1 none) ∈ wU := mU (tin_1 _ (List.mem_of_getElem? (i := 102) rfl)) rfl
theorem wd_32 : (Cond.instanceMethod yX3_init) ∈ wU := mU (tin_1 _ (List.mem_of_getElem? (i := 101) rfl)) rfl
theorem wd_33 : (Cond.fieldLink "SpineTables$Walker" 30 "SpineTables$Walker" "sum" "LSpineTables$Fraction;") ∈ wU := mU (tin_1 _ (List.mem_of_getElem? (i := 120) rfl)) rfl
theorem wd_34 : (Cond.fieldLink "SpineTables$Walker" 34 "SpineTables$Walker" "table" "LSpineTables$Table;") ∈ wU := mU (tin_1 _ (List.mem_of_getElem? (i := 121) rfl)) rfl
theorem wd_35 : (Cond.fieldLink "SpineTables$Walker" 38 "SpineTables$Walker" "nowAbove" "I") ∈ wU := mU (tin_1 _ (List.mem_of_getElem? (i := 122) rfl)) rfl
theorem wd_36 : (Cond.fieldLink "SpineTables$Walker" 42 "SpineTables$Walker" "nowBelow" "I") ∈ wU := mU (tin_1 _ (List.mem_of_getElem? (i := 123) rfl)) rfl
theorem wd_37 : (Cond.methodLink "SpineTables$Lengths" 3 ⟨"java/lang/Object", "<init>", "()V"⟩) ∈ wU := mU (tin_1 _ (List.mem_of_getElem? (i := 148) rfl)) rfl
theorem wd_38 : (Cond.fieldLink "SpineTables$Lengths" 9 "SpineTables$Lengths" "above" "I") ∈ wU := mU (tin_1 _ (List.mem_of_getElem? (i := 151) rfl)) rfl
theorem wd_39 : (Cond.fieldLink "SpineTables$Lengths" 15 "SpineTables$Lengths" "below" "I") ∈ wU := mU (tin_1 _ (List.mem_of_getElem? (i := 153) rfl)) rfl
theorem wd_40 : (Cond.classLink "SpineTables$Lengths" 18 "SpineTables$Fraction") ∈ wU := mU (tin_1 _ (List.mem_of_getElem? (i := 149) rfl)) rfl
theorem wd_41 : (Cond.fieldLink "SpineTables$Lengths" 21 "SpineTables$Lengths" "value" "LSpineTables$Fraction;") ∈ wU := mU (tin_1 _ (List.mem_of_getElem? (i := 155) rfl)) rfl
theorem wd_42 : (Cond.fieldLink "SpineTables$Lengths" 25 "SpineTables$Lengths" "text" "[B") ∈ wU := mU (tin_1 _ (List.mem_of_getElem? (i := 156) rfl)) rfl
theorem wd_43 : (Cond.fieldLink "SpineTables$Lengths" 29 "SpineTables$Lengths" "at" "I") ∈ wU := mU (tin_1 _ (List.mem_of_getElem? (i := 157) rfl)) rfl
theorem wd_44 : (Cond.fieldLink "SpineTables$Lengths" 32 "SpineTables$Lengths" "end" "I") ∈ wU := mU (tin_1 _ (List.mem_of_getElem? (i := 158) rfl)) rfl
theorem wd_45 : (Cond.methodLink "SpineTables$Side" 3 ⟨"java/lang/Object", "<init>", "()V"⟩) ∈ wU := mU (tin_1 _ (List.mem_of_getElem? (i := 183) rfl)) rfl
theorem wd_46 : (Cond.fieldLink "SpineTables$Side" 9 "SpineTables$Side" "table" "LSpineTables$Table;") ∈ wU := mU (tin_1 _ (List.mem_of_getElem? (i := 184) rfl)) rfl
theorem wd_47 : (Cond.fieldLink "SpineTables$Side" 15 "SpineTables$Side" "next" "I") ∈ wU := mU (tin_1 _ (List.mem_of_getElem? (i := 186) rfl)) rfl
theorem wd_48 : (Cond.fieldLink "SpineTables$Side" 19 "SpineTables$Side" "strands" "I") ∈ wU := mU (tin_1 _ (List.mem_of_getElem? (i := 188) rfl)) rfl
theorem wd_49 : (Cond.fieldLink "SpineTables$Side" 22 "SpineTables$Side" "isUrgent" "Z") ∈ wU := mU (tin_1 _ (List.mem_of_getElem? (i := 190) rfl)) rfl
theorem wd_50 : (Cond.fieldLink "SpineTables$Side" 26 "SpineTables$Side" "from" "[I") ∈ wU := mU (tin_1 _ (List.mem_of_getElem? (i := 192) rfl)) rfl
theorem wd_51 : (Cond.methodLink "SpineTables$Assembler" 3 ⟨"java/lang/Object", "<init>", "()V"⟩) ∈ wU := mU (tin_1 _ (List.mem_of_getElem? (i := 177) rfl)) rfl
theorem wd_52 : (Cond.classLink "SpineTables$Assembler" 9 "SpineTables$Side") ∈ wU := mU (tin_1 _ (List.mem_of_getElem? (i := 178) rfl)) rfl
theorem wd_53 : (Cond.instantiable "SpineTables$Side" 5) ∈ wU := mU (tin_1 _ (List.mem_of_getElem? (i := 179) rfl)) rfl
theorem wd_54 : (Cond.initialized "SpineTables$Side") ∈ wU := mU (tin_1 _ (List.mem_of_getElem? (i := 7) rfl)) rfl
theorem wd_55 : (.code yX7_init cX7_init 1 none) ∈ wU := mU (tin_1 _ (List.mem_of_getElem? (i := 182) rfl)) rfl
theorem wd_56 : (Cond.instanceMethod yX7_init) ∈ wU := mU (tin_1 _ (List.mem_of_getElem? (i := 181) rfl)) rfl
theorem wd_57 : (Cond.fieldLink "SpineTables$Assembler" 12 "SpineTables$Assembler" "left" "LSpineTables$Side;") ∈ wU := mU (tin_1 _ (List.mem_of_getElem? (i := 204) rfl)) rfl
theorem wd_58 : (Cond.fieldLink "SpineTables$Assembler" 18 "SpineTables$Assembler" "right" "LSpineTables$Side;") ∈ wU := mU (tin_1 _ (List.mem_of_getElem? (i := 205) rfl)) rfl
theorem wd_59 : (Cond.fieldLink "SpineTables$Assembler" 21 "SpineTables$Assembler" "into" "LSpineTables$Rows;") ∈ wU := mU (tin_1 _ (List.mem_of_getElem? (i := 206) rfl)) rfl
theorem wd_60 : (Cond.methodLink "SpineTables$Extractor" 3 ⟨"java/lang/Object", "<init>", "()V"⟩) ∈ wU := mU (tin_1 _ (List.mem_of_getElem? (i := 219) rfl)) rfl
theorem wd_61 : (Cond.fieldLink "SpineTables$Extractor" 9 "SpineTables$Extractor" "from" "[I") ∈ wU := mU (tin_1 _ (List.mem_of_getElem? (i := 220) rfl)) rfl
theorem wd_62 : (Cond.methodLink "SpineTables$BarCheck" 3 ⟨"java/lang/Object", "<init>", "()V"⟩) ∈ wU := mU (tin_1 _ (List.mem_of_getElem? (i := 229) rfl)) rfl
theorem wd_63 : (Cond.classLink "SpineTables$BarCheck" 9 "SpineTables$Fraction") ∈ wU := mU (tin_1 _ (List.mem_of_getElem? (i := 230) rfl)) rfl
theorem wd_64 : (Cond.fieldLink "SpineTables$BarCheck" 12 "SpineTables$BarCheck" "gap" "LSpineTables$Fraction;") ∈ wU := mU (tin_1 _ (List.mem_of_getElem? (i := 232) rfl)) rfl
theorem wd_65 : (Cond.fieldLink "SpineTables$BarCheck" 18 "SpineTables$BarCheck" "meterAbove" "I") ∈ wU := mU (tin_1 _ (List.mem_of_getElem? (i := 233) rfl)) rfl
theorem wd_66 : (Cond.fieldLink "SpineTables$BarCheck" 22 "SpineTables$BarCheck" "meterBelow" "I") ∈ wU := mU (tin_1 _ (List.mem_of_getElem? (i := 234) rfl)) rfl
theorem wd_67 : (Cond.fieldLink "SpineTables$BarCheck" 25 "SpineTables$BarCheck" "dueAbove" "I") ∈ wU := mU (tin_1 _ (List.mem_of_getElem? (i := 235) rfl)) rfl
theorem wd_68 : (Cond.fieldLink "SpineTables$BarCheck" 28 "SpineTables$BarCheck" "dueBelow" "I") ∈ wU := mU (tin_1 _ (List.mem_of_getElem? (i := 236) rfl)) rfl
theorem wd_69 : (Cond.methodLink "SpineTables$Rows" 3 ⟨"java/lang/Object", "<init>", "()V"⟩) ∈ wU := mU (tin_2 _ (List.mem_of_getElem? (i := 85) rfl)) rfl
theorem wd_70 : (Cond.arrayClass .byte) ∈ wU := mU (tin_1 _ (List.mem_of_getElem? (i := 89) rfl)) rfl
theorem wd_71 : (Cond.fieldLink "SpineTables$Rows" 9 "SpineTables$Rows" "text" "[B") ∈ wU := mU (tin_2 _ (List.mem_of_getElem? (i := 86) rfl)) rfl
theorem wd_72 : (Cond.fieldLink "SpineTables$Rows" 15 "SpineTables$Rows" "starts" "[I") ∈ wU := mU (tin_2 _ (List.mem_of_getElem? (i := 91) rfl)) rfl
theorem wd_73 : (Cond.fieldLink "SpineTables$Rows" 19 "SpineTables$Rows" "sorts" "[I") ∈ wU := mU (tin_2 _ (List.mem_of_getElem? (i := 92) rfl)) rfl
theorem wd_74 : (Cond.fieldLink "SpineTables$Rows" 22 "SpineTables$Rows" "firsts" "[I") ∈ wU := mU (tin_2 _ (List.mem_of_getElem? (i := 93) rfl)) rfl
theorem wd_75 : (Cond.fieldLink "SpineTables$Rows" 25 "SpineTables$Rows" "tokenStarts" "[I") ∈ wU := mU (tin_2 _ (List.mem_of_getElem? (i := 94) rfl)) rfl
theorem wd_76 : (Cond.fieldLink "SpineTables$Rows" 28 "SpineTables$Rows" "tokenEnds" "[I") ∈ wU := mU (tin_2 _ (List.mem_of_getElem? (i := 95) rfl)) rfl
theorem wd_77 : (Cond.fieldLink "SpineTables$Rows" 31 "SpineTables$Rows" "acts" "[I") ∈ wU := mU (tin_2 _ (List.mem_of_getElem? (i := 96) rfl)) rfl
theorem wd_78 : (Cond.fieldLink "SpineTables$Rows" 34 "SpineTables$Rows" "size" "I") ∈ wU := mU (tin_2 _ (List.mem_of_getElem? (i := 97) rfl)) rfl
theorem wd_79 : (Cond.fieldLink "SpineTables$Rows" 38 "SpineTables$Rows" "count" "I") ∈ wU := mU (tin_2 _ (List.mem_of_getElem? (i := 99) rfl)) rfl
theorem wd_80 : (Cond.fieldLink "SpineTables$Rows" 41 "SpineTables$Rows" "tokens" "I") ∈ wU := mU (tin_2 _ (List.mem_of_getElem? (i := 107) rfl)) rfl
theorem wd_81 : (Cond.fieldLink "SpineTables$Rows" 44 "SpineTables$Rows" "overfull" "Z") ∈ wU := mU (tin_2 _ (List.mem_of_getElem? (i := 108) rfl)) rfl
theorem wd_82 : (Cond.methodLink "SpineTables$Table" 3 ⟨"java/lang/Object", "<init>", "()V"⟩) ∈ wU := mU (tin_2 _ (List.mem_of_getElem? (i := 79) rfl)) rfl
theorem wd_83 : (Cond.classLink "SpineTables$Table" 9 "SpineTables$Rows") ∈ wU := mU (tin_2 _ (List.mem_of_getElem? (i := 80) rfl)) rfl
theorem wd_84 : (Cond.instantiable "SpineTables$Rows" 11) ∈ wU := mU (tin_2 _ (List.mem_of_getElem? (i := 81) rfl)) rfl
theorem wd_85 : (Cond.initialized "SpineTables$Rows") ∈ wU := mU (tin_1 _ (List.mem_of_getElem? (i := 12) rfl)) rfl
theorem wd_86 : (.code yX6_init cX6_init 1 none) ∈ wU := mU (tin_2 _ (List.mem_of_getElem? (i := 84) rfl)) rfl
theorem wd_87 : (Cond.instanceMethod yX6_init) ∈ wU := mU (tin_2 _ (List.mem_of_getElem? (i := 83) rfl)) rfl
theorem wd_88 : (Cond.fieldLink "SpineTables$Table" 12 "SpineTables$Table" "rows" "LSpineTables$Rows;") ∈ wU := mU (tin_2 _ (List.mem_of_getElem? (i := 134) rfl)) rfl
theorem wd_89 : (Cond.fieldLink "SpineTables$Table" 18 "SpineTables$Table" "tokenKinds" "[I") ∈ wU := mU (tin_2 _ (List.mem_of_getElem? (i := 143) rfl)) rfl
theorem wd_90 : (Cond.fieldLink "SpineTables$Table" 22 "SpineTables$Table" "tokenNumbers" "[I") ∈ wU := mU (tin_2 _ (List.mem_of_getElem? (i := 144) rfl)) rfl
theorem wd_91 : (Cond.fieldLink "SpineTables$Table" 25 "SpineTables$Table" "tokenHelds" "[I") ∈ wU := mU (tin_2 _ (List.mem_of_getElem? (i := 145) rfl)) rfl
theorem wd_92 : (Cond.fieldLink "SpineTables$Table" 28 "SpineTables$Table" "lengthsAbove" "[I") ∈ wU := mU (tin_2 _ (List.mem_of_getElem? (i := 146) rfl)) rfl
theorem wd_93 : (Cond.fieldLink "SpineTables$Table" 31 "SpineTables$Table" "lengthsBelow" "[I") ∈ wU := mU (tin_2 _ (List.mem_of_getElem? (i := 147) rfl)) rfl
theorem wd_94 : (Cond.fieldLink "SpineTables$Table" 34 "SpineTables$Table" "kindTokens" "[I") ∈ wU := mU (tin_2 _ (List.mem_of_getElem? (i := 148) rfl)) rfl
theorem wd_95 : (Cond.fieldLink "SpineTables$Table" 37 "SpineTables$Table" "kindRhythms" "[I") ∈ wU := mU (tin_2 _ (List.mem_of_getElem? (i := 149) rfl)) rfl
theorem wd_96 : (Cond.fieldLink "SpineTables$Table" 40 "SpineTables$Table" "kinds" "I") ∈ wU := mU (tin_2 _ (List.mem_of_getElem? (i := 150) rfl)) rfl
theorem wd_97 : (Cond.fieldLink "SpineTables$Table" 44 "SpineTables$Table" "numbers" "I") ∈ wU := mU (tin_2 _ (List.mem_of_getElem? (i := 152) rfl)) rfl
theorem wd_98 : (Cond.fieldLink "SpineTables$Table" 47 "SpineTables$Table" "latest" "I") ∈ wU := mU (tin_2 _ (List.mem_of_getElem? (i := 153) rfl)) rfl
theorem wd_99 : (Cond.fieldLink "SpineTables$Table" 50 "SpineTables$Table" "strands" "I") ∈ wU := mU (tin_2 _ (List.mem_of_getElem? (i := 155) rfl)) rfl
theorem wd_100 : (Cond.fieldLink "SpineTables$Table" 53 "SpineTables$Table" "sources" "[I") ∈ wU := mU (tin_2 _ (List.mem_of_getElem? (i := 157) rfl)) rfl
theorem wd_101 : (Cond.fieldLink "SpineTables$Table" 56 "SpineTables$Table" "timesAbove" "[I") ∈ wU := mU (tin_2 _ (List.mem_of_getElem? (i := 158) rfl)) rfl
theorem wd_102 : (Cond.fieldLink "SpineTables$Table" 59 "SpineTables$Table" "timesBelow" "[I") ∈ wU := mU (tin_2 _ (List.mem_of_getElem? (i := 159) rfl)) rfl
theorem wd_103 : (Cond.fieldLink "SpineTables$Table" 62 "SpineTables$Table" "misfitRow" "I") ∈ wU := mU (tin_2 _ (List.mem_of_getElem? (i := 160) rfl)) rfl
theorem wd_104 : (Cond.fieldLink "SpineTables$Table" 65 "SpineTables$Table" "misfitCode" "I") ∈ wU := mU (tin_2 _ (List.mem_of_getElem? (i := 163) rfl)) rfl
theorem wd_105 : (Cond.methodLink "SpineTables" 1 ⟨"java/lang/Object", "<init>", "()V"⟩) ∈ wU := mU (tin_1 _ (List.mem_of_getElem? (i := 27) rfl)) rfl
theorem wd_106 : (Cond.fieldLink "SpineTables" 9 "SpineTables" "tape" "[B") ∈ wU := mU (tin_2 _ (List.mem_of_getElem? (i := 8) rfl)) rfl
theorem wd_107 : (Cond.fieldLink "SpineTables" 13 "SpineTables" "tapeSize" "I") ∈ wU := mU (tin_2 _ (List.mem_of_getElem? (i := 9) rfl)) rfl
theorem wd_108 : (Cond.fieldLink "SpineTables" 17 "SpineTables" "written" "[B") ∈ wU := mU (tin_2 _ (List.mem_of_getElem? (i := 10) rfl)) rfl
theorem wd_109 : (Cond.fieldLink "SpineTables" 20 "SpineTables" "writtenSize" "I") ∈ wU := mU (tin_2 _ (List.mem_of_getElem? (i := 11) rfl)) rfl
theorem wd_110 : (Cond.fieldLink "SpineTables" 23 "SpineTables" "faultCode" "I") ∈ wU := mU (tin_2 _ (List.mem_of_getElem? (i := 12) rfl)) rfl
theorem wd_111 : (Cond.classLink "SpineTables" 26 "SpineTables$Table") ∈ wU := mU (tin_1 _ (List.mem_of_getElem? (i := 30) rfl)) rfl
theorem wd_112 : (Cond.fieldLink "SpineTables" 28 "SpineTables" "tables" "[LSpineTables$Table;") ∈ wU := mU (tin_2 _ (List.mem_of_getElem? (i := 13) rfl)) rfl
theorem wd_113 : (Cond.arrayClass .boolean) ∈ wU := mU (tin_1 _ (List.mem_of_getElem? (i := 90) rfl)) rfl
theorem wd_114 : (Cond.fieldLink "SpineTables" 32 "SpineTables" "taken" "[Z") ∈ wU := mU (tin_2 _ (List.mem_of_getElem? (i := 14) rfl)) rfl
theorem wd_115 : (Cond.fieldLink "SpineTables" 36 "SpineTables" "bench" "LSpineTables$Table;") ∈ wU := mU (tin_2 _ (List.mem_of_getElem? (i := 15) rfl)) rfl
theorem wd_116 : (Cond.classLink "SpineTables" 40 "SpineTables$Reader") ∈ wU := mU (tin_1 _ (List.mem_of_getElem? (i := 32) rfl)) rfl
theorem wd_117 : (Cond.instantiable "SpineTables$Reader" 16) ∈ wU := mU (tin_1 _ (List.mem_of_getElem? (i := 33) rfl)) rfl
theorem wd_118 : (Cond.initialized "SpineTables$Reader") ∈ wU := mU (tin_1 _ (List.mem_of_getElem? (i := 2) rfl)) rfl
theorem wd_119 : (.code yX5_init cX5_init 1 none) ∈ wU := mU (tin_1 _ (List.mem_of_getElem? (i := 36) rfl)) rfl
theorem wd_120 : (Cond.instanceMethod yX5_init) ∈ wU := mU (tin_1 _ (List.mem_of_getElem? (i := 35) rfl)) rfl
theorem wd_121 : (Cond.fieldLink "SpineTables" 43 "SpineTables" "reader" "LSpineTables$Reader;") ∈ wU := mU (tin_2 _ (List.mem_of_getElem? (i := 16) rfl)) rfl
theorem wd_122 : (Cond.classLink "SpineTables" 47 "SpineTables$Walker") ∈ wU := mU (tin_1 _ (List.mem_of_getElem? (i := 92) rfl)) rfl
theorem wd_123 : (Cond.instantiable "SpineTables$Walker" 9) ∈ wU := mU (tin_1 _ (List.mem_of_getElem? (i := 93) rfl)) rfl
theorem wd_124 : (Cond.initialized "SpineTables$Walker") ∈ wU := mU (tin_1 _ (List.mem_of_getElem? (i := 3) rfl)) rfl
theorem wd_125 : (.code yX9_init cX9_init 1 none) ∈ wU := mU (tin_1 _ (List.mem_of_getElem? (i := 96) rfl)) rfl
theorem wd_126 : (Cond.instanceMethod yX9_init) ∈ wU := mU (tin_1 _ (List.mem_of_getElem? (i := 95) rfl)) rfl
theorem wd_127 : (Cond.fieldLink "SpineTables" 50 "SpineTables" "walker" "LSpineTables$Walker;") ∈ wU := mU (tin_2 _ (List.mem_of_getElem? (i := 17) rfl)) rfl
theorem wd_128 : (Cond.classLink "SpineTables" 54 "SpineTables$Lengths") ∈ wU := mU (tin_1 _ (List.mem_of_getElem? (i := 143) rfl)) rfl
theorem wd_129 : (Cond.instantiable "SpineTables$Lengths" 6) ∈ wU := mU (tin_1 _ (List.mem_of_getElem? (i := 144) rfl)) rfl
theorem wd_130 : (Cond.initialized "SpineTables$Lengths") ∈ wU := mU (tin_1 _ (List.mem_of_getElem? (i := 5) rfl)) rfl
theorem wd_131 : (.code yX4_init cX4_init 1 none) ∈ wU := mU (tin_1 _ (List.mem_of_getElem? (i := 147) rfl)) rfl
theorem wd_132 : (Cond.instanceMethod yX4_init) ∈ wU := mU (tin_1 _ (List.mem_of_getElem? (i := 146) rfl)) rfl
theorem wd_133 : (Cond.fieldLink "SpineTables" 57 "SpineTables" "lengths" "LSpineTables$Lengths;") ∈ wU := mU (tin_2 _ (List.mem_of_getElem? (i := 18) rfl)) rfl
theorem wd_134 : (Cond.classLink "SpineTables" 61 "SpineTables$Assembler") ∈ wU := mU (tin_1 _ (List.mem_of_getElem? (i := 172) rfl)) rfl
theorem wd_135 : (Cond.instantiable "SpineTables$Assembler" 3) ∈ wU := mU (tin_1 _ (List.mem_of_getElem? (i := 173) rfl)) rfl
theorem wd_136 : (Cond.initialized "SpineTables$Assembler") ∈ wU := mU (tin_1 _ (List.mem_of_getElem? (i := 6) rfl)) rfl
theorem wd_137 : (.code yX0_init cX0_init 1 none) ∈ wU := mU (tin_1 _ (List.mem_of_getElem? (i := 176) rfl)) rfl
theorem wd_138 : (Cond.instanceMethod yX0_init) ∈ wU := mU (tin_1 _ (List.mem_of_getElem? (i := 175) rfl)) rfl
theorem wd_139 : (Cond.fieldLink "SpineTables" 64 "SpineTables" "assembler" "LSpineTables$Assembler;") ∈ wU := mU (tin_2 _ (List.mem_of_getElem? (i := 19) rfl)) rfl
theorem wd_140 : (Cond.classLink "SpineTables" 68 "SpineTables$Extractor") ∈ wU := mU (tin_1 _ (List.mem_of_getElem? (i := 214) rfl)) rfl
theorem wd_141 : (Cond.instantiable "SpineTables$Extractor" 1) ∈ wU := mU (tin_1 _ (List.mem_of_getElem? (i := 215) rfl)) rfl
theorem wd_142 : (Cond.initialized "SpineTables$Extractor") ∈ wU := mU (tin_1 _ (List.mem_of_getElem? (i := 8) rfl)) rfl
theorem wd_143 : (.code yX2_init cX2_init 1 none) ∈ wU := mU (tin_1 _ (List.mem_of_getElem? (i := 218) rfl)) rfl
theorem wd_144 : (Cond.instanceMethod yX2_init) ∈ wU := mU (tin_1 _ (List.mem_of_getElem? (i := 217) rfl)) rfl
theorem wd_145 : (Cond.fieldLink "SpineTables" 71 "SpineTables" "extractor" "LSpineTables$Extractor;") ∈ wU := mU (tin_2 _ (List.mem_of_getElem? (i := 20) rfl)) rfl
theorem wd_146 : (Cond.classLink "SpineTables" 75 "SpineTables$BarCheck") ∈ wU := mU (tin_1 _ (List.mem_of_getElem? (i := 224) rfl)) rfl
theorem wd_147 : (Cond.instantiable "SpineTables$BarCheck" 5) ∈ wU := mU (tin_1 _ (List.mem_of_getElem? (i := 225) rfl)) rfl
theorem wd_148 : (Cond.initialized "SpineTables$BarCheck") ∈ wU := mU (tin_1 _ (List.mem_of_getElem? (i := 9) rfl)) rfl
theorem wd_149 : (.code yX1_init cX1_init 1 none) ∈ wU := mU (tin_1 _ (List.mem_of_getElem? (i := 228) rfl)) rfl
theorem wd_150 : (Cond.instanceMethod yX1_init) ∈ wU := mU (tin_1 _ (List.mem_of_getElem? (i := 227) rfl)) rfl
theorem wd_151 : (Cond.fieldLink "SpineTables" 78 "SpineTables" "barCheck" "LSpineTables$BarCheck;") ∈ wU := mU (tin_2 _ (List.mem_of_getElem? (i := 21) rfl)) rfl
theorem wd_152 : (Cond.methodLink "SpineTablesModel" 1 ⟨"java/lang/Object", "<init>", "()V"⟩) ∈ wU := mU (tin_6 _ (List.mem_of_getElem? (i := 122) rfl)) rfl
theorem wd_153 : (Cond.fieldLink "SpineTablesModel" 7 "SpineTablesModel" "tape" "[I") ∈ wU := mU (tin_6 _ (List.mem_of_getElem? (i := 124) rfl)) rfl
theorem wd_154 : (Cond.fieldLink "SpineTablesModel" 13 "SpineTablesModel" "out" "[I") ∈ wU := mU (tin_6 _ (List.mem_of_getElem? (i := 129) rfl)) rfl
theorem wd_155 : (Cond.fieldLink "SpineTablesModel" 16 "SpineTablesModel" "used" "[Z") ∈ wU := mU (tin_6 _ (List.mem_of_getElem? (i := 131) rfl)) rfl
theorem wd_156 : (Cond.fieldLink "SpineTablesModel" 20 "SpineTablesModel" "text" "[I") ∈ wU := mU (tin_6 _ (List.mem_of_getElem? (i := 132) rfl)) rfl
theorem wd_157 : (Cond.fieldLink "SpineTablesModel" 23 "SpineTablesModel" "sizes" "[I") ∈ wU := mU (tin_6 _ (List.mem_of_getElem? (i := 133) rfl)) rfl
theorem wd_158 : (Cond.fieldLink "SpineTablesModel" 26 "SpineTablesModel" "rows" "[I") ∈ wU := mU (tin_6 _ (List.mem_of_getElem? (i := 134) rfl)) rfl
theorem wd_159 : (Cond.fieldLink "SpineTablesModel" 29 "SpineTablesModel" "kinds" "[I") ∈ wU := mU (tin_6 _ (List.mem_of_getElem? (i := 135) rfl)) rfl
theorem wd_160 : (Cond.arrayClass .long) ∈ wU := mU (tin_7 _ (List.mem_of_getElem? (i := 22) rfl)) rfl
theorem wd_161 : (Cond.fieldLink "SpineTablesModel" 32 "SpineTablesModel" "names" "[J") ∈ wU := mU (tin_6 _ (List.mem_of_getElem? (i := 136) rfl)) rfl
theorem wd_162 : (Cond.fieldLink "SpineTablesModel" 36 "SpineTablesModel" "numbers" "[I") ∈ wU := mU (tin_6 _ (List.mem_of_getElem? (i := 137) rfl)) rfl
theorem wd_163 : (Cond.fieldLink "SpineTablesModel" 39 "SpineTablesModel" "kindOf" "[I") ∈ wU := mU (tin_6 _ (List.mem_of_getElem? (i := 138) rfl)) rfl
theorem wd_164 : (Cond.fieldLink "SpineTablesModel" 42 "SpineTablesModel" "makerKind" "[I") ∈ wU := mU (tin_6 _ (List.mem_of_getElem? (i := 139) rfl)) rfl
theorem wd_165 : (Cond.fieldLink "SpineTablesModel" 45 "SpineTablesModel" "sorts" "[I") ∈ wU := mU (tin_6 _ (List.mem_of_getElem? (i := 140) rfl)) rfl
theorem wd_166 : (Cond.fieldLink "SpineTablesModel" 48 "SpineTablesModel" "starts" "[I") ∈ wU := mU (tin_6 _ (List.mem_of_getElem? (i := 141) rfl)) rfl
theorem wd_167 : (Cond.fieldLink "SpineTablesModel" 51 "SpineTablesModel" "stops" "[I") ∈ wU := mU (tin_6 _ (List.mem_of_getElem? (i := 142) rfl)) rfl
theorem wd_168 : (Cond.fieldLink "SpineTablesModel" 54 "SpineTablesModel" "widths" "[I") ∈ wU := mU (tin_6 _ (List.mem_of_getElem? (i := 143) rfl)) rfl
theorem wd_169 : (Cond.fieldLink "SpineTablesModel" 57 "SpineTablesModel" "young" "[I") ∈ wU := mU (tin_6 _ (List.mem_of_getElem? (i := 144) rfl)) rfl
theorem wd_170 : (Cond.fieldLink "SpineTablesModel" 60 "SpineTablesModel" "ups" "[J") ∈ wU := mU (tin_6 _ (List.mem_of_getElem? (i := 145) rfl)) rfl
theorem wd_171 : (Cond.fieldLink "SpineTablesModel" 63 "SpineTablesModel" "downs" "[J") ∈ wU := mU (tin_6 _ (List.mem_of_getElem? (i := 146) rfl)) rfl
theorem wd_172 : (Cond.fieldLink "SpineTablesModel" 66 "SpineTablesModel" "tokenAt" "[I") ∈ wU := mU (tin_6 _ (List.mem_of_getElem? (i := 147) rfl)) rfl
theorem wd_173 : (Cond.fieldLink "SpineTablesModel" 69 "SpineTablesModel" "tokenEnd" "[I") ∈ wU := mU (tin_6 _ (List.mem_of_getElem? (i := 148) rfl)) rfl
theorem wd_174 : (Cond.fieldLink "SpineTablesModel" 72 "SpineTablesModel" "strand" "[I") ∈ wU := mU (tin_6 _ (List.mem_of_getElem? (i := 149) rfl)) rfl
theorem wd_175 : (Cond.fieldLink "SpineTablesModel" 75 "SpineTablesModel" "held" "[I") ∈ wU := mU (tin_6 _ (List.mem_of_getElem? (i := 150) rfl)) rfl
theorem wd_176 : (Cond.fieldLink "SpineTablesModel" 78 "SpineTablesModel" "misfits" "[I") ∈ wU := mU (tin_6 _ (List.mem_of_getElem? (i := 151) rfl)) rfl
theorem wd_177 : (Cond.fieldLink "SpineTablesModel" 81 "SpineTablesModel" "misfitRows" "[I") ∈ wU := mU (tin_6 _ (List.mem_of_getElem? (i := 152) rfl)) rfl
theorem wd_178 : (Cond.fieldLink "SpineTablesModel" 84 "SpineTablesModel" "nowStrand" "[I") ∈ wU := mU (tin_6 _ (List.mem_of_getElem? (i := 154) rfl)) rfl
theorem wd_179 : (Cond.fieldLink "SpineTablesModel" 87 "SpineTablesModel" "nowHeld" "[I") ∈ wU := mU (tin_6 _ (List.mem_of_getElem? (i := 155) rfl)) rfl
theorem wd_180 : (Cond.fieldLink "SpineTablesModel" 90 "SpineTablesModel" "nowUp" "[J") ∈ wU := mU (tin_6 _ (List.mem_of_getElem? (i := 156) rfl)) rfl
theorem wd_181 : (Cond.fieldLink "SpineTablesModel" 93 "SpineTablesModel" "nowDown" "[J") ∈ wU := mU (tin_6 _ (List.mem_of_getElem? (i := 157) rfl)) rfl
theorem wd_182 : (Cond.fieldLink "SpineTablesModel" 96 "SpineTablesModel" "thenStrand" "[I") ∈ wU := mU (tin_6 _ (List.mem_of_getElem? (i := 159) rfl)) rfl
theorem wd_183 : (Cond.fieldLink "SpineTablesModel" 99 "SpineTablesModel" "thenHeld" "[I") ∈ wU := mU (tin_6 _ (List.mem_of_getElem? (i := 160) rfl)) rfl
theorem wd_184 : (Cond.fieldLink "SpineTablesModel" 102 "SpineTablesModel" "thenUp" "[J") ∈ wU := mU (tin_6 _ (List.mem_of_getElem? (i := 161) rfl)) rfl
theorem wd_185 : (Cond.fieldLink "SpineTablesModel" 105 "SpineTablesModel" "thenDown" "[J") ∈ wU := mU (tin_6 _ (List.mem_of_getElem? (i := 162) rfl)) rfl
theorem wd_186 : (Cond.fieldLink "SpineTablesModel" 108 "SpineTablesModel" "made" "[I") ∈ wU := mU (tin_6 _ (List.mem_of_getElem? (i := 166) rfl)) rfl
theorem wd_187 : (.code yX11_feedNumber cX11_feedNumber 3 none) ∈ wU := mU (tin_2 _ (List.mem_of_getElem? (i := 58) rfl)) rfl
theorem wd_188 : (Cond.selects "SpineTables" yX11_feedNumber yX11_feedNumber) ∈ wU := mU (tin_0 _ (List.mem_of_getElem? (i := 0) rfl)) rfl
theorem wd_189 : (Cond.methodLink "SpineTables" 82 yX11_feedNumber) ∈ wU := mU (tin_2 _ (List.mem_of_getElem? (i := 55) rfl)) rfl
theorem wd_190 : (Cond.instanceMethod yX11_feedNumber) ∈ wU := mU (tin_2 _ (List.mem_of_getElem? (i := 57) rfl)) rfl
theorem wd_191 : (Cond.initialized "SpineTables") ∈ wU := mU (tin_1 _ (List.mem_of_getElem? (i := 1) rfl)) rfl
theorem wd_192 : (Cond.classLink "SpineTables" 177 "java/lang/IndexOutOfBoundsException") ∈ wU := mU (tin_4 _ (List.mem_of_getElem? (i := 144) rfl)) rfl
theorem wd_193 : (Cond.initialized "java/lang/IndexOutOfBoundsException") ∈ wU := mU (tin_1 _ (List.mem_of_getElem? (i := 19) rfl)) rfl
theorem wd_194 : (.code yX11_tableAt cX11_tableAt 3 (some (.object "SpineTables$Table"))) ∈ wU := mU (tin_4 _ (List.mem_of_getElem? (i := 143) rfl)) rfl
theorem wd_195 : (Cond.selects "SpineTables" yX11_tableAt yX11_tableAt) ∈ wU := mU (tin_0 _ (List.mem_of_getElem? (i := 51) rfl)) rfl
theorem wd_196 : (Cond.methodLink "SpineTables" 115 yX11_tableAt) ∈ wU := mU (tin_4 _ (List.mem_of_getElem? (i := 140) rfl)) rfl
theorem wd_197 : (Cond.instanceMethod yX11_tableAt) ∈ wU := mU (tin_4 _ (List.mem_of_getElem? (i := 142) rfl)) rfl
theorem wd_198 : (.code yX11_drop cX11_drop 3 (some .int)) ∈ wU := mU (tin_4 _ (List.mem_of_getElem? (i := 139) rfl)) rfl
theorem wd_199 : (Cond.selects "SpineTables" yX11_drop yX11_drop) ∈ wU := mU (tin_4 _ (List.mem_of_getElem? (i := 138) rfl)) rfl
theorem wd_200 : (Cond.methodLink "SpineTablesLaw" 7 yX11_drop) ∈ wU := mU (tin_4 _ (List.mem_of_getElem? (i := 136) rfl)) rfl
theorem wd_201 : (Cond.instanceMethod yX11_drop) ∈ wU := mU (tin_4 _ (List.mem_of_getElem? (i := 137) rfl)) rfl
theorem wd_202 : (Cond.classLink "SpineTablesLaw" 13 "java/lang/IndexOutOfBoundsException") ∈ wU := mU (tin_4 _ (List.mem_of_getElem? (i := 135) rfl)) rfl
theorem wd_203 : (.code yX11_told cX11_told 4 (some .int)) ∈ wU := mU (tin_4 _ (List.mem_of_getElem? (i := 218) rfl)) rfl
theorem wd_204 : (Cond.selects "SpineTables" yX11_told yX11_told) ∈ wU := mU (tin_4 _ (List.mem_of_getElem? (i := 217) rfl)) rfl
theorem wd_205 : (Cond.methodLink "SpineTablesLaw" 15 yX11_told) ∈ wU := mU (tin_4 _ (List.mem_of_getElem? (i := 215) rfl)) rfl
theorem wd_206 : (Cond.instanceMethod yX11_told) ∈ wU := mU (tin_4 _ (List.mem_of_getElem? (i := 216) rfl)) rfl
theorem wd_207 : (.code yX11_row cX11_row 5 (some .int)) ∈ wU := mU (tin_5 _ (List.mem_of_getElem? (i := 9) rfl)) rfl
theorem wd_208 : (Cond.selects "SpineTables" yX11_row yX11_row) ∈ wU := mU (tin_5 _ (List.mem_of_getElem? (i := 8) rfl)) rfl
theorem wd_209 : (Cond.methodLink "SpineTablesLaw" 21 yX11_row) ∈ wU := mU (tin_5 _ (List.mem_of_getElem? (i := 6) rfl)) rfl
theorem wd_210 : (Cond.instanceMethod yX11_row) ∈ wU := mU (tin_5 _ (List.mem_of_getElem? (i := 7) rfl)) rfl
theorem wd_211 : (.code yX11_strand cX11_strand 7 (some .int)) ∈ wU := mU (tin_5 _ (List.mem_of_getElem? (i := 26) rfl)) rfl
theorem wd_212 : (Cond.selects "SpineTables" yX11_strand yX11_strand) ∈ wU := mU (tin_5 _ (List.mem_of_getElem? (i := 25) rfl)) rfl
theorem wd_213 : (Cond.methodLink "SpineTablesLaw" 25 yX11_strand) ∈ wU := mU (tin_5 _ (List.mem_of_getElem? (i := 23) rfl)) rfl
theorem wd_214 : (Cond.instanceMethod yX11_strand) ∈ wU := mU (tin_5 _ (List.mem_of_getElem? (i := 24) rfl)) rfl
theorem wd_215 : (.code yX11_kind cX11_kind 5 (some .int)) ∈ wU := mU (tin_5 _ (List.mem_of_getElem? (i := 45) rfl)) rfl
theorem wd_216 : (Cond.selects "SpineTables" yX11_kind yX11_kind) ∈ wU := mU (tin_5 _ (List.mem_of_getElem? (i := 44) rfl)) rfl
theorem wd_217 : (Cond.methodLink "SpineTablesLaw" 29 yX11_kind) ∈ wU := mU (tin_5 _ (List.mem_of_getElem? (i := 42) rfl)) rfl
theorem wd_218 : (Cond.instanceMethod yX11_kind) ∈ wU := mU (tin_5 _ (List.mem_of_getElem? (i := 43) rfl)) rfl
theorem wd_219 : (.code yX11_token cX11_token 7 (some .int)) ∈ wU := mU (tin_5 _ (List.mem_of_getElem? (i := 61) rfl)) rfl
theorem wd_220 : (Cond.selects "SpineTables" yX11_token yX11_token) ∈ wU := mU (tin_5 _ (List.mem_of_getElem? (i := 60) rfl)) rfl
theorem wd_221 : (Cond.methodLink "SpineTablesLaw" 32 yX11_token) ∈ wU := mU (tin_5 _ (List.mem_of_getElem? (i := 58) rfl)) rfl
theorem wd_222 : (Cond.instanceMethod yX11_token) ∈ wU := mU (tin_5 _ (List.mem_of_getElem? (i := 59) rfl)) rfl
theorem wd_223 : (.code yX11_walk cX11_walk 2 (some .int)) ∈ wU := mU (tin_5 _ (List.mem_of_getElem? (i := 80) rfl)) rfl
theorem wd_224 : (Cond.selects "SpineTables" yX11_walk yX11_walk) ∈ wU := mU (tin_5 _ (List.mem_of_getElem? (i := 79) rfl)) rfl
theorem wd_225 : (Cond.methodLink "SpineTablesLaw" 35 yX11_walk) ∈ wU := mU (tin_5 _ (List.mem_of_getElem? (i := 77) rfl)) rfl
theorem wd_226 : (Cond.instanceMethod yX11_walk) ∈ wU := mU (tin_5 _ (List.mem_of_getElem? (i := 78) rfl)) rfl
theorem wd_227 : (.code yX11_misfit cX11_misfit 2 (some .int)) ∈ wU := mU (tin_5 _ (List.mem_of_getElem? (i := 87) rfl)) rfl
theorem wd_228 : (Cond.selects "SpineTables" yX11_misfit yX11_misfit) ∈ wU := mU (tin_5 _ (List.mem_of_getElem? (i := 86) rfl)) rfl
theorem wd_229 : (Cond.methodLink "SpineTablesLaw" 38 yX11_misfit) ∈ wU := mU (tin_5 _ (List.mem_of_getElem? (i := 84) rfl)) rfl
theorem wd_230 : (Cond.instanceMethod yX11_misfit) ∈ wU := mU (tin_5 _ (List.mem_of_getElem? (i := 85) rfl)) rfl
theorem wd_231 : (.code yX11_time cX11_time 5 (some .int)) ∈ wU := mU (tin_5 _ (List.mem_of_getElem? (i := 95) rfl)) rfl
theorem wd_232 : (Cond.selects "SpineTables" yX11_time yX11_time) ∈ wU := mU (tin_5 _ (List.mem_of_getElem? (i := 94) rfl)) rfl
theorem wd_233 : (Cond.methodLink "SpineTablesLaw" 41 yX11_time) ∈ wU := mU (tin_5 _ (List.mem_of_getElem? (i := 92) rfl)) rfl
theorem wd_234 : (Cond.instanceMethod yX11_time) ∈ wU := mU (tin_5 _ (List.mem_of_getElem? (i := 93) rfl)) rfl
theorem wd_235 : (.code yX11_length cX11_length 7 (some .int)) ∈ wU := mU (tin_5 _ (List.mem_of_getElem? (i := 129) rfl)) rfl
theorem wd_236 : (Cond.selects "SpineTables" yX11_length yX11_length) ∈ wU := mU (tin_5 _ (List.mem_of_getElem? (i := 128) rfl)) rfl
theorem wd_237 : (Cond.methodLink "SpineTablesLaw" 46 yX11_length) ∈ wU := mU (tin_5 _ (List.mem_of_getElem? (i := 126) rfl)) rfl
theorem wd_238 : (Cond.instanceMethod yX11_length) ∈ wU := mU (tin_5 _ (List.mem_of_getElem? (i := 127) rfl)) rfl
theorem wd_239 : (.code yX11_bars cX11_bars 3 (some .int)) ∈ wU := mU (tin_5 _ (List.mem_of_getElem? (i := 139) rfl)) rfl
theorem wd_240 : (Cond.selects "SpineTables" yX11_bars yX11_bars) ∈ wU := mU (tin_5 _ (List.mem_of_getElem? (i := 138) rfl)) rfl
theorem wd_241 : (Cond.methodLink "SpineTablesLaw" 49 yX11_bars) ∈ wU := mU (tin_5 _ (List.mem_of_getElem? (i := 136) rfl)) rfl
theorem wd_242 : (Cond.instanceMethod yX11_bars) ∈ wU := mU (tin_5 _ (List.mem_of_getElem? (i := 137) rfl)) rfl
theorem wd_243 : (.code yX11_extract cX11_extract 7 (some .int)) ∈ wU := mU (tin_5 _ (List.mem_of_getElem? (i := 172) rfl)) rfl
theorem wd_244 : (Cond.selects "SpineTables" yX11_extract yX11_extract) ∈ wU := mU (tin_5 _ (List.mem_of_getElem? (i := 171) rfl)) rfl
theorem wd_245 : (Cond.methodLink "SpineTablesLaw" 52 yX11_extract) ∈ wU := mU (tin_5 _ (List.mem_of_getElem? (i := 169) rfl)) rfl
theorem wd_246 : (Cond.instanceMethod yX11_extract) ∈ wU := mU (tin_5 _ (List.mem_of_getElem? (i := 170) rfl)) rfl
theorem wd_247 : (.code yX11_assemble cX11_assemble 7 (some .int)) ∈ wU := mU (tin_5 _ (List.mem_of_getElem? (i := 239) rfl)) rfl
theorem wd_248 : (Cond.selects "SpineTables" yX11_assemble yX11_assemble) ∈ wU := mU (tin_5 _ (List.mem_of_getElem? (i := 238) rfl)) rfl
theorem wd_249 : (Cond.methodLink "SpineTablesLaw" 55 yX11_assemble) ∈ wU := mU (tin_5 _ (List.mem_of_getElem? (i := 236) rfl)) rfl
theorem wd_250 : (Cond.instanceMethod yX11_assemble) ∈ wU := mU (tin_5 _ (List.mem_of_getElem? (i := 237) rfl)) rfl
theorem wd_251 : (.code yX11_same cX11_same 5 (some .boolean)) ∈ wU := mU (tin_6 _ (List.mem_of_getElem? (i := 100) rfl)) rfl
theorem wd_252 : (Cond.selects "SpineTables" yX11_same yX11_same) ∈ wU := mU (tin_6 _ (List.mem_of_getElem? (i := 99) rfl)) rfl
theorem wd_253 : (Cond.methodLink "SpineTablesLaw" 58 yX11_same) ∈ wU := mU (tin_6 _ (List.mem_of_getElem? (i := 97) rfl)) rfl
theorem wd_254 : (Cond.instanceMethod yX11_same) ∈ wU := mU (tin_6 _ (List.mem_of_getElem? (i := 98) rfl)) rfl
theorem wd_255 : (.code yX11_write cX11_write 3 (some .int)) ∈ wU := mU (tin_6 _ (List.mem_of_getElem? (i := 112) rfl)) rfl
theorem wd_256 : (Cond.selects "SpineTables" yX11_write yX11_write) ∈ wU := mU (tin_6 _ (List.mem_of_getElem? (i := 111) rfl)) rfl
theorem wd_257 : (Cond.methodLink "SpineTablesLaw" 62 yX11_write) ∈ wU := mU (tin_6 _ (List.mem_of_getElem? (i := 109) rfl)) rfl
theorem wd_258 : (Cond.instanceMethod yX11_write) ∈ wU := mU (tin_6 _ (List.mem_of_getElem? (i := 110) rfl)) rfl
theorem wd_259 : (.code yX6_clear cX6_clear 1 none) ∈ wU := mU (tin_2 _ (List.mem_of_getElem? (i := 208) rfl)) rfl
theorem wd_260 : (Cond.selects "SpineTables$Rows" yX6_clear yX6_clear) ∈ wU := mU (tin_2 _ (List.mem_of_getElem? (i := 207) rfl)) rfl
theorem wd_261 : (Cond.methodLink "SpineTables$Table" 68 yX6_clear) ∈ wU := mU (tin_2 _ (List.mem_of_getElem? (i := 205) rfl)) rfl
theorem wd_262 : (Cond.instanceMethod yX6_clear) ∈ wU := mU (tin_2 _ (List.mem_of_getElem? (i := 206) rfl)) rfl
theorem wd_263 : (Cond.instantiable "SpineTables$Table" 17) ∈ wU := mU (tin_2 _ (List.mem_of_getElem? (i := 75) rfl)) rfl
theorem wd_264 : (Cond.initialized "SpineTables$Table") ∈ wU := mU (tin_1 _ (List.mem_of_getElem? (i := 11) rfl)) rfl
theorem wd_265 : (.code yX8_init cX8_init 1 none) ∈ wU := mU (tin_2 _ (List.mem_of_getElem? (i := 78) rfl)) rfl
theorem wd_266 : (Cond.instanceMethod yX8_init) ∈ wU := mU (tin_2 _ (List.mem_of_getElem? (i := 77) rfl)) rfl
theorem wd_267 : (.code yX8_clear cX8_clear 1 none) ∈ wU := mU (tin_2 _ (List.mem_of_getElem? (i := 204) rfl)) rfl
theorem wd_268 : (Cond.selects "SpineTables$Table" yX8_clear yX8_clear) ∈ wU := mU (tin_2 _ (List.mem_of_getElem? (i := 203) rfl)) rfl
theorem wd_269 : (Cond.methodLink "SpineTables" 271 yX8_clear) ∈ wU := mU (tin_2 _ (List.mem_of_getElem? (i := 201) rfl)) rfl
theorem wd_270 : (Cond.instanceMethod yX8_clear) ∈ wU := mU (tin_2 _ (List.mem_of_getElem? (i := 202) rfl)) rfl
theorem wd_271 : (.code yX10_isRun cX10_isRun 3 (some .boolean)) ∈ wU := mU (tin_2 _ (List.mem_of_getElem? (i := 215) rfl)) rfl
theorem wd_272 : (Cond.static yX10_isRun) ∈ wU := mU (tin_2 _ (List.mem_of_getElem? (i := 214) rfl)) rfl
theorem wd_273 : (Cond.methodLink "SpineTables$Reader" 63 yX10_isRun) ∈ wU := mU (tin_2 _ (List.mem_of_getElem? (i := 213) rfl)) rfl
theorem wd_274 : (Cond.initialized "SpineTables$Words") ∈ wU := mU (tin_1 _ (List.mem_of_getElem? (i := 13) rfl)) rfl
theorem wd_275 : (Cond.fieldLink "SpineTables$Reader" 88 "SpineTables$Table" "strands" "I") ∈ wU := mU (tin_2 _ (List.mem_of_getElem? (i := 156) rfl)) rfl
theorem wd_276 : (Cond.fieldLink "SpineTables$Lengths" 35 "SpineTables$Table" "rows" "LSpineTables$Rows;") ∈ wU := mU (tin_2 _ (List.mem_of_getElem? (i := 135) rfl)) rfl
theorem wd_277 : (Cond.fieldLink "SpineTables$Lengths" 41 "SpineTables$Rows" "count" "I") ∈ wU := mU (tin_2 _ (List.mem_of_getElem? (i := 100) rfl)) rfl
theorem wd_278 : (Cond.fieldLink "SpineTables$Walker" 71 "SpineTables$Table" "misfitRow" "I") ∈ wU := mU (tin_2 _ (List.mem_of_getElem? (i := 161) rfl)) rfl
theorem wd_279 : (Cond.fieldLink "SpineTables$Walker" 60 "SpineTables$Table" "misfitCode" "I") ∈ wU := mU (tin_2 _ (List.mem_of_getElem? (i := 164) rfl)) rfl
theorem wd_280 : (.code yX9_begin cX9_begin 3 none) ∈ wU := mU (tin_4 _ (List.mem_of_getElem? (i := 28) rfl)) rfl
theorem wd_281 : (Cond.selects "SpineTables$Walker" yX9_begin yX9_begin) ∈ wU := mU (tin_0 _ (List.mem_of_getElem? (i := 37) rfl)) rfl
theorem wd_282 : (Cond.methodLink "SpineTables$Walker" 45 yX9_begin) ∈ wU := mU (tin_4 _ (List.mem_of_getElem? (i := 25) rfl)) rfl
theorem wd_283 : (Cond.instanceMethod yX9_begin) ∈ wU := mU (tin_4 _ (List.mem_of_getElem? (i := 27) rfl)) rfl
theorem wd_284 : (Cond.fieldLink "SpineTables$Walker" 49 "SpineTables$Table" "rows" "LSpineTables$Rows;") ∈ wU := mU (tin_2 _ (List.mem_of_getElem? (i := 137) rfl)) rfl
theorem wd_285 : (Cond.fieldLink "SpineTables$Walker" 55 "SpineTables$Rows" "count" "I") ∈ wU := mU (tin_2 _ (List.mem_of_getElem? (i := 101) rfl)) rfl
theorem wd_286 : (.code yX8_putTime cX8_putTime 4 none) ∈ wU := mU (tin_4 _ (List.mem_of_getElem? (i := 32) rfl)) rfl
theorem wd_287 : (Cond.selects "SpineTables$Table" yX8_putTime yX8_putTime) ∈ wU := mU (tin_4 _ (List.mem_of_getElem? (i := 31) rfl)) rfl
theorem wd_288 : (Cond.methodLink "SpineTables$Walker" 63 yX8_putTime) ∈ wU := mU (tin_4 _ (List.mem_of_getElem? (i := 29) rfl)) rfl
theorem wd_289 : (Cond.instanceMethod yX8_putTime) ∈ wU := mU (tin_4 _ (List.mem_of_getElem? (i := 30) rfl)) rfl
theorem wd_290 : (.code yX11_freePlace cX11_freePlace 2 (some .int)) ∈ wU := mU (tin_2 _ (List.mem_of_getElem? (i := 70) rfl)) rfl
theorem wd_291 : (Cond.selects "SpineTables" yX11_freePlace yX11_freePlace) ∈ wU := mU (tin_0 _ (List.mem_of_getElem? (i := 1) rfl)) rfl
theorem wd_292 : (Cond.methodLink "SpineTables" 86 yX11_freePlace) ∈ wU := mU (tin_2 _ (List.mem_of_getElem? (i := 67) rfl)) rfl
theorem wd_293 : (Cond.instanceMethod yX11_freePlace) ∈ wU := mU (tin_2 _ (List.mem_of_getElem? (i := 69) rfl)) rfl
theorem wd_294 : (.code yX11_clearBench cX11_clearBench 1 (some (.object "SpineTables$Table"))) ∈ wU := mU (tin_2 _ (List.mem_of_getElem? (i := 74) rfl)) rfl
theorem wd_295 : (Cond.selects "SpineTables" yX11_clearBench yX11_clearBench) ∈ wU := mU (tin_0 _ (List.mem_of_getElem? (i := 2) rfl)) rfl
theorem wd_296 : (Cond.methodLink "SpineTables" 90 yX11_clearBench) ∈ wU := mU (tin_2 _ (List.mem_of_getElem? (i := 71) rfl)) rfl
theorem wd_297 : (Cond.instanceMethod yX11_clearBench) ∈ wU := mU (tin_2 _ (List.mem_of_getElem? (i := 73) rfl)) rfl
theorem wd_298 : (.code yX5_take cX5_take 6 (some .boolean)) ∈ wU := mU (tin_2 _ (List.mem_of_getElem? (i := 212) rfl)) rfl
theorem wd_299 : (Cond.selects "SpineTables$Reader" yX5_take yX5_take) ∈ wU := mU (tin_2 _ (List.mem_of_getElem? (i := 211) rfl)) rfl
theorem wd_300 : (Cond.methodLink "SpineTables" 94 yX5_take) ∈ wU := mU (tin_2 _ (List.mem_of_getElem? (i := 209) rfl)) rfl
theorem wd_301 : (Cond.instanceMethod yX5_take) ∈ wU := mU (tin_2 _ (List.mem_of_getElem? (i := 210) rfl)) rfl
theorem wd_302 : (Cond.fieldLink "SpineTables" 98 "SpineTables$Reader" "code" "I") ∈ wU := mU (tin_1 _ (List.mem_of_getElem? (i := 39) rfl)) rfl
theorem wd_303 : (.code yX4_fill cX4_fill 8 none) ∈ wU := mU (tin_3 _ (List.mem_of_getElem? (i := 184) rfl)) rfl
theorem wd_304 : (Cond.selects "SpineTables$Lengths" yX4_fill yX4_fill) ∈ wU := mU (tin_3 _ (List.mem_of_getElem? (i := 183) rfl)) rfl
theorem wd_305 : (Cond.methodLink "SpineTables" 104 yX4_fill) ∈ wU := mU (tin_3 _ (List.mem_of_getElem? (i := 181) rfl)) rfl
theorem wd_306 : (Cond.instanceMethod yX4_fill) ∈ wU := mU (tin_3 _ (List.mem_of_getElem? (i := 182) rfl)) rfl
theorem wd_307 : (.code yX9_go cX9_go 4 none) ∈ wU := mU (tin_4 _ (List.mem_of_getElem? (i := 24) rfl)) rfl
theorem wd_308 : (Cond.selects "SpineTables$Walker" yX9_go yX9_go) ∈ wU := mU (tin_4 _ (List.mem_of_getElem? (i := 23) rfl)) rfl
theorem wd_309 : (Cond.methodLink "SpineTables" 108 yX9_go) ∈ wU := mU (tin_4 _ (List.mem_of_getElem? (i := 21) rfl)) rfl
theorem wd_310 : (Cond.instanceMethod yX9_go) ∈ wU := mU (tin_4 _ (List.mem_of_getElem? (i := 22) rfl)) rfl
theorem wd_311 : (.code yX11_keepBench cX11_keepBench 3 (some .int)) ∈ wU := mU (tin_4 _ (List.mem_of_getElem? (i := 123) rfl)) rfl
theorem wd_312 : (Cond.selects "SpineTables" yX11_keepBench yX11_keepBench) ∈ wU := mU (tin_0 _ (List.mem_of_getElem? (i := 50) rfl)) rfl
theorem wd_313 : (Cond.methodLink "SpineTables" 111 yX11_keepBench) ∈ wU := mU (tin_4 _ (List.mem_of_getElem? (i := 120) rfl)) rfl
theorem wd_314 : (Cond.instanceMethod yX11_keepBench) ∈ wU := mU (tin_4 _ (List.mem_of_getElem? (i := 122) rfl)) rfl
theorem wd_315 : (Cond.fieldLink "SpineTablesModel" 111 "SpineTablesModel" "thrown" "I") ∈ wU := mU (tin_6 _ (List.mem_of_getElem? (i := 123) rfl)) rfl
theorem wd_316 : (.code yX12_isTable cX12_isTable 2 (some .boolean)) ∈ wU := mU (tin_7 _ (List.mem_of_getElem? (i := 202) rfl)) rfl
theorem wd_317 : (Cond.selects "SpineTablesModel" yX12_isTable yX12_isTable) ∈ wU := mU (tin_0 _ (List.mem_of_getElem? (i := 98) rfl)) rfl
theorem wd_318 : (Cond.methodLink "SpineTablesModel" 115 yX12_isTable) ∈ wU := mU (tin_7 _ (List.mem_of_getElem? (i := 199) rfl)) rfl
theorem wd_319 : (Cond.instanceMethod yX12_isTable) ∈ wU := mU (tin_7 _ (List.mem_of_getElem? (i := 201) rfl)) rfl
theorem wd_320 : (Cond.initialized "SpineTablesModel") ∈ wU := mU (tin_1 _ (List.mem_of_getElem? (i := 10) rfl)) rfl
theorem wd_321 : (.code yX12_isRow cX12_isRow 3 (some .boolean)) ∈ wU := mU (tin_7 _ (List.mem_of_getElem? (i := 225) rfl)) rfl
theorem wd_322 : (Cond.selects "SpineTablesModel" yX12_isRow yX12_isRow) ∈ wU := mU (tin_0 _ (List.mem_of_getElem? (i := 101) rfl)) rfl
theorem wd_323 : (Cond.methodLink "SpineTablesModel" 119 yX12_isRow) ∈ wU := mU (tin_7 _ (List.mem_of_getElem? (i := 222) rfl)) rfl
theorem wd_324 : (Cond.instanceMethod yX12_isRow) ∈ wU := mU (tin_7 _ (List.mem_of_getElem? (i := 224) rfl)) rfl
theorem wd_325 : (.code yX12_goes cX12_goes 4 (some .boolean)) ∈ wU := mU (tin_7 _ (List.mem_of_getElem? (i := 206) rfl)) rfl
theorem wd_326 : (Cond.selects "SpineTablesModel" yX12_goes yX12_goes) ∈ wU := mU (tin_0 _ (List.mem_of_getElem? (i := 99) rfl)) rfl
theorem wd_327 : (Cond.methodLink "SpineTablesModel" 295 yX12_goes) ∈ wU := mU (tin_7 _ (List.mem_of_getElem? (i := 203) rfl)) rfl
theorem wd_328 : (Cond.instanceMethod yX12_goes) ∈ wU := mU (tin_7 _ (List.mem_of_getElem? (i := 205) rfl)) rfl
theorem wd_329 : (.code yX12_may cX12_may 2 (some .boolean)) ∈ wU := mU (tin_7 _ (List.mem_of_getElem? (i := 213) rfl)) rfl
theorem wd_330 : (Cond.static yX12_may) ∈ wU := mU (tin_7 _ (List.mem_of_getElem? (i := 212) rfl)) rfl
theorem wd_331 : (Cond.methodLink "SpineTablesModel" 299 yX12_may) ∈ wU := mU (tin_7 _ (List.mem_of_getElem? (i := 211) rfl)) rfl
theorem wd_332 : (.code yX12_isStrand cX12_isStrand 4 (some .boolean)) ∈ wU := mU (tin_7 _ (List.mem_of_getElem? (i := 233) rfl)) rfl
theorem wd_333 : (Cond.selects "SpineTablesModel" yX12_isStrand yX12_isStrand) ∈ wU := mU (tin_0 _ (List.mem_of_getElem? (i := 102) rfl)) rfl
theorem wd_334 : (Cond.methodLink "SpineTablesModel" 305 yX12_isStrand) ∈ wU := mU (tin_7 _ (List.mem_of_getElem? (i := 230) rfl)) rfl
theorem wd_335 : (Cond.instanceMethod yX12_isStrand) ∈ wU := mU (tin_7 _ (List.mem_of_getElem? (i := 232) rfl)) rfl
theorem wd_336 : (Cond.fieldLink "SpineTablesModel" 282 "SpineTablesModel" "size" "I") ∈ wU := mU (tin_6 _ (List.mem_of_getElem? (i := 125) rfl)) rfl
theorem wd_337 : (Cond.fieldLink "SpineTablesModel" 292 "SpineTablesModel" "told" "I") ∈ wU := mU (tin_6 _ (List.mem_of_getElem? (i := 128) rfl)) rfl
theorem wd_338 : (Cond.fieldLink "SpineTablesModel" 354 "SpineTablesModel" "outSize" "I") ∈ wU := mU (tin_6 _ (List.mem_of_getElem? (i := 130) rfl)) rfl
theorem wd_339 : (Cond.fieldLink "SpineTablesModel" 143 "SpineTablesModel" "now" "I") ∈ wU := mU (tin_6 _ (List.mem_of_getElem? (i := 153) rfl)) rfl
theorem wd_340 : (Cond.fieldLink "SpineTablesModel" 137 "SpineTablesModel" "fault" "I") ∈ wU := mU (tin_6 _ (List.mem_of_getElem? (i := 126) rfl)) rfl
theorem wd_341 : (.code yX12_walkThrough cX12_walkThrough 11 none) ∈ wU := mU (tin_7 _ (List.mem_of_getElem? (i := 125) rfl)) rfl
theorem wd_342 : (Cond.selects "SpineTablesModel" yX12_walkThrough yX12_walkThrough) ∈ wU := mU (tin_0 _ (List.mem_of_getElem? (i := 86) rfl)) rfl
theorem wd_343 : (Cond.methodLink "SpineTablesModel" 160 yX12_walkThrough) ∈ wU := mU (tin_7 _ (List.mem_of_getElem? (i := 122) rfl)) rfl
theorem wd_344 : (Cond.instanceMethod yX12_walkThrough) ∈ wU := mU (tin_7 _ (List.mem_of_getElem? (i := 124) rfl)) rfl
theorem wd_345 : (.code yX12_free cX12_free 2 (some .int)) ∈ wU := mU (tin_7 _ (List.mem_of_getElem? (i := 42) rfl)) rfl
theorem wd_346 : (Cond.selects "SpineTablesModel" yX12_free yX12_free) ∈ wU := mU (tin_0 _ (List.mem_of_getElem? (i := 66) rfl)) rfl
theorem wd_347 : (Cond.methodLink "SpineTablesModel" 285 yX12_free) ∈ wU := mU (tin_7 _ (List.mem_of_getElem? (i := 39) rfl)) rfl
theorem wd_348 : (Cond.instanceMethod yX12_free) ∈ wU := mU (tin_7 _ (List.mem_of_getElem? (i := 41) rfl)) rfl
theorem wd_349 : (.code yX12_isParsed cX12_isParsed 9 (some .boolean)) ∈ wU := mU (tin_7 _ (List.mem_of_getElem? (i := 46) rfl)) rfl
theorem wd_350 : (Cond.selects "SpineTablesModel" yX12_isParsed yX12_isParsed) ∈ wU := mU (tin_0 _ (List.mem_of_getElem? (i := 67) rfl)) rfl
theorem wd_351 : (Cond.methodLink "SpineTablesModel" 289 yX12_isParsed) ∈ wU := mU (tin_7 _ (List.mem_of_getElem? (i := 43) rfl)) rfl
theorem wd_352 : (Cond.instanceMethod yX12_isParsed) ∈ wU := mU (tin_7 _ (List.mem_of_getElem? (i := 45) rfl)) rfl
theorem dL_assemble_0 : decode cL_assemble 0 = .ok (.aload_n 3, 1) := by decide +kernel
theorem dL_assemble_1 : decode cL_assemble 1 = .ok (.iconst 0, 1) := by decide +kernel
theorem dL_assemble_2 : decode cL_assemble 2 = .ok (.aload_n 0, 1) := by decide +kernel
theorem dL_assemble_3 : decode cL_assemble 3 = .ok (.iload_n 1, 1) := by decide +kernel
theorem dL_assemble_4 : decode cL_assemble 4 = .ok (.iload_n 2, 1) := by decide +kernel
theorem dL_assemble_5 : decode cL_assemble 5 = .ok (.invokevirtual 55, 3) := by decide +kernel
theorem dL_assemble_13 : decode cL_assemble 13 = .ok (.astore 4, 2) := by decide +kernel
theorem dL_assemble_15 : decode cL_assemble 15 = .ok (.iconst 1, 1) := by decide +kernel
theorem dL_assemble_16 : decode cL_assemble 16 = .ok (.ireturn, 1) := by decide +kernel
theorem dL_bars_0 : decode cL_bars 0 = .ok (.aload_n 2, 1) := by decide +kernel
theorem dL_bars_1 : decode cL_bars 1 = .ok (.iconst 0, 1) := by decide +kernel
theorem dL_bars_2 : decode cL_bars 2 = .ok (.aload_n 0, 1) := by decide +kernel
theorem dL_bars_3 : decode cL_bars 3 = .ok (.iload_n 1, 1) := by decide +kernel
theorem dL_bars_4 : decode cL_bars 4 = .ok (.invokevirtual 49, 3) := by decide +kernel
theorem dL_bars_12 : decode cL_bars 12 = .ok (.astore_n 3, 1) := by decide +kernel
theorem dL_bars_13 : decode cL_bars 13 = .ok (.iconst 1, 1) := by decide +kernel
theorem dL_bars_14 : decode cL_bars 14 = .ok (.ireturn, 1) := by decide +kernel
theorem dL_drop_0 : decode cL_drop 0 = .ok (.aload_n 2, 1) := by decide +kernel
theorem dL_drop_1 : decode cL_drop 1 = .ok (.iconst 0, 1) := by decide +kernel
theorem dL_drop_2 : decode cL_drop 2 = .ok (.aload_n 0, 1) := by decide +kernel
theorem dL_drop_3 : decode cL_drop 3 = .ok (.iload_n 1, 1) := by decide +kernel
theorem dL_drop_4 : decode cL_drop 4 = .ok (.invokevirtual 7, 3) := by decide +kernel
theorem dL_drop_12 : decode cL_drop 12 = .ok (.astore_n 3, 1) := by decide +kernel
theorem dL_drop_13 : decode cL_drop 13 = .ok (.iconst 1, 1) := by decide +kernel
theorem dL_drop_14 : decode cL_drop 14 = .ok (.ireturn, 1) := by decide +kernel
theorem dL_extract_0 : decode cL_extract 0 = .ok (.aload_n 2, 1) := by decide +kernel
theorem dL_extract_1 : decode cL_extract 1 = .ok (.iconst 0, 1) := by decide +kernel
theorem dL_extract_2 : decode cL_extract 2 = .ok (.aload_n 0, 1) := by decide +kernel
theorem dL_extract_3 : decode cL_extract 3 = .ok (.iload_n 1, 1) := by decide +kernel
theorem dL_extract_4 : decode cL_extract 4 = .ok (.invokevirtual 52, 3) := by decide +kernel
theorem dL_extract_12 : decode cL_extract 12 = .ok (.astore_n 3, 1) := by decide +kernel
theorem dL_extract_13 : decode cL_extract 13 = .ok (.iconst 1, 1) := by decide +kernel
theorem dL_extract_14 : decode cL_extract 14 = .ok (.ireturn, 1) := by decide +kernel
theorem dL_kind_0 : decode cL_kind 0 = .ok (.aload 4, 2) := by decide +kernel
theorem dL_kind_2 : decode cL_kind 2 = .ok (.iconst 0, 1) := by decide +kernel
theorem dL_kind_3 : decode cL_kind 3 = .ok (.aload_n 0, 1) := by decide +kernel
theorem dL_kind_4 : decode cL_kind 4 = .ok (.iload_n 1, 1) := by decide +kernel
theorem dL_kind_5 : decode cL_kind 5 = .ok (.iload_n 2, 1) := by decide +kernel
theorem dL_kind_6 : decode cL_kind 6 = .ok (.iload_n 3, 1) := by decide +kernel
theorem dL_kind_7 : decode cL_kind 7 = .ok (.invokevirtual 29, 3) := by decide +kernel
theorem dL_kind_15 : decode cL_kind 15 = .ok (.astore 5, 2) := by decide +kernel
theorem dL_kind_17 : decode cL_kind 17 = .ok (.iconst 1, 1) := by decide +kernel
theorem dL_kind_18 : decode cL_kind 18 = .ok (.ireturn, 1) := by decide +kernel
theorem dL_length_0 : decode cL_length 0 = .ok (.aload 5, 2) := by decide +kernel
theorem dL_length_2 : decode cL_length 2 = .ok (.iconst 0, 1) := by decide +kernel
theorem dL_length_3 : decode cL_length 3 = .ok (.aload_n 0, 1) := by decide +kernel
theorem dL_length_4 : decode cL_length 4 = .ok (.iload_n 1, 1) := by decide +kernel
theorem dL_length_5 : decode cL_length 5 = .ok (.iload_n 2, 1) := by decide +kernel
theorem dL_length_6 : decode cL_length 6 = .ok (.iload_n 3, 1) := by decide +kernel
theorem dL_length_7 : decode cL_length 7 = .ok (.iload 4, 2) := by decide +kernel
theorem dL_length_9 : decode cL_length 9 = .ok (.invokevirtual 46, 3) := by decide +kernel
theorem dL_length_17 : decode cL_length 17 = .ok (.astore 6, 2) := by decide +kernel
theorem dL_length_19 : decode cL_length 19 = .ok (.iconst 1, 1) := by decide +kernel
theorem dL_length_20 : decode cL_length 20 = .ok (.ireturn, 1) := by decide +kernel
theorem dL_misfit_0 : decode cL_misfit 0 = .ok (.aload_n 2, 1) := by decide +kernel
theorem dL_misfit_1 : decode cL_misfit 1 = .ok (.iconst 0, 1) := by decide +kernel
theorem dL_misfit_2 : decode cL_misfit 2 = .ok (.aload_n 0, 1) := by decide +kernel
theorem dL_misfit_3 : decode cL_misfit 3 = .ok (.iload_n 1, 1) := by decide +kernel
theorem dL_misfit_4 : decode cL_misfit 4 = .ok (.invokevirtual 38, 3) := by decide +kernel
theorem dL_misfit_12 : decode cL_misfit 12 = .ok (.astore_n 3, 1) := by decide +kernel
theorem dL_misfit_13 : decode cL_misfit 13 = .ok (.iconst 1, 1) := by decide +kernel
theorem dL_misfit_14 : decode cL_misfit 14 = .ok (.ireturn, 1) := by decide +kernel
theorem dL_row_0 : decode cL_row 0 = .ok (.aload 4, 2) := by decide +kernel
theorem dL_row_2 : decode cL_row 2 = .ok (.iconst 0, 1) := by decide +kernel
theorem dL_row_3 : decode cL_row 3 = .ok (.aload_n 0, 1) := by decide +kernel
theorem dL_row_4 : decode cL_row 4 = .ok (.iload_n 1, 1) := by decide +kernel
theorem dL_row_5 : decode cL_row 5 = .ok (.iload_n 2, 1) := by decide +kernel
theorem dL_row_6 : decode cL_row 6 = .ok (.iload_n 3, 1) := by decide +kernel
theorem dL_row_7 : decode cL_row 7 = .ok (.invokevirtual 21, 3) := by decide +kernel
theorem dL_row_15 : decode cL_row 15 = .ok (.astore 5, 2) := by decide +kernel
theorem dL_row_17 : decode cL_row 17 = .ok (.iconst 1, 1) := by decide +kernel
theorem dL_row_18 : decode cL_row 18 = .ok (.ireturn, 1) := by decide +kernel
theorem dL_same_0 : decode cL_same 0 = .ok (.aload_n 3, 1) := by decide +kernel
theorem dL_same_1 : decode cL_same 1 = .ok (.iconst 0, 1) := by decide +kernel
theorem dL_same_2 : decode cL_same 2 = .ok (.aload_n 0, 1) := by decide +kernel
theorem dL_same_3 : decode cL_same 3 = .ok (.iload_n 1, 1) := by decide +kernel
theorem dL_same_4 : decode cL_same 4 = .ok (.iload_n 2, 1) := by decide +kernel
theorem dL_same_5 : decode cL_same 5 = .ok (.invokevirtual 58, 3) := by decide +kernel
theorem dL_same_20 : decode cL_same 20 = .ok (.astore 4, 2) := by decide +kernel
theorem dL_same_22 : decode cL_same 22 = .ok (.iconst 1, 1) := by decide +kernel
theorem dL_same_23 : decode cL_same 23 = .ok (.ireturn, 1) := by decide +kernel
theorem dL_strand_0 : decode cL_strand 0 = .ok (.aload 5, 2) := by decide +kernel
theorem dL_strand_2 : decode cL_strand 2 = .ok (.iconst 0, 1) := by decide +kernel
theorem dL_strand_3 : decode cL_strand 3 = .ok (.aload_n 0, 1) := by decide +kernel
theorem dL_strand_4 : decode cL_strand 4 = .ok (.iload_n 1, 1) := by decide +kernel
theorem dL_strand_5 : decode cL_strand 5 = .ok (.iload_n 2, 1) := by decide +kernel
theorem dL_strand_6 : decode cL_strand 6 = .ok (.iload_n 3, 1) := by decide +kernel
theorem dL_strand_7 : decode cL_strand 7 = .ok (.iload 4, 2) := by decide +kernel
theorem dL_strand_9 : decode cL_strand 9 = .ok (.invokevirtual 25, 3) := by decide +kernel
theorem dL_strand_17 : decode cL_strand 17 = .ok (.astore 6, 2) := by decide +kernel
theorem dL_strand_19 : decode cL_strand 19 = .ok (.iconst 1, 1) := by decide +kernel
theorem dL_strand_20 : decode cL_strand 20 = .ok (.ireturn, 1) := by decide +kernel
theorem dL_time_0 : decode cL_time 0 = .ok (.aload 4, 2) := by decide +kernel
theorem dL_time_2 : decode cL_time 2 = .ok (.iconst 0, 1) := by decide +kernel
theorem dL_time_3 : decode cL_time 3 = .ok (.aload_n 0, 1) := by decide +kernel
theorem dL_time_4 : decode cL_time 4 = .ok (.iload_n 1, 1) := by decide +kernel
theorem dL_time_5 : decode cL_time 5 = .ok (.iload_n 2, 1) := by decide +kernel
theorem dL_time_6 : decode cL_time 6 = .ok (.iload_n 3, 1) := by decide +kernel
theorem dL_time_7 : decode cL_time 7 = .ok (.invokevirtual 41, 3) := by decide +kernel
theorem dL_time_15 : decode cL_time 15 = .ok (.astore 5, 2) := by decide +kernel
theorem dL_time_17 : decode cL_time 17 = .ok (.iconst 1, 1) := by decide +kernel
theorem dL_time_18 : decode cL_time 18 = .ok (.ireturn, 1) := by decide +kernel
theorem dL_token_0 : decode cL_token 0 = .ok (.aload 5, 2) := by decide +kernel
theorem dL_token_2 : decode cL_token 2 = .ok (.iconst 0, 1) := by decide +kernel
theorem dL_token_3 : decode cL_token 3 = .ok (.aload_n 0, 1) := by decide +kernel
theorem dL_token_4 : decode cL_token 4 = .ok (.iload_n 1, 1) := by decide +kernel
theorem dL_token_5 : decode cL_token 5 = .ok (.iload_n 2, 1) := by decide +kernel
theorem dL_token_6 : decode cL_token 6 = .ok (.iload_n 3, 1) := by decide +kernel
theorem dL_token_7 : decode cL_token 7 = .ok (.iload 4, 2) := by decide +kernel
theorem dL_token_9 : decode cL_token 9 = .ok (.invokevirtual 32, 3) := by decide +kernel
theorem dL_token_17 : decode cL_token 17 = .ok (.astore 6, 2) := by decide +kernel
theorem dL_token_19 : decode cL_token 19 = .ok (.iconst 1, 1) := by decide +kernel
theorem dL_token_20 : decode cL_token 20 = .ok (.ireturn, 1) := by decide +kernel
theorem dL_told_0 : decode cL_told 0 = .ok (.aload_n 3, 1) := by decide +kernel
theorem dL_told_1 : decode cL_told 1 = .ok (.iconst 0, 1) := by decide +kernel
theorem dL_told_2 : decode cL_told 2 = .ok (.aload_n 0, 1) := by decide +kernel
theorem dL_told_3 : decode cL_told 3 = .ok (.iload_n 1, 1) := by decide +kernel
theorem dL_told_4 : decode cL_told 4 = .ok (.iload_n 2, 1) := by decide +kernel
theorem dL_told_5 : decode cL_told 5 = .ok (.invokevirtual 15, 3) := by decide +kernel
theorem dL_told_13 : decode cL_told 13 = .ok (.astore 4, 2) := by decide +kernel
theorem dL_told_15 : decode cL_told 15 = .ok (.iconst 1, 1) := by decide +kernel
theorem dL_told_16 : decode cL_told 16 = .ok (.ireturn, 1) := by decide +kernel
theorem dL_walk_0 : decode cL_walk 0 = .ok (.aload_n 2, 1) := by decide +kernel
theorem dL_walk_1 : decode cL_walk 1 = .ok (.iconst 0, 1) := by decide +kernel
theorem dL_walk_2 : decode cL_walk 2 = .ok (.aload_n 0, 1) := by decide +kernel
theorem dL_walk_3 : decode cL_walk 3 = .ok (.iload_n 1, 1) := by decide +kernel
theorem dL_walk_4 : decode cL_walk 4 = .ok (.invokevirtual 35, 3) := by decide +kernel
theorem dL_walk_12 : decode cL_walk 12 = .ok (.astore_n 3, 1) := by decide +kernel
theorem dL_walk_13 : decode cL_walk 13 = .ok (.iconst 1, 1) := by decide +kernel
theorem dL_walk_14 : decode cL_walk 14 = .ok (.ireturn, 1) := by decide +kernel
theorem dL_write_0 : decode cL_write 0 = .ok (.aload_n 2, 1) := by decide +kernel
theorem dL_write_1 : decode cL_write 1 = .ok (.iconst 0, 1) := by decide +kernel
theorem dL_write_2 : decode cL_write 2 = .ok (.aload_n 0, 1) := by decide +kernel
theorem dL_write_3 : decode cL_write 3 = .ok (.iload_n 1, 1) := by decide +kernel
theorem dL_write_4 : decode cL_write 4 = .ok (.invokevirtual 62, 3) := by decide +kernel
theorem dL_write_12 : decode cL_write 12 = .ok (.astore_n 3, 1) := by decide +kernel
theorem dL_write_13 : decode cL_write 13 = .ok (.iconst 1, 1) := by decide +kernel
theorem dL_write_14 : decode cL_write 14 = .ok (.ireturn, 1) := by decide +kernel
theorem dX0_init_0 : decode cX0_init 0 = .ok (.aload_n 0, 1) := by decide +kernel
theorem dX0_init_1 : decode cX0_init 1 = .ok (.invokespecial 3, 3) := by decide +kernel
theorem dX0_init_4 : decode cX0_init 4 = .ok (.aload_n 0, 1) := by decide +kernel
theorem dX0_init_5 : decode cX0_init 5 = .ok (.new 9, 3) := by decide +kernel
theorem dX0_init_8 : decode cX0_init 8 = .ok (.dup, 1) := by decide +kernel
theorem dX0_init_9 : decode cX0_init 9 = .ok (.invokespecial 11, 3) := by decide +kernel
theorem dX0_init_12 : decode cX0_init 12 = .ok (.putfield 12, 3) := by decide +kernel
theorem dX0_init_15 : decode cX0_init 15 = .ok (.aload_n 0, 1) := by decide +kernel
theorem dX0_init_16 : decode cX0_init 16 = .ok (.new 9, 3) := by decide +kernel
theorem dX0_init_19 : decode cX0_init 19 = .ok (.dup, 1) := by decide +kernel
theorem dX0_init_20 : decode cX0_init 20 = .ok (.invokespecial 11, 3) := by decide +kernel
theorem dX0_init_23 : decode cX0_init 23 = .ok (.putfield 18, 3) := by decide +kernel
theorem dX0_init_26 : decode cX0_init 26 = .ok (.aload_n 0, 1) := by decide +kernel
theorem dX0_init_27 : decode cX0_init 27 = .ok (.aconst_null, 1) := by decide +kernel
theorem dX0_init_28 : decode cX0_init 28 = .ok (.putfield 21, 3) := by decide +kernel
theorem dX0_init_31 : decode cX0_init 31 = .ok (.return_, 1) := by decide +kernel
theorem dX10_isRun_0 : decode cX10_isRun 0 = .ok (.aload_n 0, 1) := by decide +kernel
theorem dX10_isRun_1 : decode cX10_isRun 1 = .ok (.ifnull 22, 3) := by decide +kernel
theorem dX10_isRun_4 : decode cX10_isRun 4 = .ok (.iload_n 1, 1) := by decide +kernel
theorem dX10_isRun_5 : decode cX10_isRun 5 = .ok (.ifCond .lt 18, 3) := by decide +kernel
theorem dX10_isRun_8 : decode cX10_isRun 8 = .ok (.iload_n 1, 1) := by decide +kernel
theorem dX10_isRun_9 : decode cX10_isRun 9 = .ok (.iload_n 2, 1) := by decide +kernel
theorem dX10_isRun_10 : decode cX10_isRun 10 = .ok (.if_icmp .gt 13, 3) := by decide +kernel
theorem dX10_isRun_13 : decode cX10_isRun 13 = .ok (.iload_n 2, 1) := by decide +kernel
theorem dX10_isRun_14 : decode cX10_isRun 14 = .ok (.aload_n 0, 1) := by decide +kernel
theorem dX10_isRun_15 : decode cX10_isRun 15 = .ok (.arraylength, 1) := by decide +kernel
theorem dX10_isRun_16 : decode cX10_isRun 16 = .ok (.if_icmp .gt 7, 3) := by decide +kernel
theorem dX10_isRun_19 : decode cX10_isRun 19 = .ok (.iconst 1, 1) := by decide +kernel
theorem dX10_isRun_20 : decode cX10_isRun 20 = .ok (.goto 4, 3) := by decide +kernel
theorem dX10_isRun_24 : decode cX10_isRun 24 = .ok (.ireturn, 1) := by decide +kernel
theorem dX11_assemble_0 : decode cX11_assemble 0 = .ok (.aload_n 0, 1) := by decide +kernel
theorem dX11_assemble_1 : decode cX11_assemble 1 = .ok (.iload_n 1, 1) := by decide +kernel
theorem dX11_assemble_2 : decode cX11_assemble 2 = .ok (.invokevirtual 115, 3) := by decide +kernel
theorem dX11_bars_0 : decode cX11_bars 0 = .ok (.aload_n 0, 1) := by decide +kernel
theorem dX11_bars_1 : decode cX11_bars 1 = .ok (.iload_n 1, 1) := by decide +kernel
theorem dX11_bars_2 : decode cX11_bars 2 = .ok (.invokevirtual 115, 3) := by decide +kernel
theorem dX11_clearBench_0 : decode cX11_clearBench 0 = .ok (.aload_n 0, 1) := by decide +kernel
theorem dX11_clearBench_1 : decode cX11_clearBench 1 = .ok (.getfield 36, 3) := by decide +kernel
theorem dX11_clearBench_4 : decode cX11_clearBench 4 = .ok (.ifnonnull 14, 3) := by decide +kernel
theorem dX11_clearBench_7 : decode cX11_clearBench 7 = .ok (.aload_n 0, 1) := by decide +kernel
theorem dX11_clearBench_8 : decode cX11_clearBench 8 = .ok (.new 26, 3) := by decide +kernel
theorem dX11_clearBench_11 : decode cX11_clearBench 11 = .ok (.dup, 1) := by decide +kernel
theorem dX11_clearBench_12 : decode cX11_clearBench 12 = .ok (.invokespecial 270, 3) := by decide +kernel
theorem dX11_clearBench_15 : decode cX11_clearBench 15 = .ok (.putfield 36, 3) := by decide +kernel
theorem dX11_clearBench_18 : decode cX11_clearBench 18 = .ok (.aload_n 0, 1) := by decide +kernel
theorem dX11_clearBench_19 : decode cX11_clearBench 19 = .ok (.getfield 36, 3) := by decide +kernel
theorem dX11_clearBench_22 : decode cX11_clearBench 22 = .ok (.invokevirtual 271, 3) := by decide +kernel
theorem dX11_clearBench_25 : decode cX11_clearBench 25 = .ok (.aload_n 0, 1) := by decide +kernel
theorem dX11_clearBench_26 : decode cX11_clearBench 26 = .ok (.getfield 36, 3) := by decide +kernel
theorem dX11_clearBench_29 : decode cX11_clearBench 29 = .ok (.areturn, 1) := by decide +kernel
theorem dX11_cut_0 : decode cX11_cut 0 = .ok (.iload_n 1, 1) := by decide +kernel
theorem dX11_cut_1 : decode cX11_cut 1 = .ok (.ifCond .lt 11, 3) := by decide +kernel
theorem dX11_cut_4 : decode cX11_cut 4 = .ok (.iload_n 1, 1) := by decide +kernel
theorem dX11_cut_5 : decode cX11_cut 5 = .ok (.aload_n 0, 1) := by decide +kernel
theorem dX11_cut_6 : decode cX11_cut 6 = .ok (.getfield 13, 3) := by decide +kernel
theorem dX11_cut_9 : decode cX11_cut 9 = .ok (.if_icmp .le 5, 3) := by decide +kernel
theorem dX11_cut_12 : decode cX11_cut 12 = .ok (.iconst (-1), 1) := by decide +kernel
theorem dX11_cut_13 : decode cX11_cut 13 = .ok (.ireturn, 1) := by decide +kernel
theorem dX11_cut_14 : decode cX11_cut 14 = .ok (.aload_n 0, 1) := by decide +kernel
theorem dX11_cut_15 : decode cX11_cut 15 = .ok (.getfield 13, 3) := by decide +kernel
theorem dX11_cut_18 : decode cX11_cut 18 = .ok (.iload_n 1, 1) := by decide +kernel
theorem dX11_cut_19 : decode cX11_cut 19 = .ok (.isub, 1) := by decide +kernel
theorem dX11_cut_20 : decode cX11_cut 20 = .ok (.istore_n 2, 1) := by decide +kernel
theorem dX11_cut_21 : decode cX11_cut 21 = .ok (.aload_n 0, 1) := by decide +kernel
theorem dX11_cut_22 : decode cX11_cut 22 = .ok (.iload_n 1, 1) := by decide +kernel
theorem dX11_cut_23 : decode cX11_cut 23 = .ok (.putfield 13, 3) := by decide +kernel
theorem dX11_cut_26 : decode cX11_cut 26 = .ok (.iload_n 2, 1) := by decide +kernel
theorem dX11_cut_27 : decode cX11_cut 27 = .ok (.ireturn, 1) := by decide +kernel
theorem dX11_drop_0 : decode cX11_drop 0 = .ok (.aload_n 0, 1) := by decide +kernel
theorem dX11_drop_1 : decode cX11_drop 1 = .ok (.iload_n 1, 1) := by decide +kernel
theorem dX11_drop_2 : decode cX11_drop 2 = .ok (.invokevirtual 115, 3) := by decide +kernel
theorem dX11_extract_0 : decode cX11_extract 0 = .ok (.aload_n 0, 1) := by decide +kernel
theorem dX11_extract_1 : decode cX11_extract 1 = .ok (.iload_n 1, 1) := by decide +kernel
theorem dX11_extract_2 : decode cX11_extract 2 = .ok (.invokevirtual 115, 3) := by decide +kernel
theorem dX11_fault_0 : decode cX11_fault 0 = .ok (.aload_n 0, 1) := by decide +kernel
theorem dX11_fault_1 : decode cX11_fault 1 = .ok (.getfield 23, 3) := by decide +kernel
theorem dX11_fault_4 : decode cX11_fault 4 = .ok (.ireturn, 1) := by decide +kernel
theorem dX11_feed_0 : decode cX11_feed 0 = .ok (.aload_n 0, 1) := by decide +kernel
theorem dX11_feed_1 : decode cX11_feed 1 = .ok (.getfield 13, 3) := by decide +kernel
theorem dX11_feed_4 : decode cX11_feed 4 = .ok (.bipush 20, 2) := by decide +kernel
theorem dX11_feed_6 : decode cX11_feed 6 = .ok (.iadd, 1) := by decide +kernel
theorem dX11_feed_7 : decode cX11_feed 7 = .ok (.sipush 3000, 3) := by decide +kernel
theorem dX11_feed_10 : decode cX11_feed 10 = .ok (.if_icmp .le 5, 3) := by decide +kernel
theorem dX11_feed_15 : decode cX11_feed 15 = .ok (.aload_n 0, 1) := by decide +kernel
theorem dX11_feed_16 : decode cX11_feed 16 = .ok (.iload_n 1, 1) := by decide +kernel
theorem dX11_feed_17 : decode cX11_feed 17 = .ok (.invokevirtual 82, 3) := by decide +kernel
theorem dX11_feed_20 : decode cX11_feed 20 = .ok (.aload_n 0, 1) := by decide +kernel
theorem dX11_feed_21 : decode cX11_feed 21 = .ok (.iload_n 2, 1) := by decide +kernel
theorem dX11_feed_22 : decode cX11_feed 22 = .ok (.invokevirtual 82, 3) := by decide +kernel
theorem dX11_feed_25 : decode cX11_feed 25 = .ok (.aload_n 0, 1) := by decide +kernel
theorem dX11_feed_26 : decode cX11_feed 26 = .ok (.iload_n 3, 1) := by decide +kernel
theorem dX11_feed_27 : decode cX11_feed 27 = .ok (.invokevirtual 82, 3) := by decide +kernel
theorem dX11_feed_30 : decode cX11_feed 30 = .ok (.aload_n 0, 1) := by decide +kernel
theorem dX11_feed_31 : decode cX11_feed 31 = .ok (.iload 4, 2) := by decide +kernel
theorem dX11_feed_33 : decode cX11_feed 33 = .ok (.invokevirtual 82, 3) := by decide +kernel
theorem dX11_feed_36 : decode cX11_feed 36 = .ok (.aload_n 0, 1) := by decide +kernel
theorem dX11_feed_37 : decode cX11_feed 37 = .ok (.iload 5, 2) := by decide +kernel
theorem dX11_feed_39 : decode cX11_feed 39 = .ok (.invokevirtual 82, 3) := by decide +kernel
theorem dX11_feed_42 : decode cX11_feed 42 = .ok (.aload_n 0, 1) := by decide +kernel
theorem dX11_feed_43 : decode cX11_feed 43 = .ok (.getfield 13, 3) := by decide +kernel
theorem dX11_feed_46 : decode cX11_feed 46 = .ok (.ireturn, 1) := by decide +kernel
theorem dX11_feedNumber_0 : decode cX11_feedNumber 0 = .ok (.bipush 24, 2) := by decide +kernel
theorem dX11_feedNumber_2 : decode cX11_feedNumber 2 = .ok (.istore_n 2, 1) := by decide +kernel
theorem dX11_feedNumber_3 : decode cX11_feedNumber 3 = .ok (.iload_n 2, 1) := by decide +kernel
theorem dX11_feedNumber_4 : decode cX11_feedNumber 4 = .ok (.ifCond .lt 42, 3) := by decide +kernel
theorem dX11_feedNumber_7 : decode cX11_feedNumber 7 = .ok (.aload_n 0, 1) := by decide +kernel
theorem dX11_feedNumber_8 : decode cX11_feedNumber 8 = .ok (.getfield 13, 3) := by decide +kernel
theorem dX11_feedNumber_11 : decode cX11_feedNumber 11 = .ok (.sipush 3000, 3) := by decide +kernel
theorem dX11_feedNumber_14 : decode cX11_feedNumber 14 = .ok (.if_icmp .ge 32, 3) := by decide +kernel
theorem dX11_feedNumber_17 : decode cX11_feedNumber 17 = .ok (.aload_n 0, 1) := by decide +kernel
theorem dX11_feedNumber_18 : decode cX11_feedNumber 18 = .ok (.getfield 9, 3) := by decide +kernel
theorem dX11_feedNumber_21 : decode cX11_feedNumber 21 = .ok (.aload_n 0, 1) := by decide +kernel
theorem dX11_feedNumber_22 : decode cX11_feedNumber 22 = .ok (.getfield 13, 3) := by decide +kernel
theorem dX11_feedNumber_25 : decode cX11_feedNumber 25 = .ok (.iload_n 1, 1) := by decide +kernel
theorem dX11_feedNumber_26 : decode cX11_feedNumber 26 = .ok (.iload_n 2, 1) := by decide +kernel
theorem dX11_feedNumber_27 : decode cX11_feedNumber 27 = .ok (.ishr, 1) := by decide +kernel
theorem dX11_feedNumber_28 : decode cX11_feedNumber 28 = .ok (.i2b, 1) := by decide +kernel
theorem dX11_feedNumber_29 : decode cX11_feedNumber 29 = .ok (.bastore, 1) := by decide +kernel
theorem dX11_feedNumber_30 : decode cX11_feedNumber 30 = .ok (.aload_n 0, 1) := by decide +kernel
theorem dX11_feedNumber_31 : decode cX11_feedNumber 31 = .ok (.dup, 1) := by decide +kernel
theorem dX11_feedNumber_32 : decode cX11_feedNumber 32 = .ok (.getfield 13, 3) := by decide +kernel
theorem dX11_feedNumber_35 : decode cX11_feedNumber 35 = .ok (.iconst 1, 1) := by decide +kernel
theorem dX11_feedNumber_36 : decode cX11_feedNumber 36 = .ok (.iadd, 1) := by decide +kernel
theorem dX11_feedNumber_37 : decode cX11_feedNumber 37 = .ok (.putfield 13, 3) := by decide +kernel
theorem dX11_feedNumber_40 : decode cX11_feedNumber 40 = .ok (.iinc 2 (-8), 3) := by decide +kernel
theorem dX11_feedNumber_43 : decode cX11_feedNumber 43 = .ok (.goto (-40), 3) := by decide +kernel
theorem dX11_feedNumber_46 : decode cX11_feedNumber 46 = .ok (.return_, 1) := by decide +kernel
theorem dX11_freePlace_0 : decode cX11_freePlace 0 = .ok (.iconst 0, 1) := by decide +kernel
theorem dX11_freePlace_1 : decode cX11_freePlace 1 = .ok (.istore_n 1, 1) := by decide +kernel
theorem dX11_freePlace_2 : decode cX11_freePlace 2 = .ok (.iload_n 1, 1) := by decide +kernel
theorem dX11_freePlace_3 : decode cX11_freePlace 3 = .ok (.bipush 8, 2) := by decide +kernel
theorem dX11_freePlace_5 : decode cX11_freePlace 5 = .ok (.if_icmp .ge 20, 3) := by decide +kernel
theorem dX11_freePlace_8 : decode cX11_freePlace 8 = .ok (.aload_n 0, 1) := by decide +kernel
theorem dX11_freePlace_9 : decode cX11_freePlace 9 = .ok (.getfield 32, 3) := by decide +kernel
theorem dX11_freePlace_12 : decode cX11_freePlace 12 = .ok (.iload_n 1, 1) := by decide +kernel
theorem dX11_freePlace_13 : decode cX11_freePlace 13 = .ok (.baload, 1) := by decide +kernel
theorem dX11_freePlace_14 : decode cX11_freePlace 14 = .ok (.ifCond .ne 5, 3) := by decide +kernel
theorem dX11_freePlace_17 : decode cX11_freePlace 17 = .ok (.iload_n 1, 1) := by decide +kernel
theorem dX11_freePlace_18 : decode cX11_freePlace 18 = .ok (.ireturn, 1) := by decide +kernel
theorem dX11_init_0 : decode cX11_init 0 = .ok (.aload_n 0, 1) := by decide +kernel
theorem dX11_init_1 : decode cX11_init 1 = .ok (.invokespecial 1, 3) := by decide +kernel
theorem dX11_init_4 : decode cX11_init 4 = .ok (.aload_n 0, 1) := by decide +kernel
theorem dX11_init_5 : decode cX11_init 5 = .ok (.sipush 3000, 3) := by decide +kernel
theorem dX11_init_8 : decode cX11_init 8 = .ok (.newarray .byte, 2) := by decide +kernel
theorem dX11_init_10 : decode cX11_init 10 = .ok (.putfield 9, 3) := by decide +kernel
theorem dX11_init_13 : decode cX11_init 13 = .ok (.aload_n 0, 1) := by decide +kernel
theorem dX11_init_14 : decode cX11_init 14 = .ok (.iconst 0, 1) := by decide +kernel
theorem dX11_init_15 : decode cX11_init 15 = .ok (.putfield 13, 3) := by decide +kernel
theorem dX11_init_18 : decode cX11_init 18 = .ok (.aload_n 0, 1) := by decide +kernel
theorem dX11_init_19 : decode cX11_init 19 = .ok (.sipush 3001, 3) := by decide +kernel
theorem dX11_init_22 : decode cX11_init 22 = .ok (.newarray .byte, 2) := by decide +kernel
theorem dX11_init_24 : decode cX11_init 24 = .ok (.putfield 17, 3) := by decide +kernel
theorem dX11_init_27 : decode cX11_init 27 = .ok (.aload_n 0, 1) := by decide +kernel
theorem dX11_init_28 : decode cX11_init 28 = .ok (.iconst 0, 1) := by decide +kernel
theorem dX11_init_29 : decode cX11_init 29 = .ok (.putfield 20, 3) := by decide +kernel
theorem dX11_init_32 : decode cX11_init 32 = .ok (.aload_n 0, 1) := by decide +kernel
theorem dX11_init_33 : decode cX11_init 33 = .ok (.iconst 0, 1) := by decide +kernel
theorem dX11_init_34 : decode cX11_init 34 = .ok (.putfield 23, 3) := by decide +kernel
theorem dX11_init_37 : decode cX11_init 37 = .ok (.aload_n 0, 1) := by decide +kernel
theorem dX11_init_38 : decode cX11_init 38 = .ok (.bipush 8, 2) := by decide +kernel
theorem dX11_init_40 : decode cX11_init 40 = .ok (.anewarray 26, 3) := by decide +kernel
theorem dX11_init_43 : decode cX11_init 43 = .ok (.putfield 28, 3) := by decide +kernel
theorem dX11_init_46 : decode cX11_init 46 = .ok (.aload_n 0, 1) := by decide +kernel
theorem dX11_init_47 : decode cX11_init 47 = .ok (.bipush 8, 2) := by decide +kernel
theorem dX11_init_49 : decode cX11_init 49 = .ok (.newarray .boolean, 2) := by decide +kernel
theorem dX11_init_51 : decode cX11_init 51 = .ok (.putfield 32, 3) := by decide +kernel
theorem dX11_init_54 : decode cX11_init 54 = .ok (.aload_n 0, 1) := by decide +kernel
theorem dX11_init_55 : decode cX11_init 55 = .ok (.aconst_null, 1) := by decide +kernel
theorem dX11_init_56 : decode cX11_init 56 = .ok (.putfield 36, 3) := by decide +kernel
theorem dX11_init_59 : decode cX11_init 59 = .ok (.aload_n 0, 1) := by decide +kernel
theorem dX11_init_60 : decode cX11_init 60 = .ok (.new 40, 3) := by decide +kernel
theorem dX11_init_63 : decode cX11_init 63 = .ok (.dup, 1) := by decide +kernel
theorem dX11_init_64 : decode cX11_init 64 = .ok (.invokespecial 42, 3) := by decide +kernel
theorem dX11_init_67 : decode cX11_init 67 = .ok (.putfield 43, 3) := by decide +kernel
theorem dX11_init_70 : decode cX11_init 70 = .ok (.aload_n 0, 1) := by decide +kernel
theorem dX11_init_71 : decode cX11_init 71 = .ok (.new 47, 3) := by decide +kernel
theorem dX11_init_74 : decode cX11_init 74 = .ok (.dup, 1) := by decide +kernel
theorem dX11_init_75 : decode cX11_init 75 = .ok (.invokespecial 49, 3) := by decide +kernel
theorem dX11_init_78 : decode cX11_init 78 = .ok (.putfield 50, 3) := by decide +kernel
theorem dX11_init_81 : decode cX11_init 81 = .ok (.aload_n 0, 1) := by decide +kernel
theorem dX11_init_82 : decode cX11_init 82 = .ok (.new 54, 3) := by decide +kernel
theorem dX11_init_85 : decode cX11_init 85 = .ok (.dup, 1) := by decide +kernel
theorem dX11_init_86 : decode cX11_init 86 = .ok (.invokespecial 56, 3) := by decide +kernel
theorem dX11_init_89 : decode cX11_init 89 = .ok (.putfield 57, 3) := by decide +kernel
theorem dX11_init_92 : decode cX11_init 92 = .ok (.aload_n 0, 1) := by decide +kernel
theorem dX11_init_93 : decode cX11_init 93 = .ok (.new 61, 3) := by decide +kernel
theorem dX11_init_96 : decode cX11_init 96 = .ok (.dup, 1) := by decide +kernel
theorem dX11_init_97 : decode cX11_init 97 = .ok (.invokespecial 63, 3) := by decide +kernel
theorem dX11_init_100 : decode cX11_init 100 = .ok (.putfield 64, 3) := by decide +kernel
theorem dX11_init_103 : decode cX11_init 103 = .ok (.aload_n 0, 1) := by decide +kernel
theorem dX11_init_104 : decode cX11_init 104 = .ok (.new 68, 3) := by decide +kernel
theorem dX11_init_107 : decode cX11_init 107 = .ok (.dup, 1) := by decide +kernel
theorem dX11_init_108 : decode cX11_init 108 = .ok (.invokespecial 70, 3) := by decide +kernel
theorem dX11_init_111 : decode cX11_init 111 = .ok (.putfield 71, 3) := by decide +kernel
theorem dX11_init_114 : decode cX11_init 114 = .ok (.aload_n 0, 1) := by decide +kernel
theorem dX11_init_115 : decode cX11_init 115 = .ok (.new 75, 3) := by decide +kernel
theorem dX11_init_118 : decode cX11_init 118 = .ok (.dup, 1) := by decide +kernel
theorem dX11_init_119 : decode cX11_init 119 = .ok (.invokespecial 77, 3) := by decide +kernel
theorem dX11_init_122 : decode cX11_init 122 = .ok (.putfield 78, 3) := by decide +kernel
theorem dX11_init_125 : decode cX11_init 125 = .ok (.return_, 1) := by decide +kernel
theorem dX11_keepBench_0 : decode cX11_keepBench 0 = .ok (.aload_n 0, 1) := by decide +kernel
theorem dX11_keepBench_1 : decode cX11_keepBench 1 = .ok (.getfield 28, 3) := by decide +kernel
theorem dX11_keepBench_4 : decode cX11_keepBench 4 = .ok (.iload_n 1, 1) := by decide +kernel
theorem dX11_keepBench_5 : decode cX11_keepBench 5 = .ok (.aaload, 1) := by decide +kernel
theorem dX11_keepBench_6 : decode cX11_keepBench 6 = .ok (.astore_n 2, 1) := by decide +kernel
theorem dX11_keepBench_7 : decode cX11_keepBench 7 = .ok (.aload_n 0, 1) := by decide +kernel
theorem dX11_keepBench_8 : decode cX11_keepBench 8 = .ok (.getfield 28, 3) := by decide +kernel
theorem dX11_keepBench_11 : decode cX11_keepBench 11 = .ok (.iload_n 1, 1) := by decide +kernel
theorem dX11_keepBench_12 : decode cX11_keepBench 12 = .ok (.aload_n 0, 1) := by decide +kernel
theorem dX11_keepBench_13 : decode cX11_keepBench 13 = .ok (.getfield 36, 3) := by decide +kernel
theorem dX11_keepBench_16 : decode cX11_keepBench 16 = .ok (.aastore, 1) := by decide +kernel
theorem dX11_keepBench_17 : decode cX11_keepBench 17 = .ok (.aload_n 0, 1) := by decide +kernel
theorem dX11_keepBench_18 : decode cX11_keepBench 18 = .ok (.getfield 32, 3) := by decide +kernel
theorem dX11_keepBench_21 : decode cX11_keepBench 21 = .ok (.iload_n 1, 1) := by decide +kernel
theorem dX11_keepBench_22 : decode cX11_keepBench 22 = .ok (.iconst 1, 1) := by decide +kernel
theorem dX11_keepBench_23 : decode cX11_keepBench 23 = .ok (.bastore, 1) := by decide +kernel
theorem dX11_keepBench_24 : decode cX11_keepBench 24 = .ok (.aload_n 0, 1) := by decide +kernel
theorem dX11_keepBench_25 : decode cX11_keepBench 25 = .ok (.aload_n 2, 1) := by decide +kernel
theorem dX11_keepBench_26 : decode cX11_keepBench 26 = .ok (.putfield 36, 3) := by decide +kernel
theorem dX11_keepBench_29 : decode cX11_keepBench 29 = .ok (.iload_n 1, 1) := by decide +kernel
theorem dX11_keepBench_30 : decode cX11_keepBench 30 = .ok (.ireturn, 1) := by decide +kernel
theorem dX11_kind_0 : decode cX11_kind 0 = .ok (.aload_n 0, 1) := by decide +kernel
theorem dX11_kind_1 : decode cX11_kind 1 = .ok (.iload_n 1, 1) := by decide +kernel
theorem dX11_kind_2 : decode cX11_kind 2 = .ok (.invokevirtual 115, 3) := by decide +kernel
theorem dX11_length_0 : decode cX11_length 0 = .ok (.aload_n 0, 1) := by decide +kernel
theorem dX11_length_1 : decode cX11_length 1 = .ok (.iload_n 1, 1) := by decide +kernel
theorem dX11_length_2 : decode cX11_length 2 = .ok (.invokevirtual 115, 3) := by decide +kernel
theorem dX11_misfit_0 : decode cX11_misfit 0 = .ok (.aload_n 0, 1) := by decide +kernel
theorem dX11_misfit_1 : decode cX11_misfit 1 = .ok (.iload_n 1, 1) := by decide +kernel
theorem dX11_misfit_2 : decode cX11_misfit 2 = .ok (.invokevirtual 115, 3) := by decide +kernel
theorem dX11_out_0 : decode cX11_out 0 = .ok (.iload_n 1, 1) := by decide +kernel
theorem dX11_out_1 : decode cX11_out 1 = .ok (.ifCond .lt 18, 3) := by decide +kernel
theorem dX11_out_4 : decode cX11_out 4 = .ok (.iload_n 1, 1) := by decide +kernel
theorem dX11_out_5 : decode cX11_out 5 = .ok (.aload_n 0, 1) := by decide +kernel
theorem dX11_out_6 : decode cX11_out 6 = .ok (.getfield 20, 3) := by decide +kernel
theorem dX11_out_9 : decode cX11_out 9 = .ok (.if_icmp .ge 10, 3) := by decide +kernel
theorem dX11_out_19 : decode cX11_out 19 = .ok (.iconst (-1), 1) := by decide +kernel
theorem dX11_out_20 : decode cX11_out 20 = .ok (.goto 9, 3) := by decide +kernel
theorem dX11_out_29 : decode cX11_out 29 = .ok (.ireturn, 1) := by decide +kernel
theorem dX11_read_0 : decode cX11_read 0 = .ok (.aload_n 0, 1) := by decide +kernel
theorem dX11_read_1 : decode cX11_read 1 = .ok (.getfield 13, 3) := by decide +kernel
theorem dX11_read_4 : decode cX11_read 4 = .ok (.istore_n 1, 1) := by decide +kernel
theorem dX11_read_5 : decode cX11_read 5 = .ok (.aload_n 0, 1) := by decide +kernel
theorem dX11_read_6 : decode cX11_read 6 = .ok (.iconst 0, 1) := by decide +kernel
theorem dX11_read_7 : decode cX11_read 7 = .ok (.putfield 13, 3) := by decide +kernel
theorem dX11_read_10 : decode cX11_read 10 = .ok (.aload_n 0, 1) := by decide +kernel
theorem dX11_read_11 : decode cX11_read 11 = .ok (.invokevirtual 86, 3) := by decide +kernel
theorem dX11_read_14 : decode cX11_read 14 = .ok (.istore_n 2, 1) := by decide +kernel
theorem dX11_read_15 : decode cX11_read 15 = .ok (.iload_n 2, 1) := by decide +kernel
theorem dX11_read_16 : decode cX11_read 16 = .ok (.iconst (-1), 1) := by decide +kernel
theorem dX11_read_17 : decode cX11_read 17 = .ok (.if_icmp .ne 6, 3) := by decide +kernel
theorem dX11_read_23 : decode cX11_read 23 = .ok (.aload_n 0, 1) := by decide +kernel
theorem dX11_read_24 : decode cX11_read 24 = .ok (.invokevirtual 90, 3) := by decide +kernel
theorem dX11_read_27 : decode cX11_read 27 = .ok (.astore_n 3, 1) := by decide +kernel
theorem dX11_read_28 : decode cX11_read 28 = .ok (.aload_n 0, 1) := by decide +kernel
theorem dX11_read_29 : decode cX11_read 29 = .ok (.getfield 43, 3) := by decide +kernel
theorem dX11_read_32 : decode cX11_read 32 = .ok (.aload_n 0, 1) := by decide +kernel
theorem dX11_read_33 : decode cX11_read 33 = .ok (.getfield 9, 3) := by decide +kernel
theorem dX11_read_36 : decode cX11_read 36 = .ok (.iload_n 1, 1) := by decide +kernel
theorem dX11_read_37 : decode cX11_read 37 = .ok (.aload_n 3, 1) := by decide +kernel
theorem dX11_read_38 : decode cX11_read 38 = .ok (.invokevirtual 94, 3) := by decide +kernel
theorem dX11_read_41 : decode cX11_read 41 = .ok (.istore 4, 2) := by decide +kernel
theorem dX11_read_43 : decode cX11_read 43 = .ok (.aload_n 0, 1) := by decide +kernel
theorem dX11_read_44 : decode cX11_read 44 = .ok (.aload_n 0, 1) := by decide +kernel
theorem dX11_read_45 : decode cX11_read 45 = .ok (.getfield 43, 3) := by decide +kernel
theorem dX11_read_48 : decode cX11_read 48 = .ok (.getfield 98, 3) := by decide +kernel
theorem dX11_read_51 : decode cX11_read 51 = .ok (.putfield 23, 3) := by decide +kernel
theorem dX11_read_54 : decode cX11_read 54 = .ok (.iload 4, 2) := by decide +kernel
theorem dX11_read_56 : decode cX11_read 56 = .ok (.ifCond .ne 14, 3) := by decide +kernel
theorem dX11_read_70 : decode cX11_read 70 = .ok (.aload_n 0, 1) := by decide +kernel
theorem dX11_read_71 : decode cX11_read 71 = .ok (.getfield 57, 3) := by decide +kernel
theorem dX11_read_74 : decode cX11_read 74 = .ok (.aload_n 3, 1) := by decide +kernel
theorem dX11_read_75 : decode cX11_read 75 = .ok (.invokevirtual 104, 3) := by decide +kernel
theorem dX11_read_78 : decode cX11_read 78 = .ok (.aload_n 0, 1) := by decide +kernel
theorem dX11_read_79 : decode cX11_read 79 = .ok (.getfield 50, 3) := by decide +kernel
theorem dX11_read_82 : decode cX11_read 82 = .ok (.aload_n 3, 1) := by decide +kernel
theorem dX11_read_83 : decode cX11_read 83 = .ok (.invokevirtual 108, 3) := by decide +kernel
theorem dX11_read_86 : decode cX11_read 86 = .ok (.aload_n 0, 1) := by decide +kernel
theorem dX11_read_87 : decode cX11_read 87 = .ok (.iload_n 2, 1) := by decide +kernel
theorem dX11_read_88 : decode cX11_read 88 = .ok (.invokevirtual 111, 3) := by decide +kernel
theorem dX11_read_91 : decode cX11_read 91 = .ok (.ireturn, 1) := by decide +kernel
theorem dX11_row_0 : decode cX11_row 0 = .ok (.aload_n 0, 1) := by decide +kernel
theorem dX11_row_1 : decode cX11_row 1 = .ok (.iload_n 1, 1) := by decide +kernel
theorem dX11_row_2 : decode cX11_row 2 = .ok (.invokevirtual 115, 3) := by decide +kernel
theorem dX11_same_0 : decode cX11_same 0 = .ok (.aload_n 0, 1) := by decide +kernel
theorem dX11_same_1 : decode cX11_same 1 = .ok (.iload_n 1, 1) := by decide +kernel
theorem dX11_same_2 : decode cX11_same 2 = .ok (.invokevirtual 115, 3) := by decide +kernel
theorem dX11_strand_0 : decode cX11_strand 0 = .ok (.aload_n 0, 1) := by decide +kernel
theorem dX11_strand_1 : decode cX11_strand 1 = .ok (.iload_n 1, 1) := by decide +kernel
theorem dX11_strand_2 : decode cX11_strand 2 = .ok (.invokevirtual 115, 3) := by decide +kernel
theorem dX11_tableAt_0 : decode cX11_tableAt 0 = .ok (.iload_n 1, 1) := by decide +kernel
theorem dX11_tableAt_1 : decode cX11_tableAt 1 = .ok (.ifCond .lt 18, 3) := by decide +kernel
theorem dX11_tableAt_4 : decode cX11_tableAt 4 = .ok (.iload_n 1, 1) := by decide +kernel
theorem dX11_tableAt_5 : decode cX11_tableAt 5 = .ok (.bipush 8, 2) := by decide +kernel
theorem dX11_tableAt_7 : decode cX11_tableAt 7 = .ok (.if_icmp .ge 12, 3) := by decide +kernel
theorem dX11_tableAt_10 : decode cX11_tableAt 10 = .ok (.aload_n 0, 1) := by decide +kernel
theorem dX11_tableAt_11 : decode cX11_tableAt 11 = .ok (.getfield 32, 3) := by decide +kernel
theorem dX11_tableAt_14 : decode cX11_tableAt 14 = .ok (.iload_n 1, 1) := by decide +kernel
theorem dX11_tableAt_15 : decode cX11_tableAt 15 = .ok (.baload, 1) := by decide +kernel
theorem dX11_tableAt_16 : decode cX11_tableAt 16 = .ok (.ifCond .ne 7, 3) := by decide +kernel
theorem dX11_tableAt_19 : decode cX11_tableAt 19 = .ok (.aconst_null, 1) := by decide +kernel
theorem dX11_tableAt_20 : decode cX11_tableAt 20 = .ok (.goto 9, 3) := by decide +kernel
theorem dX11_tableAt_29 : decode cX11_tableAt 29 = .ok (.astore_n 2, 1) := by decide +kernel
theorem dX11_tableAt_30 : decode cX11_tableAt 30 = .ok (.aload_n 2, 1) := by decide +kernel
theorem dX11_tableAt_31 : decode cX11_tableAt 31 = .ok (.ifnonnull 14, 3) := by decide +kernel
theorem dX11_tableAt_34 : decode cX11_tableAt 34 = .ok (.new 177, 3) := by decide +kernel
theorem dX11_tableAt_37 : decode cX11_tableAt 37 = .ok (.dup, 1) := by decide +kernel
theorem dX11_tableAt_38 : decode cX11_tableAt 38 = .ok (.ldc_w 274, 3) := by decide +kernel
theorem dX11_tableAt_41 : decode cX11_tableAt 41 = .ok (.invokespecial 181, 3) := by decide +kernel
theorem dX11_tableAt_44 : decode cX11_tableAt 44 = .ok (.athrow, 1) := by decide +kernel
theorem dX11_time_0 : decode cX11_time 0 = .ok (.aload_n 0, 1) := by decide +kernel
theorem dX11_time_1 : decode cX11_time 1 = .ok (.iload_n 1, 1) := by decide +kernel
theorem dX11_time_2 : decode cX11_time 2 = .ok (.invokevirtual 115, 3) := by decide +kernel
theorem dX11_token_0 : decode cX11_token 0 = .ok (.aload_n 0, 1) := by decide +kernel
theorem dX11_token_1 : decode cX11_token 1 = .ok (.iload_n 1, 1) := by decide +kernel
theorem dX11_token_2 : decode cX11_token 2 = .ok (.invokevirtual 115, 3) := by decide +kernel
theorem dX11_told_0 : decode cX11_told 0 = .ok (.aload_n 0, 1) := by decide +kernel
theorem dX11_told_1 : decode cX11_told 1 = .ok (.iload_n 1, 1) := by decide +kernel
theorem dX11_told_2 : decode cX11_told 2 = .ok (.invokevirtual 115, 3) := by decide +kernel
theorem dX11_walk_0 : decode cX11_walk 0 = .ok (.aload_n 0, 1) := by decide +kernel
theorem dX11_walk_1 : decode cX11_walk 1 = .ok (.iload_n 1, 1) := by decide +kernel
theorem dX11_walk_2 : decode cX11_walk 2 = .ok (.invokevirtual 115, 3) := by decide +kernel
theorem dX11_write_0 : decode cX11_write 0 = .ok (.aload_n 0, 1) := by decide +kernel
theorem dX11_write_1 : decode cX11_write 1 = .ok (.iload_n 1, 1) := by decide +kernel
theorem dX11_write_2 : decode cX11_write 2 = .ok (.invokevirtual 115, 3) := by decide +kernel
theorem dX12_assemble_0 : decode cX12_assemble 0 = .ok (.aload_n 0, 1) := by decide +kernel
theorem dX12_assemble_1 : decode cX12_assemble 1 = .ok (.aload_n 0, 1) := by decide +kernel
theorem dX12_assemble_2 : decode cX12_assemble 2 = .ok (.iload_n 1, 1) := by decide +kernel
theorem dX12_assemble_3 : decode cX12_assemble 3 = .ok (.invokevirtual 115, 3) := by decide +kernel
theorem dX12_assemble_6 : decode cX12_assemble 6 = .ok (.ifCond .eq 15, 3) := by decide +kernel
theorem dX12_assemble_21 : decode cX12_assemble 21 = .ok (.iconst 0, 1) := by decide +kernel
theorem dX12_assemble_22 : decode cX12_assemble 22 = .ok (.iconst 1, 1) := by decide +kernel
theorem dX12_assemble_23 : decode cX12_assemble 23 = .ok (.iconst 1, 1) := by decide +kernel
theorem dX12_assemble_24 : decode cX12_assemble 24 = .ok (.invokevirtual 295, 3) := by decide +kernel
theorem dX12_assemble_27 : decode cX12_assemble 27 = .ok (.ifCond .ne 5, 3) := by decide +kernel
theorem dX12_assemble_30 : decode cX12_assemble 30 = .ok (.iconst 0, 1) := by decide +kernel
theorem dX12_assemble_31 : decode cX12_assemble 31 = .ok (.ireturn, 1) := by decide +kernel
theorem dX12_bars_0 : decode cX12_bars 0 = .ok (.aload_n 0, 1) := by decide +kernel
theorem dX12_bars_1 : decode cX12_bars 1 = .ok (.aload_n 0, 1) := by decide +kernel
theorem dX12_bars_2 : decode cX12_bars 2 = .ok (.iload_n 1, 1) := by decide +kernel
theorem dX12_bars_3 : decode cX12_bars 3 = .ok (.invokevirtual 115, 3) := by decide +kernel
theorem dX12_bars_6 : decode cX12_bars 6 = .ok (.aload_n 0, 1) := by decide +kernel
theorem dX12_bars_7 : decode cX12_bars 7 = .ok (.iload_n 1, 1) := by decide +kernel
theorem dX12_bars_8 : decode cX12_bars 8 = .ok (.invokevirtual 115, 3) := by decide +kernel
theorem dX12_bars_11 : decode cX12_bars 11 = .ok (.ifCond .eq 16, 3) := by decide +kernel
theorem dX12_bars_27 : decode cX12_bars 27 = .ok (.iconst 0, 1) := by decide +kernel
theorem dX12_bars_28 : decode cX12_bars 28 = .ok (.iconst 1, 1) := by decide +kernel
theorem dX12_bars_29 : decode cX12_bars 29 = .ok (.invokevirtual 295, 3) := by decide +kernel
theorem dX12_bars_32 : decode cX12_bars 32 = .ok (.ifCond .ne 5, 3) := by decide +kernel
theorem dX12_bars_35 : decode cX12_bars 35 = .ok (.iconst 0, 1) := by decide +kernel
theorem dX12_bars_36 : decode cX12_bars 36 = .ok (.ireturn, 1) := by decide +kernel
theorem dX12_cut_0 : decode cX12_cut 0 = .ok (.aload_n 0, 1) := by decide +kernel
theorem dX12_cut_1 : decode cX12_cut 1 = .ok (.iconst 0, 1) := by decide +kernel
theorem dX12_cut_2 : decode cX12_cut 2 = .ok (.putfield 111, 3) := by decide +kernel
theorem dX12_cut_5 : decode cX12_cut 5 = .ok (.iload_n 1, 1) := by decide +kernel
theorem dX12_cut_6 : decode cX12_cut 6 = .ok (.ifCond .lt 11, 3) := by decide +kernel
theorem dX12_cut_9 : decode cX12_cut 9 = .ok (.iload_n 1, 1) := by decide +kernel
theorem dX12_cut_10 : decode cX12_cut 10 = .ok (.aload_n 0, 1) := by decide +kernel
theorem dX12_cut_11 : decode cX12_cut 11 = .ok (.getfield 282, 3) := by decide +kernel
theorem dX12_cut_14 : decode cX12_cut 14 = .ok (.if_icmp .le 5, 3) := by decide +kernel
theorem dX12_cut_17 : decode cX12_cut 17 = .ok (.iconst (-1), 1) := by decide +kernel
theorem dX12_cut_18 : decode cX12_cut 18 = .ok (.ireturn, 1) := by decide +kernel
theorem dX12_cut_19 : decode cX12_cut 19 = .ok (.aload_n 0, 1) := by decide +kernel
theorem dX12_cut_20 : decode cX12_cut 20 = .ok (.getfield 282, 3) := by decide +kernel
theorem dX12_cut_23 : decode cX12_cut 23 = .ok (.iload_n 1, 1) := by decide +kernel
theorem dX12_cut_24 : decode cX12_cut 24 = .ok (.isub, 1) := by decide +kernel
theorem dX12_cut_25 : decode cX12_cut 25 = .ok (.istore_n 2, 1) := by decide +kernel
theorem dX12_cut_26 : decode cX12_cut 26 = .ok (.aload_n 0, 1) := by decide +kernel
theorem dX12_cut_27 : decode cX12_cut 27 = .ok (.iload_n 1, 1) := by decide +kernel
theorem dX12_cut_28 : decode cX12_cut 28 = .ok (.putfield 282, 3) := by decide +kernel
theorem dX12_cut_31 : decode cX12_cut 31 = .ok (.iload_n 2, 1) := by decide +kernel
theorem dX12_cut_32 : decode cX12_cut 32 = .ok (.ireturn, 1) := by decide +kernel
theorem dX12_drop_0 : decode cX12_drop 0 = .ok (.aload_n 0, 1) := by decide +kernel
theorem dX12_drop_1 : decode cX12_drop 1 = .ok (.aload_n 0, 1) := by decide +kernel
theorem dX12_drop_2 : decode cX12_drop 2 = .ok (.iload_n 1, 1) := by decide +kernel
theorem dX12_drop_3 : decode cX12_drop 3 = .ok (.invokevirtual 115, 3) := by decide +kernel
theorem dX12_drop_6 : decode cX12_drop 6 = .ok (.iconst 1, 1) := by decide +kernel
theorem dX12_drop_7 : decode cX12_drop 7 = .ok (.iconst 1, 1) := by decide +kernel
theorem dX12_drop_8 : decode cX12_drop 8 = .ok (.invokevirtual 295, 3) := by decide +kernel
theorem dX12_drop_11 : decode cX12_drop 11 = .ok (.ifCond .ne 5, 3) := by decide +kernel
theorem dX12_drop_14 : decode cX12_drop 14 = .ok (.iconst 0, 1) := by decide +kernel
theorem dX12_drop_15 : decode cX12_drop 15 = .ok (.ireturn, 1) := by decide +kernel
theorem dX12_extract_0 : decode cX12_extract 0 = .ok (.aload_n 0, 1) := by decide +kernel
theorem dX12_extract_1 : decode cX12_extract 1 = .ok (.aload_n 0, 1) := by decide +kernel
theorem dX12_extract_2 : decode cX12_extract 2 = .ok (.iload_n 1, 1) := by decide +kernel
theorem dX12_extract_3 : decode cX12_extract 3 = .ok (.invokevirtual 115, 3) := by decide +kernel
theorem dX12_extract_6 : decode cX12_extract 6 = .ok (.iconst 1, 1) := by decide +kernel
theorem dX12_extract_7 : decode cX12_extract 7 = .ok (.iconst 1, 1) := by decide +kernel
theorem dX12_extract_8 : decode cX12_extract 8 = .ok (.invokevirtual 295, 3) := by decide +kernel
theorem dX12_extract_11 : decode cX12_extract 11 = .ok (.ifCond .ne 5, 3) := by decide +kernel
theorem dX12_extract_14 : decode cX12_extract 14 = .ok (.iconst 0, 1) := by decide +kernel
theorem dX12_extract_15 : decode cX12_extract 15 = .ok (.ireturn, 1) := by decide +kernel
theorem dX12_fault_0 : decode cX12_fault 0 = .ok (.aload_n 0, 1) := by decide +kernel
theorem dX12_fault_1 : decode cX12_fault 1 = .ok (.iconst 0, 1) := by decide +kernel
theorem dX12_fault_2 : decode cX12_fault 2 = .ok (.putfield 111, 3) := by decide +kernel
theorem dX12_fault_5 : decode cX12_fault 5 = .ok (.aload_n 0, 1) := by decide +kernel
theorem dX12_fault_6 : decode cX12_fault 6 = .ok (.getfield 292, 3) := by decide +kernel
theorem dX12_fault_9 : decode cX12_fault 9 = .ok (.ireturn, 1) := by decide +kernel
theorem dX12_feed_0 : decode cX12_feed 0 = .ok (.aload_n 0, 1) := by decide +kernel
theorem dX12_feed_1 : decode cX12_feed 1 = .ok (.iconst 0, 1) := by decide +kernel
theorem dX12_feed_2 : decode cX12_feed 2 = .ok (.putfield 111, 3) := by decide +kernel
theorem dX12_feed_5 : decode cX12_feed 5 = .ok (.aload_n 0, 1) := by decide +kernel
theorem dX12_feed_6 : decode cX12_feed 6 = .ok (.getfield 282, 3) := by decide +kernel
theorem dX12_feed_9 : decode cX12_feed 9 = .ok (.bipush 20, 2) := by decide +kernel
theorem dX12_feed_11 : decode cX12_feed 11 = .ok (.iadd, 1) := by decide +kernel
theorem dX12_feed_12 : decode cX12_feed 12 = .ok (.sipush 3000, 3) := by decide +kernel
theorem dX12_feed_15 : decode cX12_feed 15 = .ok (.if_icmp .le 5, 3) := by decide +kernel
theorem dX12_feed_20 : decode cX12_feed 20 = .ok (.iconst 0, 1) := by decide +kernel
theorem dX12_feed_21 : decode cX12_feed 21 = .ok (.istore 6, 2) := by decide +kernel
theorem dX12_feed_23 : decode cX12_feed 23 = .ok (.iload 6, 2) := by decide +kernel
theorem dX12_feed_25 : decode cX12_feed 25 = .ok (.bipush 20, 2) := by decide +kernel
theorem dX12_feed_27 : decode cX12_feed 27 = .ok (.if_icmp .ge 86, 3) := by decide +kernel
theorem dX12_feed_30 : decode cX12_feed 30 = .ok (.iload 6, 2) := by decide +kernel
theorem dX12_feed_32 : decode cX12_feed 32 = .ok (.iconst 4, 1) := by decide +kernel
theorem dX12_feed_33 : decode cX12_feed 33 = .ok (.if_icmp .ge 7, 3) := by decide +kernel
theorem dX12_feed_36 : decode cX12_feed 36 = .ok (.iload_n 1, 1) := by decide +kernel
theorem dX12_feed_37 : decode cX12_feed 37 = .ok (.goto 39, 3) := by decide +kernel
theorem dX12_feed_40 : decode cX12_feed 40 = .ok (.iload 6, 2) := by decide +kernel
theorem dX12_feed_42 : decode cX12_feed 42 = .ok (.bipush 8, 2) := by decide +kernel
theorem dX12_feed_44 : decode cX12_feed 44 = .ok (.if_icmp .ge 7, 3) := by decide +kernel
theorem dX12_feed_47 : decode cX12_feed 47 = .ok (.iload_n 2, 1) := by decide +kernel
theorem dX12_feed_48 : decode cX12_feed 48 = .ok (.goto 28, 3) := by decide +kernel
theorem dX12_feed_51 : decode cX12_feed 51 = .ok (.iload 6, 2) := by decide +kernel
theorem dX12_feed_53 : decode cX12_feed 53 = .ok (.bipush 12, 2) := by decide +kernel
theorem dX12_feed_55 : decode cX12_feed 55 = .ok (.if_icmp .ge 7, 3) := by decide +kernel
theorem dX12_feed_58 : decode cX12_feed 58 = .ok (.iload_n 3, 1) := by decide +kernel
theorem dX12_feed_59 : decode cX12_feed 59 = .ok (.goto 17, 3) := by decide +kernel
theorem dX12_feed_62 : decode cX12_feed 62 = .ok (.iload 6, 2) := by decide +kernel
theorem dX12_feed_64 : decode cX12_feed 64 = .ok (.bipush 16, 2) := by decide +kernel
theorem dX12_feed_66 : decode cX12_feed 66 = .ok (.if_icmp .ge 8, 3) := by decide +kernel
theorem dX12_feed_69 : decode cX12_feed 69 = .ok (.iload 4, 2) := by decide +kernel
theorem dX12_feed_71 : decode cX12_feed 71 = .ok (.goto 5, 3) := by decide +kernel
theorem dX12_feed_74 : decode cX12_feed 74 = .ok (.iload 5, 2) := by decide +kernel
theorem dX12_feed_76 : decode cX12_feed 76 = .ok (.istore 7, 2) := by decide +kernel
theorem dX12_feed_78 : decode cX12_feed 78 = .ok (.aload_n 0, 1) := by decide +kernel
theorem dX12_feed_79 : decode cX12_feed 79 = .ok (.getfield 7, 3) := by decide +kernel
theorem dX12_feed_82 : decode cX12_feed 82 = .ok (.aload_n 0, 1) := by decide +kernel
theorem dX12_feed_83 : decode cX12_feed 83 = .ok (.getfield 282, 3) := by decide +kernel
theorem dX12_feed_86 : decode cX12_feed 86 = .ok (.iload 6, 2) := by decide +kernel
theorem dX12_feed_88 : decode cX12_feed 88 = .ok (.iadd, 1) := by decide +kernel
theorem dX12_feed_89 : decode cX12_feed 89 = .ok (.iload 7, 2) := by decide +kernel
theorem dX12_feed_91 : decode cX12_feed 91 = .ok (.bipush 24, 2) := by decide +kernel
theorem dX12_feed_93 : decode cX12_feed 93 = .ok (.bipush 8, 2) := by decide +kernel
theorem dX12_feed_95 : decode cX12_feed 95 = .ok (.iload 6, 2) := by decide +kernel
theorem dX12_feed_97 : decode cX12_feed 97 = .ok (.iconst 4, 1) := by decide +kernel
theorem dX12_feed_98 : decode cX12_feed 98 = .ok (.irem, 1) := by decide +kernel
theorem dX12_feed_99 : decode cX12_feed 99 = .ok (.imul, 1) := by decide +kernel
theorem dX12_feed_100 : decode cX12_feed 100 = .ok (.isub, 1) := by decide +kernel
theorem dX12_feed_101 : decode cX12_feed 101 = .ok (.ishr, 1) := by decide +kernel
theorem dX12_feed_102 : decode cX12_feed 102 = .ok (.sipush 255, 3) := by decide +kernel
theorem dX12_feed_105 : decode cX12_feed 105 = .ok (.iand, 1) := by decide +kernel
theorem dX12_feed_106 : decode cX12_feed 106 = .ok (.iastore, 1) := by decide +kernel
theorem dX12_feed_107 : decode cX12_feed 107 = .ok (.iinc 6 1, 3) := by decide +kernel
theorem dX12_feed_110 : decode cX12_feed 110 = .ok (.goto (-87), 3) := by decide +kernel
theorem dX12_feed_113 : decode cX12_feed 113 = .ok (.aload_n 0, 1) := by decide +kernel
theorem dX12_feed_114 : decode cX12_feed 114 = .ok (.dup, 1) := by decide +kernel
theorem dX12_feed_115 : decode cX12_feed 115 = .ok (.getfield 282, 3) := by decide +kernel
theorem dX12_feed_118 : decode cX12_feed 118 = .ok (.bipush 20, 2) := by decide +kernel
theorem dX12_feed_120 : decode cX12_feed 120 = .ok (.iadd, 1) := by decide +kernel
theorem dX12_feed_121 : decode cX12_feed 121 = .ok (.putfield 282, 3) := by decide +kernel
theorem dX12_feed_124 : decode cX12_feed 124 = .ok (.aload_n 0, 1) := by decide +kernel
theorem dX12_feed_125 : decode cX12_feed 125 = .ok (.getfield 282, 3) := by decide +kernel
theorem dX12_feed_128 : decode cX12_feed 128 = .ok (.ireturn, 1) := by decide +kernel
theorem dX12_free_0 : decode cX12_free 0 = .ok (.iconst 0, 1) := by decide +kernel
theorem dX12_free_1 : decode cX12_free 1 = .ok (.istore_n 1, 1) := by decide +kernel
theorem dX12_free_2 : decode cX12_free 2 = .ok (.iload_n 1, 1) := by decide +kernel
theorem dX12_free_3 : decode cX12_free 3 = .ok (.bipush 8, 2) := by decide +kernel
theorem dX12_free_5 : decode cX12_free 5 = .ok (.if_icmp .ge 20, 3) := by decide +kernel
theorem dX12_free_8 : decode cX12_free 8 = .ok (.aload_n 0, 1) := by decide +kernel
theorem dX12_free_9 : decode cX12_free 9 = .ok (.getfield 16, 3) := by decide +kernel
theorem dX12_free_12 : decode cX12_free 12 = .ok (.iload_n 1, 1) := by decide +kernel
theorem dX12_free_13 : decode cX12_free 13 = .ok (.baload, 1) := by decide +kernel
theorem dX12_free_14 : decode cX12_free 14 = .ok (.ifCond .ne 5, 3) := by decide +kernel
theorem dX12_free_17 : decode cX12_free 17 = .ok (.iload_n 1, 1) := by decide +kernel
theorem dX12_free_18 : decode cX12_free 18 = .ok (.ireturn, 1) := by decide +kernel
theorem dX12_goes_0 : decode cX12_goes 0 = .ok (.aload_n 0, 1) := by decide +kernel
theorem dX12_goes_1 : decode cX12_goes 1 = .ok (.iload_n 1, 1) := by decide +kernel
theorem dX12_goes_2 : decode cX12_goes 2 = .ok (.ifCond .ne 7, 3) := by decide +kernel
theorem dX12_goes_5 : decode cX12_goes 5 = .ok (.iconst 1, 1) := by decide +kernel
theorem dX12_goes_6 : decode cX12_goes 6 = .ok (.goto 20, 3) := by decide +kernel
theorem dX12_goes_26 : decode cX12_goes 26 = .ok (.putfield 111, 3) := by decide +kernel
theorem dX12_goes_29 : decode cX12_goes 29 = .ok (.aload_n 0, 1) := by decide +kernel
theorem dX12_goes_30 : decode cX12_goes 30 = .ok (.getfield 111, 3) := by decide +kernel
theorem dX12_goes_33 : decode cX12_goes 33 = .ok (.ifCond .ne 7, 3) := by decide +kernel
theorem dX12_goes_40 : decode cX12_goes 40 = .ok (.iconst 0, 1) := by decide +kernel
theorem dX12_goes_41 : decode cX12_goes 41 = .ok (.ireturn, 1) := by decide +kernel
theorem dX12_init_0 : decode cX12_init 0 = .ok (.aload_n 0, 1) := by decide +kernel
theorem dX12_init_1 : decode cX12_init 1 = .ok (.invokespecial 1, 3) := by decide +kernel
theorem dX12_init_4 : decode cX12_init 4 = .ok (.aload_n 0, 1) := by decide +kernel
theorem dX12_init_5 : decode cX12_init 5 = .ok (.sipush 3000, 3) := by decide +kernel
theorem dX12_init_8 : decode cX12_init 8 = .ok (.newarray .int, 2) := by decide +kernel
theorem dX12_init_10 : decode cX12_init 10 = .ok (.putfield 7, 3) := by decide +kernel
theorem dX12_init_13 : decode cX12_init 13 = .ok (.aload_n 0, 1) := by decide +kernel
theorem dX12_init_14 : decode cX12_init 14 = .ok (.sipush 3002, 3) := by decide +kernel
theorem dX12_init_17 : decode cX12_init 17 = .ok (.newarray .int, 2) := by decide +kernel
theorem dX12_init_19 : decode cX12_init 19 = .ok (.putfield 13, 3) := by decide +kernel
theorem dX12_init_22 : decode cX12_init 22 = .ok (.aload_n 0, 1) := by decide +kernel
theorem dX12_init_23 : decode cX12_init 23 = .ok (.bipush 8, 2) := by decide +kernel
theorem dX12_init_25 : decode cX12_init 25 = .ok (.newarray .boolean, 2) := by decide +kernel
theorem dX12_init_27 : decode cX12_init 27 = .ok (.putfield 16, 3) := by decide +kernel
theorem dX12_init_30 : decode cX12_init 30 = .ok (.aload_n 0, 1) := by decide +kernel
theorem dX12_init_31 : decode cX12_init 31 = .ok (.sipush 24016, 3) := by decide +kernel
theorem dX12_init_34 : decode cX12_init 34 = .ok (.newarray .int, 2) := by decide +kernel
theorem dX12_init_36 : decode cX12_init 36 = .ok (.putfield 20, 3) := by decide +kernel
theorem dX12_init_39 : decode cX12_init 39 = .ok (.aload_n 0, 1) := by decide +kernel
theorem dX12_init_40 : decode cX12_init 40 = .ok (.bipush 8, 2) := by decide +kernel
theorem dX12_init_42 : decode cX12_init 42 = .ok (.newarray .int, 2) := by decide +kernel
theorem dX12_init_44 : decode cX12_init 44 = .ok (.putfield 23, 3) := by decide +kernel
theorem dX12_init_47 : decode cX12_init 47 = .ok (.aload_n 0, 1) := by decide +kernel
theorem dX12_init_48 : decode cX12_init 48 = .ok (.bipush 8, 2) := by decide +kernel
theorem dX12_init_50 : decode cX12_init 50 = .ok (.newarray .int, 2) := by decide +kernel
theorem dX12_init_52 : decode cX12_init 52 = .ok (.putfield 26, 3) := by decide +kernel
theorem dX12_init_55 : decode cX12_init 55 = .ok (.aload_n 0, 1) := by decide +kernel
theorem dX12_init_56 : decode cX12_init 56 = .ok (.bipush 8, 2) := by decide +kernel
theorem dX12_init_58 : decode cX12_init 58 = .ok (.newarray .int, 2) := by decide +kernel
theorem dX12_init_60 : decode cX12_init 60 = .ok (.putfield 29, 3) := by decide +kernel
theorem dX12_init_63 : decode cX12_init 63 = .ok (.aload_n 0, 1) := by decide +kernel
theorem dX12_init_64 : decode cX12_init 64 = .ok (.sipush 1760, 3) := by decide +kernel
theorem dX12_init_67 : decode cX12_init 67 = .ok (.newarray .long, 2) := by decide +kernel
theorem dX12_init_69 : decode cX12_init 69 = .ok (.putfield 32, 3) := by decide +kernel
theorem dX12_init_72 : decode cX12_init 72 = .ok (.aload_n 0, 1) := by decide +kernel
theorem dX12_init_73 : decode cX12_init 73 = .ok (.bipush 8, 2) := by decide +kernel
theorem dX12_init_75 : decode cX12_init 75 = .ok (.newarray .int, 2) := by decide +kernel
theorem dX12_init_77 : decode cX12_init 77 = .ok (.putfield 36, 3) := by decide +kernel
theorem dX12_init_80 : decode cX12_init 80 = .ok (.aload_n 0, 1) := by decide +kernel
theorem dX12_init_81 : decode cX12_init 81 = .ok (.sipush 1760, 3) := by decide +kernel
theorem dX12_init_84 : decode cX12_init 84 = .ok (.newarray .int, 2) := by decide +kernel
theorem dX12_init_86 : decode cX12_init 86 = .ok (.putfield 39, 3) := by decide +kernel
theorem dX12_init_89 : decode cX12_init 89 = .ok (.aload_n 0, 1) := by decide +kernel
theorem dX12_init_90 : decode cX12_init 90 = .ok (.sipush 1760, 3) := by decide +kernel
theorem dX12_init_93 : decode cX12_init 93 = .ok (.newarray .int, 2) := by decide +kernel
theorem dX12_init_95 : decode cX12_init 95 = .ok (.putfield 42, 3) := by decide +kernel
theorem dX12_init_98 : decode cX12_init 98 = .ok (.aload_n 0, 1) := by decide +kernel
theorem dX12_init_99 : decode cX12_init 99 = .ok (.sipush 1600, 3) := by decide +kernel
theorem dX12_init_102 : decode cX12_init 102 = .ok (.newarray .int, 2) := by decide +kernel
theorem dX12_init_104 : decode cX12_init 104 = .ok (.putfield 45, 3) := by decide +kernel
theorem dX12_init_107 : decode cX12_init 107 = .ok (.aload_n 0, 1) := by decide +kernel
theorem dX12_init_108 : decode cX12_init 108 = .ok (.sipush 1600, 3) := by decide +kernel
theorem dX12_init_111 : decode cX12_init 111 = .ok (.newarray .int, 2) := by decide +kernel
theorem dX12_init_113 : decode cX12_init 113 = .ok (.putfield 48, 3) := by decide +kernel
theorem dX12_init_116 : decode cX12_init 116 = .ok (.aload_n 0, 1) := by decide +kernel
theorem dX12_init_117 : decode cX12_init 117 = .ok (.sipush 1600, 3) := by decide +kernel
theorem dX12_init_120 : decode cX12_init 120 = .ok (.newarray .int, 2) := by decide +kernel
theorem dX12_init_122 : decode cX12_init 122 = .ok (.putfield 51, 3) := by decide +kernel
theorem dX12_init_125 : decode cX12_init 125 = .ok (.aload_n 0, 1) := by decide +kernel
theorem dX12_init_126 : decode cX12_init 126 = .ok (.sipush 1600, 3) := by decide +kernel
theorem dX12_init_129 : decode cX12_init 129 = .ok (.newarray .int, 2) := by decide +kernel
theorem dX12_init_131 : decode cX12_init 131 = .ok (.putfield 54, 3) := by decide +kernel
theorem dX12_init_134 : decode cX12_init 134 = .ok (.aload_n 0, 1) := by decide +kernel
theorem dX12_init_135 : decode cX12_init 135 = .ok (.sipush 1600, 3) := by decide +kernel
theorem dX12_init_138 : decode cX12_init 138 = .ok (.newarray .int, 2) := by decide +kernel
theorem dX12_init_140 : decode cX12_init 140 = .ok (.putfield 57, 3) := by decide +kernel
theorem dX12_init_143 : decode cX12_init 143 = .ok (.aload_n 0, 1) := by decide +kernel
theorem dX12_init_144 : decode cX12_init 144 = .ok (.sipush 1608, 3) := by decide +kernel
theorem dX12_init_147 : decode cX12_init 147 = .ok (.newarray .long, 2) := by decide +kernel
theorem dX12_init_149 : decode cX12_init 149 = .ok (.putfield 60, 3) := by decide +kernel
theorem dX12_init_152 : decode cX12_init 152 = .ok (.aload_n 0, 1) := by decide +kernel
theorem dX12_init_153 : decode cX12_init 153 = .ok (.sipush 1608, 3) := by decide +kernel
theorem dX12_init_156 : decode cX12_init 156 = .ok (.newarray .long, 2) := by decide +kernel
theorem dX12_init_158 : decode cX12_init 158 = .ok (.putfield 63, 3) := by decide +kernel
theorem dX12_init_161 : decode cX12_init 161 = .ok (.aload_n 0, 1) := by decide +kernel
theorem dX12_init_162 : decode cX12_init 162 = .ok (.sipush 19200, 3) := by decide +kernel
theorem dX12_init_165 : decode cX12_init 165 = .ok (.newarray .int, 2) := by decide +kernel
theorem dX12_init_167 : decode cX12_init 167 = .ok (.putfield 66, 3) := by decide +kernel
theorem dX12_init_170 : decode cX12_init 170 = .ok (.aload_n 0, 1) := by decide +kernel
theorem dX12_init_171 : decode cX12_init 171 = .ok (.sipush 19200, 3) := by decide +kernel
theorem dX12_init_174 : decode cX12_init 174 = .ok (.newarray .int, 2) := by decide +kernel
theorem dX12_init_176 : decode cX12_init 176 = .ok (.putfield 69, 3) := by decide +kernel
theorem dX12_init_179 : decode cX12_init 179 = .ok (.aload_n 0, 1) := by decide +kernel
theorem dX12_init_180 : decode cX12_init 180 = .ok (.sipush 19200, 3) := by decide +kernel
theorem dX12_init_183 : decode cX12_init 183 = .ok (.newarray .int, 2) := by decide +kernel
theorem dX12_init_185 : decode cX12_init 185 = .ok (.putfield 72, 3) := by decide +kernel
theorem dX12_init_188 : decode cX12_init 188 = .ok (.aload_n 0, 1) := by decide +kernel
theorem dX12_init_189 : decode cX12_init 189 = .ok (.sipush 19200, 3) := by decide +kernel
theorem dX12_init_192 : decode cX12_init 192 = .ok (.newarray .int, 2) := by decide +kernel
theorem dX12_init_194 : decode cX12_init 194 = .ok (.putfield 75, 3) := by decide +kernel
theorem dX12_init_197 : decode cX12_init 197 = .ok (.aload_n 0, 1) := by decide +kernel
theorem dX12_init_198 : decode cX12_init 198 = .ok (.bipush 8, 2) := by decide +kernel
theorem dX12_init_200 : decode cX12_init 200 = .ok (.newarray .int, 2) := by decide +kernel
theorem dX12_init_202 : decode cX12_init 202 = .ok (.putfield 78, 3) := by decide +kernel
theorem dX12_init_205 : decode cX12_init 205 = .ok (.aload_n 0, 1) := by decide +kernel
theorem dX12_init_206 : decode cX12_init 206 = .ok (.bipush 8, 2) := by decide +kernel
theorem dX12_init_208 : decode cX12_init 208 = .ok (.newarray .int, 2) := by decide +kernel
theorem dX12_init_210 : decode cX12_init 210 = .ok (.putfield 81, 3) := by decide +kernel
theorem dX12_init_213 : decode cX12_init 213 = .ok (.aload_n 0, 1) := by decide +kernel
theorem dX12_init_214 : decode cX12_init 214 = .ok (.bipush 32, 2) := by decide +kernel
theorem dX12_init_216 : decode cX12_init 216 = .ok (.newarray .int, 2) := by decide +kernel
theorem dX12_init_218 : decode cX12_init 218 = .ok (.putfield 84, 3) := by decide +kernel
theorem dX12_init_221 : decode cX12_init 221 = .ok (.aload_n 0, 1) := by decide +kernel
theorem dX12_init_222 : decode cX12_init 222 = .ok (.bipush 32, 2) := by decide +kernel
theorem dX12_init_224 : decode cX12_init 224 = .ok (.newarray .int, 2) := by decide +kernel
theorem dX12_init_226 : decode cX12_init 226 = .ok (.putfield 87, 3) := by decide +kernel
theorem dX12_init_229 : decode cX12_init 229 = .ok (.aload_n 0, 1) := by decide +kernel
theorem dX12_init_230 : decode cX12_init 230 = .ok (.bipush 32, 2) := by decide +kernel
theorem dX12_init_232 : decode cX12_init 232 = .ok (.newarray .long, 2) := by decide +kernel
theorem dX12_init_234 : decode cX12_init 234 = .ok (.putfield 90, 3) := by decide +kernel
theorem dX12_init_237 : decode cX12_init 237 = .ok (.aload_n 0, 1) := by decide +kernel
theorem dX12_init_238 : decode cX12_init 238 = .ok (.bipush 32, 2) := by decide +kernel
theorem dX12_init_240 : decode cX12_init 240 = .ok (.newarray .long, 2) := by decide +kernel
theorem dX12_init_242 : decode cX12_init 242 = .ok (.putfield 93, 3) := by decide +kernel
theorem dX12_init_245 : decode cX12_init 245 = .ok (.aload_n 0, 1) := by decide +kernel
theorem dX12_init_246 : decode cX12_init 246 = .ok (.bipush 32, 2) := by decide +kernel
theorem dX12_init_248 : decode cX12_init 248 = .ok (.newarray .int, 2) := by decide +kernel
theorem dX12_init_250 : decode cX12_init 250 = .ok (.putfield 96, 3) := by decide +kernel
theorem dX12_init_253 : decode cX12_init 253 = .ok (.aload_n 0, 1) := by decide +kernel
theorem dX12_init_254 : decode cX12_init 254 = .ok (.bipush 32, 2) := by decide +kernel
theorem dX12_init_256 : decode cX12_init 256 = .ok (.newarray .int, 2) := by decide +kernel
theorem dX12_init_258 : decode cX12_init 258 = .ok (.putfield 99, 3) := by decide +kernel
theorem dX12_init_261 : decode cX12_init 261 = .ok (.aload_n 0, 1) := by decide +kernel
theorem dX12_init_262 : decode cX12_init 262 = .ok (.bipush 32, 2) := by decide +kernel
theorem dX12_init_264 : decode cX12_init 264 = .ok (.newarray .long, 2) := by decide +kernel
theorem dX12_init_266 : decode cX12_init 266 = .ok (.putfield 102, 3) := by decide +kernel
theorem dX12_init_269 : decode cX12_init 269 = .ok (.aload_n 0, 1) := by decide +kernel
theorem dX12_init_270 : decode cX12_init 270 = .ok (.bipush 32, 2) := by decide +kernel
theorem dX12_init_272 : decode cX12_init 272 = .ok (.newarray .long, 2) := by decide +kernel
theorem dX12_init_274 : decode cX12_init 274 = .ok (.putfield 105, 3) := by decide +kernel
theorem dX12_init_277 : decode cX12_init 277 = .ok (.aload_n 0, 1) := by decide +kernel
theorem dX12_init_278 : decode cX12_init 278 = .ok (.sipush 20000, 3) := by decide +kernel
theorem dX12_init_281 : decode cX12_init 281 = .ok (.newarray .int, 2) := by decide +kernel
theorem dX12_init_283 : decode cX12_init 283 = .ok (.putfield 108, 3) := by decide +kernel
theorem dX12_init_286 : decode cX12_init 286 = .ok (.return_, 1) := by decide +kernel
theorem dX12_isParsed_0 : decode cX12_isParsed 0 = .ok (.iload_n 1, 1) := by decide +kernel
theorem dX12_isParsed_1 : decode cX12_isParsed 1 = .ok (.sipush 3002, 3) := by decide +kernel
theorem dX12_isParsed_4 : decode cX12_isParsed 4 = .ok (.imul, 1) := by decide +kernel
theorem dX12_isParsed_5 : decode cX12_isParsed 5 = .ok (.istore_n 3, 1) := by decide +kernel
theorem dX12_isParsed_6 : decode cX12_isParsed 6 = .ok (.aload_n 0, 1) := by decide +kernel
theorem dX12_isParsed_7 : decode cX12_isParsed 7 = .ok (.iconst 0, 1) := by decide +kernel
theorem dX12_isParsed_8 : decode cX12_isParsed 8 = .ok (.putfield 137, 3) := by decide +kernel
theorem dX12_isParsed_11 : decode cX12_isParsed 11 = .ok (.aload_n 0, 1) := by decide +kernel
theorem dX12_isParsed_12 : decode cX12_isParsed 12 = .ok (.getfield 26, 3) := by decide +kernel
theorem dX12_isParsed_15 : decode cX12_isParsed 15 = .ok (.iload_n 1, 1) := by decide +kernel
theorem dX12_isParsed_16 : decode cX12_isParsed 16 = .ok (.iconst 0, 1) := by decide +kernel
theorem dX12_isParsed_17 : decode cX12_isParsed 17 = .ok (.iastore, 1) := by decide +kernel
theorem dX12_isParsed_18 : decode cX12_isParsed 18 = .ok (.aload_n 0, 1) := by decide +kernel
theorem dX12_isParsed_19 : decode cX12_isParsed 19 = .ok (.getfield 29, 3) := by decide +kernel
theorem dX12_isParsed_22 : decode cX12_isParsed 22 = .ok (.iload_n 1, 1) := by decide +kernel
theorem dX12_isParsed_23 : decode cX12_isParsed 23 = .ok (.iconst 0, 1) := by decide +kernel
theorem dX12_isParsed_24 : decode cX12_isParsed 24 = .ok (.iastore, 1) := by decide +kernel
theorem dX12_isParsed_25 : decode cX12_isParsed 25 = .ok (.aload_n 0, 1) := by decide +kernel
theorem dX12_isParsed_26 : decode cX12_isParsed 26 = .ok (.getfield 36, 3) := by decide +kernel
theorem dX12_isParsed_29 : decode cX12_isParsed 29 = .ok (.iload_n 1, 1) := by decide +kernel
theorem dX12_isParsed_30 : decode cX12_isParsed 30 = .ok (.iconst 0, 1) := by decide +kernel
theorem dX12_isParsed_31 : decode cX12_isParsed 31 = .ok (.iastore, 1) := by decide +kernel
theorem dX12_isParsed_32 : decode cX12_isParsed 32 = .ok (.aload_n 0, 1) := by decide +kernel
theorem dX12_isParsed_33 : decode cX12_isParsed 33 = .ok (.iconst 0, 1) := by decide +kernel
theorem dX12_isParsed_34 : decode cX12_isParsed 34 = .ok (.putfield 143, 3) := by decide +kernel
theorem dX12_isParsed_37 : decode cX12_isParsed 37 = .ok (.iconst 0, 1) := by decide +kernel
theorem dX12_isParsed_38 : decode cX12_isParsed 38 = .ok (.istore 4, 2) := by decide +kernel
theorem dX12_isParsed_40 : decode cX12_isParsed 40 = .ok (.iconst 0, 1) := by decide +kernel
theorem dX12_isParsed_41 : decode cX12_isParsed 41 = .ok (.istore 5, 2) := by decide +kernel
theorem dX12_isParsed_43 : decode cX12_isParsed 43 = .ok (.iload 5, 2) := by decide +kernel
theorem dX12_isParsed_45 : decode cX12_isParsed 45 = .ok (.iload_n 2, 1) := by decide +kernel
theorem dX12_isParsed_46 : decode cX12_isParsed 46 = .ok (.if_icmp .ge 287, 3) := by decide +kernel
theorem dX12_isParsed_333 : decode cX12_isParsed 333 = .ok (.aload_n 0, 1) := by decide +kernel
theorem dX12_isParsed_334 : decode cX12_isParsed 334 = .ok (.getfield 143, 3) := by decide +kernel
theorem dX12_isParsed_337 : decode cX12_isParsed 337 = .ok (.ifCond .le 12, 3) := by decide +kernel
theorem dX12_isParsed_349 : decode cX12_isParsed 349 = .ok (.aload_n 0, 1) := by decide +kernel
theorem dX12_isParsed_350 : decode cX12_isParsed 350 = .ok (.getfield 23, 3) := by decide +kernel
theorem dX12_isParsed_353 : decode cX12_isParsed 353 = .ok (.iload_n 1, 1) := by decide +kernel
theorem dX12_isParsed_354 : decode cX12_isParsed 354 = .ok (.iload_n 2, 1) := by decide +kernel
theorem dX12_isParsed_355 : decode cX12_isParsed 355 = .ok (.ifCond .le 24, 3) := by decide +kernel
theorem dX12_isParsed_379 : decode cX12_isParsed 379 = .ok (.iload_n 2, 1) := by decide +kernel
theorem dX12_isParsed_380 : decode cX12_isParsed 380 = .ok (.iastore, 1) := by decide +kernel
theorem dX12_isParsed_381 : decode cX12_isParsed 381 = .ok (.aload_n 0, 1) := by decide +kernel
theorem dX12_isParsed_382 : decode cX12_isParsed 382 = .ok (.getfield 20, 3) := by decide +kernel
theorem dX12_isParsed_385 : decode cX12_isParsed 385 = .ok (.iload_n 3, 1) := by decide +kernel
theorem dX12_isParsed_386 : decode cX12_isParsed 386 = .ok (.iload_n 2, 1) := by decide +kernel
theorem dX12_isParsed_387 : decode cX12_isParsed 387 = .ok (.iadd, 1) := by decide +kernel
theorem dX12_isParsed_388 : decode cX12_isParsed 388 = .ok (.bipush 10, 2) := by decide +kernel
theorem dX12_isParsed_390 : decode cX12_isParsed 390 = .ok (.iastore, 1) := by decide +kernel
theorem dX12_isParsed_391 : decode cX12_isParsed 391 = .ok (.aload_n 0, 1) := by decide +kernel
theorem dX12_isParsed_392 : decode cX12_isParsed 392 = .ok (.iload_n 1, 1) := by decide +kernel
theorem dX12_isParsed_393 : decode cX12_isParsed 393 = .ok (.invokevirtual 160, 3) := by decide +kernel
theorem dX12_isParsed_396 : decode cX12_isParsed 396 = .ok (.iconst 1, 1) := by decide +kernel
theorem dX12_isParsed_397 : decode cX12_isParsed 397 = .ok (.ireturn, 1) := by decide +kernel
theorem dX12_isRow_0 : decode cX12_isRow 0 = .ok (.aload_n 0, 1) := by decide +kernel
theorem dX12_isRow_1 : decode cX12_isRow 1 = .ok (.iload_n 1, 1) := by decide +kernel
theorem dX12_isRow_2 : decode cX12_isRow 2 = .ok (.invokevirtual 115, 3) := by decide +kernel
theorem dX12_isRow_5 : decode cX12_isRow 5 = .ok (.ifCond .eq 21, 3) := by decide +kernel
theorem dX12_isRow_26 : decode cX12_isRow 26 = .ok (.iconst 0, 1) := by decide +kernel
theorem dX12_isRow_27 : decode cX12_isRow 27 = .ok (.ireturn, 1) := by decide +kernel
theorem dX12_isStrand_0 : decode cX12_isStrand 0 = .ok (.aload_n 0, 1) := by decide +kernel
theorem dX12_isStrand_1 : decode cX12_isStrand 1 = .ok (.iload_n 1, 1) := by decide +kernel
theorem dX12_isStrand_2 : decode cX12_isStrand 2 = .ok (.iload_n 2, 1) := by decide +kernel
theorem dX12_isStrand_3 : decode cX12_isStrand 3 = .ok (.invokevirtual 119, 3) := by decide +kernel
theorem dX12_isStrand_6 : decode cX12_isStrand 6 = .ok (.ifCond .eq 27, 3) := by decide +kernel
theorem dX12_isStrand_33 : decode cX12_isStrand 33 = .ok (.iconst 0, 1) := by decide +kernel
theorem dX12_isStrand_34 : decode cX12_isStrand 34 = .ok (.ireturn, 1) := by decide +kernel
theorem dX12_isTable_0 : decode cX12_isTable 0 = .ok (.iload_n 1, 1) := by decide +kernel
theorem dX12_isTable_1 : decode cX12_isTable 1 = .ok (.ifCond .lt 22, 3) := by decide +kernel
theorem dX12_isTable_4 : decode cX12_isTable 4 = .ok (.iload_n 1, 1) := by decide +kernel
theorem dX12_isTable_5 : decode cX12_isTable 5 = .ok (.bipush 8, 2) := by decide +kernel
theorem dX12_isTable_7 : decode cX12_isTable 7 = .ok (.if_icmp .ge 16, 3) := by decide +kernel
theorem dX12_isTable_10 : decode cX12_isTable 10 = .ok (.aload_n 0, 1) := by decide +kernel
theorem dX12_isTable_11 : decode cX12_isTable 11 = .ok (.getfield 16, 3) := by decide +kernel
theorem dX12_isTable_14 : decode cX12_isTable 14 = .ok (.iload_n 1, 1) := by decide +kernel
theorem dX12_isTable_15 : decode cX12_isTable 15 = .ok (.baload, 1) := by decide +kernel
theorem dX12_isTable_16 : decode cX12_isTable 16 = .ok (.ifCond .eq 7, 3) := by decide +kernel
theorem dX12_isTable_23 : decode cX12_isTable 23 = .ok (.iconst 0, 1) := by decide +kernel
theorem dX12_isTable_24 : decode cX12_isTable 24 = .ok (.ireturn, 1) := by decide +kernel
theorem dX12_kind_0 : decode cX12_kind 0 = .ok (.aload_n 0, 1) := by decide +kernel
theorem dX12_kind_1 : decode cX12_kind 1 = .ok (.aload_n 0, 1) := by decide +kernel
theorem dX12_kind_2 : decode cX12_kind 2 = .ok (.iload_n 1, 1) := by decide +kernel
theorem dX12_kind_3 : decode cX12_kind 3 = .ok (.invokevirtual 115, 3) := by decide +kernel
theorem dX12_kind_6 : decode cX12_kind 6 = .ok (.ifCond .eq 21, 3) := by decide +kernel
theorem dX12_kind_27 : decode cX12_kind 27 = .ok (.iconst 0, 1) := by decide +kernel
theorem dX12_kind_28 : decode cX12_kind 28 = .ok (.iconst 1, 1) := by decide +kernel
theorem dX12_kind_29 : decode cX12_kind 29 = .ok (.iconst 1, 1) := by decide +kernel
theorem dX12_kind_30 : decode cX12_kind 30 = .ok (.invokevirtual 295, 3) := by decide +kernel
theorem dX12_kind_33 : decode cX12_kind 33 = .ok (.ifCond .ne 5, 3) := by decide +kernel
theorem dX12_kind_36 : decode cX12_kind 36 = .ok (.iconst 0, 1) := by decide +kernel
theorem dX12_kind_37 : decode cX12_kind 37 = .ok (.ireturn, 1) := by decide +kernel
theorem dX12_length_0 : decode cX12_length 0 = .ok (.aload_n 0, 1) := by decide +kernel
theorem dX12_length_1 : decode cX12_length 1 = .ok (.aload_n 0, 1) := by decide +kernel
theorem dX12_length_2 : decode cX12_length 2 = .ok (.iload_n 1, 1) := by decide +kernel
theorem dX12_length_3 : decode cX12_length 3 = .ok (.iload_n 2, 1) := by decide +kernel
theorem dX12_length_4 : decode cX12_length 4 = .ok (.iload_n 3, 1) := by decide +kernel
theorem dX12_length_5 : decode cX12_length 5 = .ok (.invokevirtual 305, 3) := by decide +kernel
theorem dX12_length_8 : decode cX12_length 8 = .ok (.iload 4, 2) := by decide +kernel
theorem dX12_length_10 : decode cX12_length 10 = .ok (.iconst 1, 1) := by decide +kernel
theorem dX12_length_11 : decode cX12_length 11 = .ok (.invokestatic 299, 3) := by decide +kernel
theorem dX12_length_14 : decode cX12_length 14 = .ok (.iconst 1, 1) := by decide +kernel
theorem dX12_length_15 : decode cX12_length 15 = .ok (.invokevirtual 295, 3) := by decide +kernel
theorem dX12_length_18 : decode cX12_length 18 = .ok (.ifCond .ne 5, 3) := by decide +kernel
theorem dX12_length_21 : decode cX12_length 21 = .ok (.iconst 0, 1) := by decide +kernel
theorem dX12_length_22 : decode cX12_length 22 = .ok (.ireturn, 1) := by decide +kernel
theorem dX12_may_0 : decode cX12_may 0 = .ok (.iload_n 0, 1) := by decide +kernel
theorem dX12_may_1 : decode cX12_may 1 = .ok (.ifCond .lt 12, 3) := by decide +kernel
theorem dX12_may_4 : decode cX12_may 4 = .ok (.iload_n 0, 1) := by decide +kernel
theorem dX12_may_5 : decode cX12_may 5 = .ok (.iload_n 1, 1) := by decide +kernel
theorem dX12_may_6 : decode cX12_may 6 = .ok (.if_icmp .gt 7, 3) := by decide +kernel
theorem dX12_may_9 : decode cX12_may 9 = .ok (.iconst 1, 1) := by decide +kernel
theorem dX12_may_10 : decode cX12_may 10 = .ok (.goto 4, 3) := by decide +kernel
theorem dX12_may_13 : decode cX12_may 13 = .ok (.iconst 0, 1) := by decide +kernel
theorem dX12_may_14 : decode cX12_may 14 = .ok (.ireturn, 1) := by decide +kernel
theorem dX12_misfit__0 : decode cX12_misfit_ 0 = .ok (.aload_n 0, 1) := by decide +kernel
theorem dX12_misfit__1 : decode cX12_misfit_ 1 = .ok (.aload_n 0, 1) := by decide +kernel
theorem dX12_misfit__2 : decode cX12_misfit_ 2 = .ok (.iload_n 1, 1) := by decide +kernel
theorem dX12_misfit__3 : decode cX12_misfit_ 3 = .ok (.invokevirtual 115, 3) := by decide +kernel
theorem dX12_misfit__6 : decode cX12_misfit_ 6 = .ok (.iconst 1, 1) := by decide +kernel
theorem dX12_misfit__7 : decode cX12_misfit_ 7 = .ok (.iconst 1, 1) := by decide +kernel
theorem dX12_misfit__8 : decode cX12_misfit_ 8 = .ok (.invokevirtual 295, 3) := by decide +kernel
theorem dX12_misfit__11 : decode cX12_misfit_ 11 = .ok (.ifCond .eq 12, 3) := by decide +kernel
theorem dX12_misfit__23 : decode cX12_misfit_ 23 = .ok (.iconst 0, 1) := by decide +kernel
theorem dX12_misfit__24 : decode cX12_misfit_ 24 = .ok (.ireturn, 1) := by decide +kernel
theorem dX12_out_0 : decode cX12_out 0 = .ok (.aload_n 0, 1) := by decide +kernel
theorem dX12_out_1 : decode cX12_out 1 = .ok (.iconst 0, 1) := by decide +kernel
theorem dX12_out_2 : decode cX12_out 2 = .ok (.putfield 111, 3) := by decide +kernel
theorem dX12_out_5 : decode cX12_out 5 = .ok (.iload_n 1, 1) := by decide +kernel
theorem dX12_out_6 : decode cX12_out 6 = .ok (.ifCond .lt 20, 3) := by decide +kernel
theorem dX12_out_9 : decode cX12_out 9 = .ok (.iload_n 1, 1) := by decide +kernel
theorem dX12_out_10 : decode cX12_out 10 = .ok (.aload_n 0, 1) := by decide +kernel
theorem dX12_out_11 : decode cX12_out 11 = .ok (.getfield 354, 3) := by decide +kernel
theorem dX12_out_14 : decode cX12_out 14 = .ok (.if_icmp .ge 12, 3) := by decide +kernel
theorem dX12_out_26 : decode cX12_out 26 = .ok (.iconst (-1), 1) := by decide +kernel
theorem dX12_out_27 : decode cX12_out 27 = .ok (.ireturn, 1) := by decide +kernel
theorem dX12_read_0 : decode cX12_read 0 = .ok (.aload_n 0, 1) := by decide +kernel
theorem dX12_read_1 : decode cX12_read 1 = .ok (.iconst 0, 1) := by decide +kernel
theorem dX12_read_2 : decode cX12_read 2 = .ok (.putfield 111, 3) := by decide +kernel
theorem dX12_read_5 : decode cX12_read 5 = .ok (.aload_n 0, 1) := by decide +kernel
theorem dX12_read_6 : decode cX12_read 6 = .ok (.invokevirtual 285, 3) := by decide +kernel
theorem dX12_read_9 : decode cX12_read 9 = .ok (.istore_n 1, 1) := by decide +kernel
theorem dX12_read_10 : decode cX12_read 10 = .ok (.aload_n 0, 1) := by decide +kernel
theorem dX12_read_11 : decode cX12_read 11 = .ok (.getfield 282, 3) := by decide +kernel
theorem dX12_read_14 : decode cX12_read 14 = .ok (.istore_n 2, 1) := by decide +kernel
theorem dX12_read_15 : decode cX12_read 15 = .ok (.aload_n 0, 1) := by decide +kernel
theorem dX12_read_16 : decode cX12_read 16 = .ok (.iconst 0, 1) := by decide +kernel
theorem dX12_read_17 : decode cX12_read 17 = .ok (.putfield 282, 3) := by decide +kernel
theorem dX12_read_20 : decode cX12_read 20 = .ok (.iload_n 1, 1) := by decide +kernel
theorem dX12_read_21 : decode cX12_read 21 = .ok (.iconst (-1), 1) := by decide +kernel
theorem dX12_read_22 : decode cX12_read 22 = .ok (.if_icmp .ne 6, 3) := by decide +kernel
theorem dX12_read_28 : decode cX12_read 28 = .ok (.iconst 0, 1) := by decide +kernel
theorem dX12_read_29 : decode cX12_read 29 = .ok (.istore_n 3, 1) := by decide +kernel
theorem dX12_read_30 : decode cX12_read 30 = .ok (.iload_n 3, 1) := by decide +kernel
theorem dX12_read_31 : decode cX12_read 31 = .ok (.iload_n 2, 1) := by decide +kernel
theorem dX12_read_32 : decode cX12_read 32 = .ok (.if_icmp .ge 27, 3) := by decide +kernel
theorem dX12_read_59 : decode cX12_read 59 = .ok (.aload_n 0, 1) := by decide +kernel
theorem dX12_read_60 : decode cX12_read 60 = .ok (.getfield 16, 3) := by decide +kernel
theorem dX12_read_63 : decode cX12_read 63 = .ok (.iload_n 1, 1) := by decide +kernel
theorem dX12_read_64 : decode cX12_read 64 = .ok (.aload_n 0, 1) := by decide +kernel
theorem dX12_read_65 : decode cX12_read 65 = .ok (.iload_n 1, 1) := by decide +kernel
theorem dX12_read_66 : decode cX12_read 66 = .ok (.iload_n 2, 1) := by decide +kernel
theorem dX12_read_67 : decode cX12_read 67 = .ok (.invokevirtual 289, 3) := by decide +kernel
theorem dX12_read_70 : decode cX12_read 70 = .ok (.bastore, 1) := by decide +kernel
theorem dX12_read_71 : decode cX12_read 71 = .ok (.aload_n 0, 1) := by decide +kernel
theorem dX12_read_72 : decode cX12_read 72 = .ok (.aload_n 0, 1) := by decide +kernel
theorem dX12_read_73 : decode cX12_read 73 = .ok (.getfield 137, 3) := by decide +kernel
theorem dX12_read_76 : decode cX12_read 76 = .ok (.putfield 292, 3) := by decide +kernel
theorem dX12_read_79 : decode cX12_read 79 = .ok (.aload_n 0, 1) := by decide +kernel
theorem dX12_read_80 : decode cX12_read 80 = .ok (.getfield 16, 3) := by decide +kernel
theorem dX12_read_83 : decode cX12_read 83 = .ok (.iload_n 1, 1) := by decide +kernel
theorem dX12_read_84 : decode cX12_read 84 = .ok (.baload, 1) := by decide +kernel
theorem dX12_read_85 : decode cX12_read 85 = .ok (.ifCond .eq 7, 3) := by decide +kernel
theorem dX12_read_88 : decode cX12_read 88 = .ok (.iload_n 1, 1) := by decide +kernel
theorem dX12_read_89 : decode cX12_read 89 = .ok (.goto 10, 3) := by decide +kernel
theorem dX12_read_99 : decode cX12_read 99 = .ok (.ireturn, 1) := by decide +kernel
theorem dX12_row_0 : decode cX12_row 0 = .ok (.aload_n 0, 1) := by decide +kernel
theorem dX12_row_1 : decode cX12_row 1 = .ok (.aload_n 0, 1) := by decide +kernel
theorem dX12_row_2 : decode cX12_row 2 = .ok (.iload_n 1, 1) := by decide +kernel
theorem dX12_row_3 : decode cX12_row 3 = .ok (.iload_n 2, 1) := by decide +kernel
theorem dX12_row_4 : decode cX12_row 4 = .ok (.invokevirtual 119, 3) := by decide +kernel
theorem dX12_row_7 : decode cX12_row 7 = .ok (.iload_n 3, 1) := by decide +kernel
theorem dX12_row_8 : decode cX12_row 8 = .ok (.iconst 1, 1) := by decide +kernel
theorem dX12_row_9 : decode cX12_row 9 = .ok (.invokestatic 299, 3) := by decide +kernel
theorem dX12_row_12 : decode cX12_row 12 = .ok (.iconst 1, 1) := by decide +kernel
theorem dX12_row_13 : decode cX12_row 13 = .ok (.invokevirtual 295, 3) := by decide +kernel
theorem dX12_row_16 : decode cX12_row 16 = .ok (.ifCond .ne 5, 3) := by decide +kernel
theorem dX12_row_19 : decode cX12_row 19 = .ok (.iconst 0, 1) := by decide +kernel
theorem dX12_row_20 : decode cX12_row 20 = .ok (.ireturn, 1) := by decide +kernel
theorem dX12_same_0 : decode cX12_same 0 = .ok (.aload_n 0, 1) := by decide +kernel
theorem dX12_same_1 : decode cX12_same 1 = .ok (.aload_n 0, 1) := by decide +kernel
theorem dX12_same_2 : decode cX12_same 2 = .ok (.iload_n 1, 1) := by decide +kernel
theorem dX12_same_3 : decode cX12_same 3 = .ok (.invokevirtual 115, 3) := by decide +kernel
theorem dX12_same_6 : decode cX12_same 6 = .ok (.ifCond .eq 15, 3) := by decide +kernel
theorem dX12_same_21 : decode cX12_same 21 = .ok (.iconst 0, 1) := by decide +kernel
theorem dX12_same_22 : decode cX12_same 22 = .ok (.iconst 1, 1) := by decide +kernel
theorem dX12_same_23 : decode cX12_same 23 = .ok (.iconst 1, 1) := by decide +kernel
theorem dX12_same_24 : decode cX12_same 24 = .ok (.invokevirtual 295, 3) := by decide +kernel
theorem dX12_same_27 : decode cX12_same 27 = .ok (.ifCond .ne 5, 3) := by decide +kernel
theorem dX12_same_30 : decode cX12_same 30 = .ok (.iconst 0, 1) := by decide +kernel
theorem dX12_same_31 : decode cX12_same 31 = .ok (.ireturn, 1) := by decide +kernel
theorem dX12_strand_0 : decode cX12_strand 0 = .ok (.aload_n 0, 1) := by decide +kernel
theorem dX12_strand_1 : decode cX12_strand 1 = .ok (.aload_n 0, 1) := by decide +kernel
theorem dX12_strand_2 : decode cX12_strand 2 = .ok (.iload_n 1, 1) := by decide +kernel
theorem dX12_strand_3 : decode cX12_strand 3 = .ok (.iload_n 2, 1) := by decide +kernel
theorem dX12_strand_4 : decode cX12_strand 4 = .ok (.iload_n 3, 1) := by decide +kernel
theorem dX12_strand_5 : decode cX12_strand 5 = .ok (.invokevirtual 305, 3) := by decide +kernel
theorem dX12_strand_8 : decode cX12_strand 8 = .ok (.iload 4, 2) := by decide +kernel
theorem dX12_strand_10 : decode cX12_strand 10 = .ok (.iconst 3, 1) := by decide +kernel
theorem dX12_strand_11 : decode cX12_strand 11 = .ok (.invokestatic 299, 3) := by decide +kernel
theorem dX12_strand_14 : decode cX12_strand 14 = .ok (.iconst 1, 1) := by decide +kernel
theorem dX12_strand_15 : decode cX12_strand 15 = .ok (.invokevirtual 295, 3) := by decide +kernel
theorem dX12_strand_18 : decode cX12_strand 18 = .ok (.ifCond .ne 5, 3) := by decide +kernel
theorem dX12_strand_21 : decode cX12_strand 21 = .ok (.iconst 0, 1) := by decide +kernel
theorem dX12_strand_22 : decode cX12_strand 22 = .ok (.ireturn, 1) := by decide +kernel
theorem dX12_thrown_0 : decode cX12_thrown 0 = .ok (.aload_n 0, 1) := by decide +kernel
theorem dX12_thrown_1 : decode cX12_thrown 1 = .ok (.getfield 111, 3) := by decide +kernel
theorem dX12_thrown_4 : decode cX12_thrown 4 = .ok (.ireturn, 1) := by decide +kernel
theorem dX12_time_0 : decode cX12_time 0 = .ok (.aload_n 0, 1) := by decide +kernel
theorem dX12_time_1 : decode cX12_time 1 = .ok (.aload_n 0, 1) := by decide +kernel
theorem dX12_time_2 : decode cX12_time 2 = .ok (.iload_n 1, 1) := by decide +kernel
theorem dX12_time_3 : decode cX12_time 3 = .ok (.iload_n 2, 1) := by decide +kernel
theorem dX12_time_4 : decode cX12_time 4 = .ok (.invokevirtual 119, 3) := by decide +kernel
theorem dX12_time_7 : decode cX12_time 7 = .ok (.ifCond .ne 21, 3) := by decide +kernel
theorem dX12_time_10 : decode cX12_time 10 = .ok (.aload_n 0, 1) := by decide +kernel
theorem dX12_time_11 : decode cX12_time 11 = .ok (.iload_n 1, 1) := by decide +kernel
theorem dX12_time_12 : decode cX12_time 12 = .ok (.invokevirtual 115, 3) := by decide +kernel
theorem dX12_time_15 : decode cX12_time 15 = .ok (.ifCond .eq 17, 3) := by decide +kernel
theorem dX12_time_32 : decode cX12_time 32 = .ok (.iconst 0, 1) := by decide +kernel
theorem dX12_time_33 : decode cX12_time 33 = .ok (.iload_n 3, 1) := by decide +kernel
theorem dX12_time_34 : decode cX12_time 34 = .ok (.iconst 1, 1) := by decide +kernel
theorem dX12_time_35 : decode cX12_time 35 = .ok (.invokestatic 299, 3) := by decide +kernel
theorem dX12_time_38 : decode cX12_time 38 = .ok (.aload_n 0, 1) := by decide +kernel
theorem dX12_time_39 : decode cX12_time 39 = .ok (.iload_n 1, 1) := by decide +kernel
theorem dX12_time_40 : decode cX12_time 40 = .ok (.invokevirtual 115, 3) := by decide +kernel
theorem dX12_time_43 : decode cX12_time 43 = .ok (.ifCond .eq 16, 3) := by decide +kernel
theorem dX12_time_59 : decode cX12_time 59 = .ok (.iconst 0, 1) := by decide +kernel
theorem dX12_time_60 : decode cX12_time 60 = .ok (.invokevirtual 295, 3) := by decide +kernel
theorem dX12_time_63 : decode cX12_time 63 = .ok (.ifCond .ne 5, 3) := by decide +kernel
theorem dX12_time_66 : decode cX12_time 66 = .ok (.iconst 0, 1) := by decide +kernel
theorem dX12_time_67 : decode cX12_time 67 = .ok (.ireturn, 1) := by decide +kernel
theorem dX12_token_0 : decode cX12_token 0 = .ok (.aload_n 0, 1) := by decide +kernel
theorem dX12_token_1 : decode cX12_token 1 = .ok (.iload_n 1, 1) := by decide +kernel
theorem dX12_token_2 : decode cX12_token 2 = .ok (.iload_n 2, 1) := by decide +kernel
theorem dX12_token_3 : decode cX12_token 3 = .ok (.invokevirtual 119, 3) := by decide +kernel
theorem dX12_token_6 : decode cX12_token 6 = .ok (.ifCond .eq 22, 3) := by decide +kernel
theorem dX12_token_28 : decode cX12_token 28 = .ok (.iconst 0, 1) := by decide +kernel
theorem dX12_token_29 : decode cX12_token 29 = .ok (.istore 5, 2) := by decide +kernel
theorem dX12_token_31 : decode cX12_token 31 = .ok (.aload_n 0, 1) := by decide +kernel
theorem dX12_token_32 : decode cX12_token 32 = .ok (.iload 5, 2) := by decide +kernel
theorem dX12_token_34 : decode cX12_token 34 = .ok (.ifCond .eq 15, 3) := by decide +kernel
theorem dX12_token_49 : decode cX12_token 49 = .ok (.aload_n 0, 1) := by decide +kernel
theorem dX12_token_50 : decode cX12_token 50 = .ok (.iload_n 1, 1) := by decide +kernel
theorem dX12_token_51 : decode cX12_token 51 = .ok (.iload_n 2, 1) := by decide +kernel
theorem dX12_token_52 : decode cX12_token 52 = .ok (.iload_n 3, 1) := by decide +kernel
theorem dX12_token_53 : decode cX12_token 53 = .ok (.invokevirtual 305, 3) := by decide +kernel
theorem dX12_token_56 : decode cX12_token 56 = .ok (.iconst 1, 1) := by decide +kernel
theorem dX12_token_57 : decode cX12_token 57 = .ok (.iconst 1, 1) := by decide +kernel
theorem dX12_token_58 : decode cX12_token 58 = .ok (.invokevirtual 295, 3) := by decide +kernel
theorem dX12_token_61 : decode cX12_token 61 = .ok (.ifCond .ne 5, 3) := by decide +kernel
theorem dX12_token_64 : decode cX12_token 64 = .ok (.iconst 0, 1) := by decide +kernel
theorem dX12_token_65 : decode cX12_token 65 = .ok (.ireturn, 1) := by decide +kernel
theorem dX12_told_0 : decode cX12_told 0 = .ok (.aload_n 0, 1) := by decide +kernel
theorem dX12_told_1 : decode cX12_told 1 = .ok (.aload_n 0, 1) := by decide +kernel
theorem dX12_told_2 : decode cX12_told 2 = .ok (.iload_n 1, 1) := by decide +kernel
theorem dX12_told_3 : decode cX12_told 3 = .ok (.invokevirtual 115, 3) := by decide +kernel
theorem dX12_told_6 : decode cX12_told 6 = .ok (.iload_n 2, 1) := by decide +kernel
theorem dX12_told_7 : decode cX12_told 7 = .ok (.bipush 6, 2) := by decide +kernel
theorem dX12_told_9 : decode cX12_told 9 = .ok (.invokestatic 299, 3) := by decide +kernel
theorem dX12_told_12 : decode cX12_told 12 = .ok (.iconst 1, 1) := by decide +kernel
theorem dX12_told_13 : decode cX12_told 13 = .ok (.invokevirtual 295, 3) := by decide +kernel
theorem dX12_told_16 : decode cX12_told 16 = .ok (.ifCond .ne 5, 3) := by decide +kernel
theorem dX12_told_19 : decode cX12_told 19 = .ok (.iconst 0, 1) := by decide +kernel
theorem dX12_told_20 : decode cX12_told 20 = .ok (.ireturn, 1) := by decide +kernel
theorem dX12_walk_0 : decode cX12_walk 0 = .ok (.aload_n 0, 1) := by decide +kernel
theorem dX12_walk_1 : decode cX12_walk 1 = .ok (.aload_n 0, 1) := by decide +kernel
theorem dX12_walk_2 : decode cX12_walk 2 = .ok (.iload_n 1, 1) := by decide +kernel
theorem dX12_walk_3 : decode cX12_walk 3 = .ok (.invokevirtual 115, 3) := by decide +kernel
theorem dX12_walk_6 : decode cX12_walk 6 = .ok (.iconst 1, 1) := by decide +kernel
theorem dX12_walk_7 : decode cX12_walk 7 = .ok (.iconst 1, 1) := by decide +kernel
theorem dX12_walk_8 : decode cX12_walk 8 = .ok (.invokevirtual 295, 3) := by decide +kernel
theorem dX12_walk_11 : decode cX12_walk 11 = .ok (.ifCond .eq 12, 3) := by decide +kernel
theorem dX12_walk_23 : decode cX12_walk 23 = .ok (.iconst 0, 1) := by decide +kernel
theorem dX12_walk_24 : decode cX12_walk 24 = .ok (.ireturn, 1) := by decide +kernel
theorem dX12_walkThrough_0 : decode cX12_walkThrough 0 = .ok (.aload_n 0, 1) := by decide +kernel
theorem dX12_walkThrough_1 : decode cX12_walkThrough 1 = .ok (.getfield 78, 3) := by decide +kernel
theorem dX12_walkThrough_4 : decode cX12_walkThrough 4 = .ok (.iload_n 1, 1) := by decide +kernel
theorem dX12_walkThrough_5 : decode cX12_walkThrough 5 = .ok (.iconst 0, 1) := by decide +kernel
theorem dX12_walkThrough_6 : decode cX12_walkThrough 6 = .ok (.iastore, 1) := by decide +kernel
theorem dX12_walkThrough_7 : decode cX12_walkThrough 7 = .ok (.aload_n 0, 1) := by decide +kernel
theorem dX12_walkThrough_8 : decode cX12_walkThrough 8 = .ok (.getfield 81, 3) := by decide +kernel
theorem dX12_walkThrough_11 : decode cX12_walkThrough 11 = .ok (.iload_n 1, 1) := by decide +kernel
theorem dX12_walkThrough_12 : decode cX12_walkThrough 12 = .ok (.iconst (-1), 1) := by decide +kernel
theorem dX12_walkThrough_13 : decode cX12_walkThrough 13 = .ok (.iastore, 1) := by decide +kernel
theorem dX12_walkThrough_14 : decode cX12_walkThrough 14 = .ok (.aload_n 0, 1) := by decide +kernel
theorem dX12_walkThrough_15 : decode cX12_walkThrough 15 = .ok (.iconst 0, 1) := by decide +kernel
theorem dX12_walkThrough_16 : decode cX12_walkThrough 16 = .ok (.putfield 143, 3) := by decide +kernel
theorem dX12_walkThrough_19 : decode cX12_walkThrough 19 = .ok (.lconst 0, 1) := by decide +kernel
theorem dX12_walkThrough_20 : decode cX12_walkThrough 20 = .ok (.lstore_n 2, 1) := by decide +kernel
theorem dX12_walkThrough_21 : decode cX12_walkThrough 21 = .ok (.lconst 1, 1) := by decide +kernel
theorem dX12_walkThrough_22 : decode cX12_walkThrough 22 = .ok (.lstore 4, 2) := by decide +kernel
theorem dX12_walkThrough_24 : decode cX12_walkThrough 24 = .ok (.iconst 0, 1) := by decide +kernel
theorem dX12_walkThrough_25 : decode cX12_walkThrough 25 = .ok (.istore 6, 2) := by decide +kernel
theorem dX12_walkThrough_27 : decode cX12_walkThrough 27 = .ok (.iconst 0, 1) := by decide +kernel
theorem dX12_walkThrough_28 : decode cX12_walkThrough 28 = .ok (.istore 7, 2) := by decide +kernel
theorem dX12_walkThrough_30 : decode cX12_walkThrough 30 = .ok (.iload 7, 2) := by decide +kernel
theorem dX12_walkThrough_32 : decode cX12_walkThrough 32 = .ok (.aload_n 0, 1) := by decide +kernel
theorem dX12_walkThrough_33 : decode cX12_walkThrough 33 = .ok (.getfield 26, 3) := by decide +kernel
theorem dX12_walkThrough_36 : decode cX12_walkThrough 36 = .ok (.iload_n 1, 1) := by decide +kernel
theorem dX12_walkThrough_37 : decode cX12_walkThrough 37 = .ok (.iaload, 1) := by decide +kernel
theorem dX12_walkThrough_38 : decode cX12_walkThrough 38 = .ok (.if_icmp .ge 381, 3) := by decide +kernel
theorem dX12_walkThrough_419 : decode cX12_walkThrough 419 = .ok (.aload_n 0, 1) := by decide +kernel
theorem dX12_walkThrough_420 : decode cX12_walkThrough 420 = .ok (.getfield 60, 3) := by decide +kernel
theorem dX12_walkThrough_423 : decode cX12_walkThrough 423 = .ok (.iload_n 1, 1) := by decide +kernel
theorem dX12_walkThrough_424 : decode cX12_walkThrough 424 = .ok (.sipush 201, 3) := by decide +kernel
theorem dX12_walkThrough_427 : decode cX12_walkThrough 427 = .ok (.imul, 1) := by decide +kernel
theorem dX12_walkThrough_428 : decode cX12_walkThrough 428 = .ok (.aload_n 0, 1) := by decide +kernel
theorem dX12_walkThrough_429 : decode cX12_walkThrough 429 = .ok (.getfield 26, 3) := by decide +kernel
theorem dX12_walkThrough_432 : decode cX12_walkThrough 432 = .ok (.iload_n 1, 1) := by decide +kernel
theorem dX12_walkThrough_433 : decode cX12_walkThrough 433 = .ok (.iaload, 1) := by decide +kernel
theorem dX12_walkThrough_434 : decode cX12_walkThrough 434 = .ok (.iadd, 1) := by decide +kernel
theorem dX12_walkThrough_435 : decode cX12_walkThrough 435 = .ok (.lload_n 2, 1) := by decide +kernel
theorem dX12_walkThrough_436 : decode cX12_walkThrough 436 = .ok (.lastore, 1) := by decide +kernel
theorem dX12_walkThrough_437 : decode cX12_walkThrough 437 = .ok (.aload_n 0, 1) := by decide +kernel
theorem dX12_walkThrough_438 : decode cX12_walkThrough 438 = .ok (.getfield 63, 3) := by decide +kernel
theorem dX12_walkThrough_441 : decode cX12_walkThrough 441 = .ok (.iload_n 1, 1) := by decide +kernel
theorem dX12_walkThrough_442 : decode cX12_walkThrough 442 = .ok (.sipush 201, 3) := by decide +kernel
theorem dX12_walkThrough_445 : decode cX12_walkThrough 445 = .ok (.imul, 1) := by decide +kernel
theorem dX12_walkThrough_446 : decode cX12_walkThrough 446 = .ok (.aload_n 0, 1) := by decide +kernel
theorem dX12_walkThrough_447 : decode cX12_walkThrough 447 = .ok (.getfield 26, 3) := by decide +kernel
theorem dX12_walkThrough_450 : decode cX12_walkThrough 450 = .ok (.iload_n 1, 1) := by decide +kernel
theorem dX12_walkThrough_451 : decode cX12_walkThrough 451 = .ok (.iaload, 1) := by decide +kernel
theorem dX12_walkThrough_452 : decode cX12_walkThrough 452 = .ok (.iadd, 1) := by decide +kernel
theorem dX12_walkThrough_453 : decode cX12_walkThrough 453 = .ok (.lload 4, 2) := by decide +kernel
theorem dX12_walkThrough_455 : decode cX12_walkThrough 455 = .ok (.lastore, 1) := by decide +kernel
theorem dX12_walkThrough_456 : decode cX12_walkThrough 456 = .ok (.return_, 1) := by decide +kernel
theorem dX12_write_0 : decode cX12_write 0 = .ok (.aload_n 0, 1) := by decide +kernel
theorem dX12_write_1 : decode cX12_write 1 = .ok (.aload_n 0, 1) := by decide +kernel
theorem dX12_write_2 : decode cX12_write 2 = .ok (.iload_n 1, 1) := by decide +kernel
theorem dX12_write_3 : decode cX12_write 3 = .ok (.invokevirtual 115, 3) := by decide +kernel
theorem dX12_write_6 : decode cX12_write 6 = .ok (.iconst 1, 1) := by decide +kernel
theorem dX12_write_7 : decode cX12_write 7 = .ok (.iconst 1, 1) := by decide +kernel
theorem dX12_write_8 : decode cX12_write 8 = .ok (.invokevirtual 295, 3) := by decide +kernel
theorem dX12_write_11 : decode cX12_write 11 = .ok (.ifCond .ne 5, 3) := by decide +kernel
theorem dX12_write_14 : decode cX12_write 14 = .ok (.iconst 0, 1) := by decide +kernel
theorem dX12_write_15 : decode cX12_write 15 = .ok (.ireturn, 1) := by decide +kernel
theorem dX1_init_0 : decode cX1_init 0 = .ok (.aload_n 0, 1) := by decide +kernel
theorem dX1_init_1 : decode cX1_init 1 = .ok (.invokespecial 3, 3) := by decide +kernel
theorem dX1_init_4 : decode cX1_init 4 = .ok (.aload_n 0, 1) := by decide +kernel
theorem dX1_init_5 : decode cX1_init 5 = .ok (.new 9, 3) := by decide +kernel
theorem dX1_init_8 : decode cX1_init 8 = .ok (.dup, 1) := by decide +kernel
theorem dX1_init_9 : decode cX1_init 9 = .ok (.invokespecial 11, 3) := by decide +kernel
theorem dX1_init_12 : decode cX1_init 12 = .ok (.putfield 12, 3) := by decide +kernel
theorem dX1_init_15 : decode cX1_init 15 = .ok (.aload_n 0, 1) := by decide +kernel
theorem dX1_init_16 : decode cX1_init 16 = .ok (.iconst 0, 1) := by decide +kernel
theorem dX1_init_17 : decode cX1_init 17 = .ok (.putfield 18, 3) := by decide +kernel
theorem dX1_init_20 : decode cX1_init 20 = .ok (.aload_n 0, 1) := by decide +kernel
theorem dX1_init_21 : decode cX1_init 21 = .ok (.iconst 1, 1) := by decide +kernel
theorem dX1_init_22 : decode cX1_init 22 = .ok (.putfield 22, 3) := by decide +kernel
theorem dX1_init_25 : decode cX1_init 25 = .ok (.aload_n 0, 1) := by decide +kernel
theorem dX1_init_26 : decode cX1_init 26 = .ok (.iconst 0, 1) := by decide +kernel
theorem dX1_init_27 : decode cX1_init 27 = .ok (.putfield 25, 3) := by decide +kernel
theorem dX1_init_30 : decode cX1_init 30 = .ok (.aload_n 0, 1) := by decide +kernel
theorem dX1_init_31 : decode cX1_init 31 = .ok (.iconst 1, 1) := by decide +kernel
theorem dX1_init_32 : decode cX1_init 32 = .ok (.putfield 28, 3) := by decide +kernel
theorem dX1_init_35 : decode cX1_init 35 = .ok (.return_, 1) := by decide +kernel
theorem dX2_init_0 : decode cX2_init 0 = .ok (.aload_n 0, 1) := by decide +kernel
theorem dX2_init_1 : decode cX2_init 1 = .ok (.invokespecial 3, 3) := by decide +kernel
theorem dX2_init_4 : decode cX2_init 4 = .ok (.aload_n 0, 1) := by decide +kernel
theorem dX2_init_5 : decode cX2_init 5 = .ok (.bipush 12, 2) := by decide +kernel
theorem dX2_init_7 : decode cX2_init 7 = .ok (.newarray .int, 2) := by decide +kernel
theorem dX2_init_9 : decode cX2_init 9 = .ok (.putfield 9, 3) := by decide +kernel
theorem dX2_init_12 : decode cX2_init 12 = .ok (.return_, 1) := by decide +kernel
theorem dX3_init_0 : decode cX3_init 0 = .ok (.aload_n 0, 1) := by decide +kernel
theorem dX3_init_1 : decode cX3_init 1 = .ok (.invokespecial 1, 3) := by decide +kernel
theorem dX3_init_4 : decode cX3_init 4 = .ok (.aload_n 0, 1) := by decide +kernel
theorem dX3_init_5 : decode cX3_init 5 = .ok (.lconst 0, 1) := by decide +kernel
theorem dX3_init_6 : decode cX3_init 6 = .ok (.putfield 7, 3) := by decide +kernel
theorem dX3_init_9 : decode cX3_init 9 = .ok (.aload_n 0, 1) := by decide +kernel
theorem dX3_init_10 : decode cX3_init 10 = .ok (.lconst 1, 1) := by decide +kernel
theorem dX3_init_11 : decode cX3_init 11 = .ok (.putfield 13, 3) := by decide +kernel
theorem dX3_init_14 : decode cX3_init 14 = .ok (.return_, 1) := by decide +kernel
theorem dX4_fill_0 : decode cX4_fill 0 = .ok (.aload_n 1, 1) := by decide +kernel
theorem dX4_fill_1 : decode cX4_fill 1 = .ok (.getfield 35, 3) := by decide +kernel
theorem dX4_fill_4 : decode cX4_fill 4 = .ok (.astore_n 2, 1) := by decide +kernel
theorem dX4_fill_5 : decode cX4_fill 5 = .ok (.iconst 0, 1) := by decide +kernel
theorem dX4_fill_6 : decode cX4_fill 6 = .ok (.istore_n 3, 1) := by decide +kernel
theorem dX4_fill_7 : decode cX4_fill 7 = .ok (.iload_n 3, 1) := by decide +kernel
theorem dX4_fill_8 : decode cX4_fill 8 = .ok (.aload_n 2, 1) := by decide +kernel
theorem dX4_fill_9 : decode cX4_fill 9 = .ok (.getfield 41, 3) := by decide +kernel
theorem dX4_fill_12 : decode cX4_fill 12 = .ok (.if_icmp .ge 95, 3) := by decide +kernel
theorem dX4_fill_107 : decode cX4_fill 107 = .ok (.return_, 1) := by decide +kernel
theorem dX4_init_0 : decode cX4_init 0 = .ok (.aload_n 0, 1) := by decide +kernel
theorem dX4_init_1 : decode cX4_init 1 = .ok (.invokespecial 3, 3) := by decide +kernel
theorem dX4_init_4 : decode cX4_init 4 = .ok (.aload_n 0, 1) := by decide +kernel
theorem dX4_init_5 : decode cX4_init 5 = .ok (.iconst 0, 1) := by decide +kernel
theorem dX4_init_6 : decode cX4_init 6 = .ok (.putfield 9, 3) := by decide +kernel
theorem dX4_init_9 : decode cX4_init 9 = .ok (.aload_n 0, 1) := by decide +kernel
theorem dX4_init_10 : decode cX4_init 10 = .ok (.iconst 1, 1) := by decide +kernel
theorem dX4_init_11 : decode cX4_init 11 = .ok (.putfield 15, 3) := by decide +kernel
theorem dX4_init_14 : decode cX4_init 14 = .ok (.aload_n 0, 1) := by decide +kernel
theorem dX4_init_15 : decode cX4_init 15 = .ok (.new 18, 3) := by decide +kernel
theorem dX4_init_18 : decode cX4_init 18 = .ok (.dup, 1) := by decide +kernel
theorem dX4_init_19 : decode cX4_init 19 = .ok (.invokespecial 20, 3) := by decide +kernel
theorem dX4_init_22 : decode cX4_init 22 = .ok (.putfield 21, 3) := by decide +kernel
theorem dX4_init_25 : decode cX4_init 25 = .ok (.aload_n 0, 1) := by decide +kernel
theorem dX4_init_26 : decode cX4_init 26 = .ok (.aconst_null, 1) := by decide +kernel
theorem dX4_init_27 : decode cX4_init 27 = .ok (.putfield 25, 3) := by decide +kernel
theorem dX4_init_30 : decode cX4_init 30 = .ok (.aload_n 0, 1) := by decide +kernel
theorem dX4_init_31 : decode cX4_init 31 = .ok (.iconst 0, 1) := by decide +kernel
theorem dX4_init_32 : decode cX4_init 32 = .ok (.putfield 29, 3) := by decide +kernel
theorem dX4_init_35 : decode cX4_init 35 = .ok (.aload_n 0, 1) := by decide +kernel
theorem dX4_init_36 : decode cX4_init 36 = .ok (.iconst 0, 1) := by decide +kernel
theorem dX4_init_37 : decode cX4_init 37 = .ok (.putfield 32, 3) := by decide +kernel
theorem dX4_init_40 : decode cX4_init 40 = .ok (.return_, 1) := by decide +kernel
theorem dX5_init_0 : decode cX5_init 0 = .ok (.aload_n 0, 1) := by decide +kernel
theorem dX5_init_1 : decode cX5_init 1 = .ok (.invokespecial 3, 3) := by decide +kernel
theorem dX5_init_4 : decode cX5_init 4 = .ok (.aload_n 0, 1) := by decide +kernel
theorem dX5_init_5 : decode cX5_init 5 = .ok (.iconst 0, 1) := by decide +kernel
theorem dX5_init_6 : decode cX5_init 6 = .ok (.putfield 9, 3) := by decide +kernel
theorem dX5_init_9 : decode cX5_init 9 = .ok (.aload_n 0, 1) := by decide +kernel
theorem dX5_init_10 : decode cX5_init 10 = .ok (.iconst 0, 1) := by decide +kernel
theorem dX5_init_11 : decode cX5_init 11 = .ok (.putfield 15, 3) := by decide +kernel
theorem dX5_init_14 : decode cX5_init 14 = .ok (.aload_n 0, 1) := by decide +kernel
theorem dX5_init_15 : decode cX5_init 15 = .ok (.aconst_null, 1) := by decide +kernel
theorem dX5_init_16 : decode cX5_init 16 = .ok (.putfield 18, 3) := by decide +kernel
theorem dX5_init_19 : decode cX5_init 19 = .ok (.aload_n 0, 1) := by decide +kernel
theorem dX5_init_20 : decode cX5_init 20 = .ok (.iconst 0, 1) := by decide +kernel
theorem dX5_init_21 : decode cX5_init 21 = .ok (.putfield 22, 3) := by decide +kernel
theorem dX5_init_24 : decode cX5_init 24 = .ok (.aload_n 0, 1) := by decide +kernel
theorem dX5_init_25 : decode cX5_init 25 = .ok (.aconst_null, 1) := by decide +kernel
theorem dX5_init_26 : decode cX5_init 26 = .ok (.putfield 25, 3) := by decide +kernel
theorem dX5_init_29 : decode cX5_init 29 = .ok (.aload_n 0, 1) := by decide +kernel
theorem dX5_init_30 : decode cX5_init 30 = .ok (.iconst 0, 1) := by decide +kernel
theorem dX5_init_31 : decode cX5_init 31 = .ok (.putfield 29, 3) := by decide +kernel
theorem dX5_init_34 : decode cX5_init 34 = .ok (.aload_n 0, 1) := by decide +kernel
theorem dX5_init_35 : decode cX5_init 35 = .ok (.iconst 4, 1) := by decide +kernel
theorem dX5_init_36 : decode cX5_init 36 = .ok (.putfield 32, 3) := by decide +kernel
theorem dX5_init_39 : decode cX5_init 39 = .ok (.aload_n 0, 1) := by decide +kernel
theorem dX5_init_40 : decode cX5_init 40 = .ok (.iconst 0, 1) := by decide +kernel
theorem dX5_init_41 : decode cX5_init 41 = .ok (.putfield 35, 3) := by decide +kernel
theorem dX5_init_44 : decode cX5_init 44 = .ok (.aload_n 0, 1) := by decide +kernel
theorem dX5_init_45 : decode cX5_init 45 = .ok (.bipush 13, 2) := by decide +kernel
theorem dX5_init_47 : decode cX5_init 47 = .ok (.newarray .int, 2) := by decide +kernel
theorem dX5_init_49 : decode cX5_init 49 = .ok (.putfield 38, 3) := by decide +kernel
theorem dX5_init_52 : decode cX5_init 52 = .ok (.aload_n 0, 1) := by decide +kernel
theorem dX5_init_53 : decode cX5_init 53 = .ok (.bipush 13, 2) := by decide +kernel
theorem dX5_init_55 : decode cX5_init 55 = .ok (.newarray .int, 2) := by decide +kernel
theorem dX5_init_57 : decode cX5_init 57 = .ok (.putfield 42, 3) := by decide +kernel
theorem dX5_init_60 : decode cX5_init 60 = .ok (.aload_n 0, 1) := by decide +kernel
theorem dX5_init_61 : decode cX5_init 61 = .ok (.bipush 13, 2) := by decide +kernel
theorem dX5_init_63 : decode cX5_init 63 = .ok (.newarray .int, 2) := by decide +kernel
theorem dX5_init_65 : decode cX5_init 65 = .ok (.putfield 45, 3) := by decide +kernel
theorem dX5_init_68 : decode cX5_init 68 = .ok (.aload_n 0, 1) := by decide +kernel
theorem dX5_init_69 : decode cX5_init 69 = .ok (.iconst (-1), 1) := by decide +kernel
theorem dX5_init_70 : decode cX5_init 70 = .ok (.putfield 48, 3) := by decide +kernel
theorem dX5_init_73 : decode cX5_init 73 = .ok (.aload_n 0, 1) := by decide +kernel
theorem dX5_init_74 : decode cX5_init 74 = .ok (.iconst (-1), 1) := by decide +kernel
theorem dX5_init_75 : decode cX5_init 75 = .ok (.putfield 51, 3) := by decide +kernel
theorem dX5_init_78 : decode cX5_init 78 = .ok (.aload_n 0, 1) := by decide +kernel
theorem dX5_init_79 : decode cX5_init 79 = .ok (.iconst 0, 1) := by decide +kernel
theorem dX5_init_80 : decode cX5_init 80 = .ok (.putfield 54, 3) := by decide +kernel
theorem dX5_init_83 : decode cX5_init 83 = .ok (.aload_n 0, 1) := by decide +kernel
theorem dX5_init_84 : decode cX5_init 84 = .ok (.iconst 0, 1) := by decide +kernel
theorem dX5_init_85 : decode cX5_init 85 = .ok (.putfield 57, 3) := by decide +kernel
theorem dX5_init_88 : decode cX5_init 88 = .ok (.aload_n 0, 1) := by decide +kernel
theorem dX5_init_89 : decode cX5_init 89 = .ok (.iconst 0, 1) := by decide +kernel
theorem dX5_init_90 : decode cX5_init 90 = .ok (.putfield 60, 3) := by decide +kernel
theorem dX5_init_93 : decode cX5_init 93 = .ok (.return_, 1) := by decide +kernel
theorem dX5_take_0 : decode cX5_take 0 = .ok (.aload_n 0, 1) := by decide +kernel
theorem dX5_take_1 : decode cX5_take 1 = .ok (.iconst 0, 1) := by decide +kernel
theorem dX5_take_2 : decode cX5_take 2 = .ok (.putfield 9, 3) := by decide +kernel
theorem dX5_take_5 : decode cX5_take 5 = .ok (.aload_n 0, 1) := by decide +kernel
theorem dX5_take_6 : decode cX5_take 6 = .ok (.iconst 0, 1) := by decide +kernel
theorem dX5_take_7 : decode cX5_take 7 = .ok (.putfield 15, 3) := by decide +kernel
theorem dX5_take_10 : decode cX5_take 10 = .ok (.aload_n 0, 1) := by decide +kernel
theorem dX5_take_11 : decode cX5_take 11 = .ok (.aload_n 1, 1) := by decide +kernel
theorem dX5_take_12 : decode cX5_take 12 = .ok (.putfield 18, 3) := by decide +kernel
theorem dX5_take_15 : decode cX5_take 15 = .ok (.aload_n 0, 1) := by decide +kernel
theorem dX5_take_16 : decode cX5_take 16 = .ok (.aload_n 1, 1) := by decide +kernel
theorem dX5_take_17 : decode cX5_take 17 = .ok (.iconst 0, 1) := by decide +kernel
theorem dX5_take_18 : decode cX5_take 18 = .ok (.iload_n 2, 1) := by decide +kernel
theorem dX5_take_19 : decode cX5_take 19 = .ok (.invokestatic 63, 3) := by decide +kernel
theorem dX5_take_22 : decode cX5_take 22 = .ok (.ifCond .eq 7, 3) := by decide +kernel
theorem dX5_take_25 : decode cX5_take 25 = .ok (.iload_n 2, 1) := by decide +kernel
theorem dX5_take_26 : decode cX5_take 26 = .ok (.goto 4, 3) := by decide +kernel
theorem dX5_take_30 : decode cX5_take 30 = .ok (.putfield 22, 3) := by decide +kernel
theorem dX5_take_33 : decode cX5_take 33 = .ok (.aload_n 0, 1) := by decide +kernel
theorem dX5_take_34 : decode cX5_take 34 = .ok (.aload_n 3, 1) := by decide +kernel
theorem dX5_take_35 : decode cX5_take 35 = .ok (.putfield 25, 3) := by decide +kernel
theorem dX5_take_38 : decode cX5_take 38 = .ok (.iconst 0, 1) := by decide +kernel
theorem dX5_take_39 : decode cX5_take 39 = .ok (.istore 4, 2) := by decide +kernel
theorem dX5_take_41 : decode cX5_take 41 = .ok (.iconst 0, 1) := by decide +kernel
theorem dX5_take_42 : decode cX5_take 42 = .ok (.istore 5, 2) := by decide +kernel
theorem dX5_take_44 : decode cX5_take 44 = .ok (.iload 5, 2) := by decide +kernel
theorem dX5_take_46 : decode cX5_take 46 = .ok (.sipush 200, 3) := by decide +kernel
theorem dX5_take_49 : decode cX5_take 49 = .ok (.if_icmp .gt 101, 3) := by decide +kernel
theorem dX5_take_52 : decode cX5_take 52 = .ok (.iload 4, 2) := by decide +kernel
theorem dX5_take_54 : decode cX5_take 54 = .ok (.aload_n 0, 1) := by decide +kernel
theorem dX5_take_55 : decode cX5_take 55 = .ok (.getfield 22, 3) := by decide +kernel
theorem dX5_take_58 : decode cX5_take 58 = .ok (.if_icmp .ge 92, 3) := by decide +kernel
theorem dX5_take_150 : decode cX5_take 150 = .ok (.aload_n 0, 1) := by decide +kernel
theorem dX5_take_151 : decode cX5_take 151 = .ok (.getfield 9, 3) := by decide +kernel
theorem dX5_take_154 : decode cX5_take 154 = .ok (.ifCond .ne 23, 3) := by decide +kernel
theorem dX5_take_157 : decode cX5_take 157 = .ok (.aload_n 0, 1) := by decide +kernel
theorem dX5_take_158 : decode cX5_take 158 = .ok (.getfield 25, 3) := by decide +kernel
theorem dX5_take_161 : decode cX5_take 161 = .ok (.getfield 88, 3) := by decide +kernel
theorem dX5_take_164 : decode cX5_take 164 = .ok (.ifCond .le 13, 3) := by decide +kernel
theorem dX5_take_177 : decode cX5_take 177 = .ok (.aload_n 0, 1) := by decide +kernel
theorem dX5_take_178 : decode cX5_take 178 = .ok (.getfield 9, 3) := by decide +kernel
theorem dX5_take_181 : decode cX5_take 181 = .ok (.ifCond .ne 7, 3) := by decide +kernel
theorem dX5_take_184 : decode cX5_take 184 = .ok (.iconst 1, 1) := by decide +kernel
theorem dX5_take_185 : decode cX5_take 185 = .ok (.goto 4, 3) := by decide +kernel
theorem dX5_take_189 : decode cX5_take 189 = .ok (.ireturn, 1) := by decide +kernel
theorem dX6_clear_0 : decode cX6_clear 0 = .ok (.aload_n 0, 1) := by decide +kernel
theorem dX6_clear_1 : decode cX6_clear 1 = .ok (.iconst 0, 1) := by decide +kernel
theorem dX6_clear_2 : decode cX6_clear 2 = .ok (.putfield 34, 3) := by decide +kernel
theorem dX6_clear_5 : decode cX6_clear 5 = .ok (.aload_n 0, 1) := by decide +kernel
theorem dX6_clear_6 : decode cX6_clear 6 = .ok (.iconst 0, 1) := by decide +kernel
theorem dX6_clear_7 : decode cX6_clear 7 = .ok (.putfield 38, 3) := by decide +kernel
theorem dX6_clear_10 : decode cX6_clear 10 = .ok (.aload_n 0, 1) := by decide +kernel
theorem dX6_clear_11 : decode cX6_clear 11 = .ok (.iconst 0, 1) := by decide +kernel
theorem dX6_clear_12 : decode cX6_clear 12 = .ok (.putfield 41, 3) := by decide +kernel
theorem dX6_clear_15 : decode cX6_clear 15 = .ok (.aload_n 0, 1) := by decide +kernel
theorem dX6_clear_16 : decode cX6_clear 16 = .ok (.iconst 0, 1) := by decide +kernel
theorem dX6_clear_17 : decode cX6_clear 17 = .ok (.putfield 44, 3) := by decide +kernel
theorem dX6_clear_20 : decode cX6_clear 20 = .ok (.aload_n 0, 1) := by decide +kernel
theorem dX6_clear_21 : decode cX6_clear 21 = .ok (.getfield 15, 3) := by decide +kernel
theorem dX6_clear_24 : decode cX6_clear 24 = .ok (.iconst 0, 1) := by decide +kernel
theorem dX6_clear_25 : decode cX6_clear 25 = .ok (.iconst 0, 1) := by decide +kernel
theorem dX6_clear_26 : decode cX6_clear 26 = .ok (.iastore, 1) := by decide +kernel
theorem dX6_clear_27 : decode cX6_clear 27 = .ok (.aload_n 0, 1) := by decide +kernel
theorem dX6_clear_28 : decode cX6_clear 28 = .ok (.getfield 22, 3) := by decide +kernel
theorem dX6_clear_31 : decode cX6_clear 31 = .ok (.iconst 0, 1) := by decide +kernel
theorem dX6_clear_32 : decode cX6_clear 32 = .ok (.iconst 0, 1) := by decide +kernel
theorem dX6_clear_33 : decode cX6_clear 33 = .ok (.iastore, 1) := by decide +kernel
theorem dX6_clear_34 : decode cX6_clear 34 = .ok (.return_, 1) := by decide +kernel
theorem dX6_init_0 : decode cX6_init 0 = .ok (.aload_n 0, 1) := by decide +kernel
theorem dX6_init_1 : decode cX6_init 1 = .ok (.invokespecial 3, 3) := by decide +kernel
theorem dX6_init_4 : decode cX6_init 4 = .ok (.aload_n 0, 1) := by decide +kernel
theorem dX6_init_5 : decode cX6_init 5 = .ok (.sipush 3001, 3) := by decide +kernel
theorem dX6_init_8 : decode cX6_init 8 = .ok (.newarray .byte, 2) := by decide +kernel
theorem dX6_init_10 : decode cX6_init 10 = .ok (.putfield 9, 3) := by decide +kernel
theorem dX6_init_13 : decode cX6_init 13 = .ok (.aload_n 0, 1) := by decide +kernel
theorem dX6_init_14 : decode cX6_init 14 = .ok (.sipush 201, 3) := by decide +kernel
theorem dX6_init_17 : decode cX6_init 17 = .ok (.newarray .int, 2) := by decide +kernel
theorem dX6_init_19 : decode cX6_init 19 = .ok (.putfield 15, 3) := by decide +kernel
theorem dX6_init_22 : decode cX6_init 22 = .ok (.aload_n 0, 1) := by decide +kernel
theorem dX6_init_23 : decode cX6_init 23 = .ok (.sipush 200, 3) := by decide +kernel
theorem dX6_init_26 : decode cX6_init 26 = .ok (.newarray .int, 2) := by decide +kernel
theorem dX6_init_28 : decode cX6_init 28 = .ok (.putfield 19, 3) := by decide +kernel
theorem dX6_init_31 : decode cX6_init 31 = .ok (.aload_n 0, 1) := by decide +kernel
theorem dX6_init_32 : decode cX6_init 32 = .ok (.sipush 201, 3) := by decide +kernel
theorem dX6_init_35 : decode cX6_init 35 = .ok (.newarray .int, 2) := by decide +kernel
theorem dX6_init_37 : decode cX6_init 37 = .ok (.putfield 22, 3) := by decide +kernel
theorem dX6_init_40 : decode cX6_init 40 = .ok (.aload_n 0, 1) := by decide +kernel
theorem dX6_init_41 : decode cX6_init 41 = .ok (.sipush 1500, 3) := by decide +kernel
theorem dX6_init_44 : decode cX6_init 44 = .ok (.newarray .int, 2) := by decide +kernel
theorem dX6_init_46 : decode cX6_init 46 = .ok (.putfield 25, 3) := by decide +kernel
theorem dX6_init_49 : decode cX6_init 49 = .ok (.aload_n 0, 1) := by decide +kernel
theorem dX6_init_50 : decode cX6_init 50 = .ok (.sipush 1500, 3) := by decide +kernel
theorem dX6_init_53 : decode cX6_init 53 = .ok (.newarray .int, 2) := by decide +kernel
theorem dX6_init_55 : decode cX6_init 55 = .ok (.putfield 28, 3) := by decide +kernel
theorem dX6_init_58 : decode cX6_init 58 = .ok (.aload_n 0, 1) := by decide +kernel
theorem dX6_init_59 : decode cX6_init 59 = .ok (.sipush 1500, 3) := by decide +kernel
theorem dX6_init_62 : decode cX6_init 62 = .ok (.newarray .int, 2) := by decide +kernel
theorem dX6_init_64 : decode cX6_init 64 = .ok (.putfield 31, 3) := by decide +kernel
theorem dX6_init_67 : decode cX6_init 67 = .ok (.aload_n 0, 1) := by decide +kernel
theorem dX6_init_68 : decode cX6_init 68 = .ok (.iconst 0, 1) := by decide +kernel
theorem dX6_init_69 : decode cX6_init 69 = .ok (.putfield 34, 3) := by decide +kernel
theorem dX6_init_72 : decode cX6_init 72 = .ok (.aload_n 0, 1) := by decide +kernel
theorem dX6_init_73 : decode cX6_init 73 = .ok (.iconst 0, 1) := by decide +kernel
theorem dX6_init_74 : decode cX6_init 74 = .ok (.putfield 38, 3) := by decide +kernel
theorem dX6_init_77 : decode cX6_init 77 = .ok (.aload_n 0, 1) := by decide +kernel
theorem dX6_init_78 : decode cX6_init 78 = .ok (.iconst 0, 1) := by decide +kernel
theorem dX6_init_79 : decode cX6_init 79 = .ok (.putfield 41, 3) := by decide +kernel
theorem dX6_init_82 : decode cX6_init 82 = .ok (.aload_n 0, 1) := by decide +kernel
theorem dX6_init_83 : decode cX6_init 83 = .ok (.iconst 0, 1) := by decide +kernel
theorem dX6_init_84 : decode cX6_init 84 = .ok (.putfield 44, 3) := by decide +kernel
theorem dX6_init_87 : decode cX6_init 87 = .ok (.return_, 1) := by decide +kernel
theorem dX7_init_0 : decode cX7_init 0 = .ok (.aload_n 0, 1) := by decide +kernel
theorem dX7_init_1 : decode cX7_init 1 = .ok (.invokespecial 3, 3) := by decide +kernel
theorem dX7_init_4 : decode cX7_init 4 = .ok (.aload_n 0, 1) := by decide +kernel
theorem dX7_init_5 : decode cX7_init 5 = .ok (.aconst_null, 1) := by decide +kernel
theorem dX7_init_6 : decode cX7_init 6 = .ok (.putfield 9, 3) := by decide +kernel
theorem dX7_init_9 : decode cX7_init 9 = .ok (.aload_n 0, 1) := by decide +kernel
theorem dX7_init_10 : decode cX7_init 10 = .ok (.iconst 0, 1) := by decide +kernel
theorem dX7_init_11 : decode cX7_init 11 = .ok (.putfield 15, 3) := by decide +kernel
theorem dX7_init_14 : decode cX7_init 14 = .ok (.aload_n 0, 1) := by decide +kernel
theorem dX7_init_15 : decode cX7_init 15 = .ok (.iconst 0, 1) := by decide +kernel
theorem dX7_init_16 : decode cX7_init 16 = .ok (.putfield 19, 3) := by decide +kernel
theorem dX7_init_19 : decode cX7_init 19 = .ok (.aload_n 0, 1) := by decide +kernel
theorem dX7_init_20 : decode cX7_init 20 = .ok (.iconst 0, 1) := by decide +kernel
theorem dX7_init_21 : decode cX7_init 21 = .ok (.putfield 22, 3) := by decide +kernel
theorem dX7_init_24 : decode cX7_init 24 = .ok (.aload_n 0, 1) := by decide +kernel
theorem dX7_init_25 : decode cX7_init 25 = .ok (.bipush 12, 2) := by decide +kernel
theorem dX7_init_27 : decode cX7_init 27 = .ok (.newarray .int, 2) := by decide +kernel
theorem dX7_init_29 : decode cX7_init 29 = .ok (.putfield 26, 3) := by decide +kernel
theorem dX7_init_32 : decode cX7_init 32 = .ok (.return_, 1) := by decide +kernel
theorem dX8_clear_0 : decode cX8_clear 0 = .ok (.aload_n 0, 1) := by decide +kernel
theorem dX8_clear_1 : decode cX8_clear 1 = .ok (.getfield 12, 3) := by decide +kernel
theorem dX8_clear_4 : decode cX8_clear 4 = .ok (.invokevirtual 68, 3) := by decide +kernel
theorem dX8_clear_7 : decode cX8_clear 7 = .ok (.aload_n 0, 1) := by decide +kernel
theorem dX8_clear_8 : decode cX8_clear 8 = .ok (.iconst 0, 1) := by decide +kernel
theorem dX8_clear_9 : decode cX8_clear 9 = .ok (.putfield 40, 3) := by decide +kernel
theorem dX8_clear_12 : decode cX8_clear 12 = .ok (.aload_n 0, 1) := by decide +kernel
theorem dX8_clear_13 : decode cX8_clear 13 = .ok (.iconst 0, 1) := by decide +kernel
theorem dX8_clear_14 : decode cX8_clear 14 = .ok (.putfield 44, 3) := by decide +kernel
theorem dX8_clear_17 : decode cX8_clear 17 = .ok (.aload_n 0, 1) := by decide +kernel
theorem dX8_clear_18 : decode cX8_clear 18 = .ok (.iconst (-1), 1) := by decide +kernel
theorem dX8_clear_19 : decode cX8_clear 19 = .ok (.putfield 47, 3) := by decide +kernel
theorem dX8_clear_22 : decode cX8_clear 22 = .ok (.aload_n 0, 1) := by decide +kernel
theorem dX8_clear_23 : decode cX8_clear 23 = .ok (.iconst 0, 1) := by decide +kernel
theorem dX8_clear_24 : decode cX8_clear 24 = .ok (.putfield 50, 3) := by decide +kernel
theorem dX8_clear_27 : decode cX8_clear 27 = .ok (.aload_n 0, 1) := by decide +kernel
theorem dX8_clear_28 : decode cX8_clear 28 = .ok (.iconst (-1), 1) := by decide +kernel
theorem dX8_clear_29 : decode cX8_clear 29 = .ok (.putfield 62, 3) := by decide +kernel
theorem dX8_clear_32 : decode cX8_clear 32 = .ok (.aload_n 0, 1) := by decide +kernel
theorem dX8_clear_33 : decode cX8_clear 33 = .ok (.iconst 0, 1) := by decide +kernel
theorem dX8_clear_34 : decode cX8_clear 34 = .ok (.putfield 65, 3) := by decide +kernel
theorem dX8_clear_37 : decode cX8_clear 37 = .ok (.return_, 1) := by decide +kernel
theorem dX8_init_0 : decode cX8_init 0 = .ok (.aload_n 0, 1) := by decide +kernel
theorem dX8_init_1 : decode cX8_init 1 = .ok (.invokespecial 3, 3) := by decide +kernel
theorem dX8_init_4 : decode cX8_init 4 = .ok (.aload_n 0, 1) := by decide +kernel
theorem dX8_init_5 : decode cX8_init 5 = .ok (.new 9, 3) := by decide +kernel
theorem dX8_init_8 : decode cX8_init 8 = .ok (.dup, 1) := by decide +kernel
theorem dX8_init_9 : decode cX8_init 9 = .ok (.invokespecial 11, 3) := by decide +kernel
theorem dX8_init_12 : decode cX8_init 12 = .ok (.putfield 12, 3) := by decide +kernel
theorem dX8_init_15 : decode cX8_init 15 = .ok (.aload_n 0, 1) := by decide +kernel
theorem dX8_init_16 : decode cX8_init 16 = .ok (.sipush 1500, 3) := by decide +kernel
theorem dX8_init_19 : decode cX8_init 19 = .ok (.newarray .int, 2) := by decide +kernel
theorem dX8_init_21 : decode cX8_init 21 = .ok (.putfield 18, 3) := by decide +kernel
theorem dX8_init_24 : decode cX8_init 24 = .ok (.aload_n 0, 1) := by decide +kernel
theorem dX8_init_25 : decode cX8_init 25 = .ok (.sipush 1500, 3) := by decide +kernel
theorem dX8_init_28 : decode cX8_init 28 = .ok (.newarray .int, 2) := by decide +kernel
theorem dX8_init_30 : decode cX8_init 30 = .ok (.putfield 22, 3) := by decide +kernel
theorem dX8_init_33 : decode cX8_init 33 = .ok (.aload_n 0, 1) := by decide +kernel
theorem dX8_init_34 : decode cX8_init 34 = .ok (.sipush 1500, 3) := by decide +kernel
theorem dX8_init_37 : decode cX8_init 37 = .ok (.newarray .int, 2) := by decide +kernel
theorem dX8_init_39 : decode cX8_init 39 = .ok (.putfield 25, 3) := by decide +kernel
theorem dX8_init_42 : decode cX8_init 42 = .ok (.aload_n 0, 1) := by decide +kernel
theorem dX8_init_43 : decode cX8_init 43 = .ok (.sipush 1500, 3) := by decide +kernel
theorem dX8_init_46 : decode cX8_init 46 = .ok (.newarray .int, 2) := by decide +kernel
theorem dX8_init_48 : decode cX8_init 48 = .ok (.putfield 28, 3) := by decide +kernel
theorem dX8_init_51 : decode cX8_init 51 = .ok (.aload_n 0, 1) := by decide +kernel
theorem dX8_init_52 : decode cX8_init 52 = .ok (.sipush 1500, 3) := by decide +kernel
theorem dX8_init_55 : decode cX8_init 55 = .ok (.newarray .int, 2) := by decide +kernel
theorem dX8_init_57 : decode cX8_init 57 = .ok (.putfield 31, 3) := by decide +kernel
theorem dX8_init_60 : decode cX8_init 60 = .ok (.aload_n 0, 1) := by decide +kernel
theorem dX8_init_61 : decode cX8_init 61 = .ok (.sipush 212, 3) := by decide +kernel
theorem dX8_init_64 : decode cX8_init 64 = .ok (.newarray .int, 2) := by decide +kernel
theorem dX8_init_66 : decode cX8_init 66 = .ok (.putfield 34, 3) := by decide +kernel
theorem dX8_init_69 : decode cX8_init 69 = .ok (.aload_n 0, 1) := by decide +kernel
theorem dX8_init_70 : decode cX8_init 70 = .ok (.sipush 212, 3) := by decide +kernel
theorem dX8_init_73 : decode cX8_init 73 = .ok (.newarray .int, 2) := by decide +kernel
theorem dX8_init_75 : decode cX8_init 75 = .ok (.putfield 37, 3) := by decide +kernel
theorem dX8_init_78 : decode cX8_init 78 = .ok (.aload_n 0, 1) := by decide +kernel
theorem dX8_init_79 : decode cX8_init 79 = .ok (.iconst 0, 1) := by decide +kernel
theorem dX8_init_80 : decode cX8_init 80 = .ok (.putfield 40, 3) := by decide +kernel
theorem dX8_init_83 : decode cX8_init 83 = .ok (.aload_n 0, 1) := by decide +kernel
theorem dX8_init_84 : decode cX8_init 84 = .ok (.iconst 0, 1) := by decide +kernel
theorem dX8_init_85 : decode cX8_init 85 = .ok (.putfield 44, 3) := by decide +kernel
theorem dX8_init_88 : decode cX8_init 88 = .ok (.aload_n 0, 1) := by decide +kernel
theorem dX8_init_89 : decode cX8_init 89 = .ok (.iconst (-1), 1) := by decide +kernel
theorem dX8_init_90 : decode cX8_init 90 = .ok (.putfield 47, 3) := by decide +kernel
theorem dX8_init_93 : decode cX8_init 93 = .ok (.aload_n 0, 1) := by decide +kernel
theorem dX8_init_94 : decode cX8_init 94 = .ok (.iconst 0, 1) := by decide +kernel
theorem dX8_init_95 : decode cX8_init 95 = .ok (.putfield 50, 3) := by decide +kernel
theorem dX8_init_98 : decode cX8_init 98 = .ok (.aload_n 0, 1) := by decide +kernel
theorem dX8_init_99 : decode cX8_init 99 = .ok (.bipush 12, 2) := by decide +kernel
theorem dX8_init_101 : decode cX8_init 101 = .ok (.newarray .int, 2) := by decide +kernel
theorem dX8_init_103 : decode cX8_init 103 = .ok (.putfield 53, 3) := by decide +kernel
theorem dX8_init_106 : decode cX8_init 106 = .ok (.aload_n 0, 1) := by decide +kernel
theorem dX8_init_107 : decode cX8_init 107 = .ok (.sipush 201, 3) := by decide +kernel
theorem dX8_init_110 : decode cX8_init 110 = .ok (.newarray .int, 2) := by decide +kernel
theorem dX8_init_112 : decode cX8_init 112 = .ok (.putfield 56, 3) := by decide +kernel
theorem dX8_init_115 : decode cX8_init 115 = .ok (.aload_n 0, 1) := by decide +kernel
theorem dX8_init_116 : decode cX8_init 116 = .ok (.sipush 201, 3) := by decide +kernel
theorem dX8_init_119 : decode cX8_init 119 = .ok (.newarray .int, 2) := by decide +kernel
theorem dX8_init_121 : decode cX8_init 121 = .ok (.putfield 59, 3) := by decide +kernel
theorem dX8_init_124 : decode cX8_init 124 = .ok (.aload_n 0, 1) := by decide +kernel
theorem dX8_init_125 : decode cX8_init 125 = .ok (.iconst (-1), 1) := by decide +kernel
theorem dX8_init_126 : decode cX8_init 126 = .ok (.putfield 62, 3) := by decide +kernel
theorem dX8_init_129 : decode cX8_init 129 = .ok (.aload_n 0, 1) := by decide +kernel
theorem dX8_init_130 : decode cX8_init 130 = .ok (.iconst 0, 1) := by decide +kernel
theorem dX8_init_131 : decode cX8_init 131 = .ok (.putfield 65, 3) := by decide +kernel
theorem dX8_init_134 : decode cX8_init 134 = .ok (.return_, 1) := by decide +kernel
theorem dX8_putTime_0 : decode cX8_putTime 0 = .ok (.iload_n 1, 1) := by decide +kernel
theorem dX8_putTime_1 : decode cX8_putTime 1 = .ok (.ifCond .lt 24, 3) := by decide +kernel
theorem dX8_putTime_4 : decode cX8_putTime 4 = .ok (.iload_n 1, 1) := by decide +kernel
theorem dX8_putTime_5 : decode cX8_putTime 5 = .ok (.sipush 200, 3) := by decide +kernel
theorem dX8_putTime_8 : decode cX8_putTime 8 = .ok (.if_icmp .gt 17, 3) := by decide +kernel
theorem dX8_putTime_11 : decode cX8_putTime 11 = .ok (.aload_n 0, 1) := by decide +kernel
theorem dX8_putTime_12 : decode cX8_putTime 12 = .ok (.getfield 56, 3) := by decide +kernel
theorem dX8_putTime_15 : decode cX8_putTime 15 = .ok (.iload_n 1, 1) := by decide +kernel
theorem dX8_putTime_16 : decode cX8_putTime 16 = .ok (.iload_n 2, 1) := by decide +kernel
theorem dX8_putTime_17 : decode cX8_putTime 17 = .ok (.iastore, 1) := by decide +kernel
theorem dX8_putTime_18 : decode cX8_putTime 18 = .ok (.aload_n 0, 1) := by decide +kernel
theorem dX8_putTime_19 : decode cX8_putTime 19 = .ok (.getfield 59, 3) := by decide +kernel
theorem dX8_putTime_22 : decode cX8_putTime 22 = .ok (.iload_n 1, 1) := by decide +kernel
theorem dX8_putTime_23 : decode cX8_putTime 23 = .ok (.iload_n 3, 1) := by decide +kernel
theorem dX8_putTime_24 : decode cX8_putTime 24 = .ok (.iastore, 1) := by decide +kernel
theorem dX8_putTime_25 : decode cX8_putTime 25 = .ok (.return_, 1) := by decide +kernel
theorem dX9_begin_0 : decode cX9_begin 0 = .ok (.aload_n 0, 1) := by decide +kernel
theorem dX9_begin_1 : decode cX9_begin 1 = .ok (.aload_n 1, 1) := by decide +kernel
theorem dX9_begin_2 : decode cX9_begin 2 = .ok (.putfield 34, 3) := by decide +kernel
theorem dX9_begin_5 : decode cX9_begin 5 = .ok (.aload_n 1, 1) := by decide +kernel
theorem dX9_begin_6 : decode cX9_begin 6 = .ok (.iconst (-1), 1) := by decide +kernel
theorem dX9_begin_7 : decode cX9_begin 7 = .ok (.putfield 71, 3) := by decide +kernel
theorem dX9_begin_10 : decode cX9_begin 10 = .ok (.aload_n 1, 1) := by decide +kernel
theorem dX9_begin_11 : decode cX9_begin 11 = .ok (.iconst 0, 1) := by decide +kernel
theorem dX9_begin_12 : decode cX9_begin 12 = .ok (.putfield 60, 3) := by decide +kernel
theorem dX9_begin_15 : decode cX9_begin 15 = .ok (.aload_n 0, 1) := by decide +kernel
theorem dX9_begin_16 : decode cX9_begin 16 = .ok (.iconst 0, 1) := by decide +kernel
theorem dX9_begin_17 : decode cX9_begin 17 = .ok (.putfield 38, 3) := by decide +kernel
theorem dX9_begin_20 : decode cX9_begin 20 = .ok (.aload_n 0, 1) := by decide +kernel
theorem dX9_begin_21 : decode cX9_begin 21 = .ok (.iconst 1, 1) := by decide +kernel
theorem dX9_begin_22 : decode cX9_begin 22 = .ok (.putfield 42, 3) := by decide +kernel
theorem dX9_begin_25 : decode cX9_begin 25 = .ok (.iconst 0, 1) := by decide +kernel
theorem dX9_begin_26 : decode cX9_begin 26 = .ok (.istore_n 2, 1) := by decide +kernel
theorem dX9_begin_27 : decode cX9_begin 27 = .ok (.iload_n 2, 1) := by decide +kernel
theorem dX9_begin_28 : decode cX9_begin 28 = .ok (.bipush 12, 2) := by decide +kernel
theorem dX9_begin_30 : decode cX9_begin 30 = .ok (.if_icmp .ge 23, 3) := by decide +kernel
theorem dX9_begin_33 : decode cX9_begin 33 = .ok (.aload_n 0, 1) := by decide +kernel
theorem dX9_begin_34 : decode cX9_begin 34 = .ok (.getfield 9, 3) := by decide +kernel
theorem dX9_begin_37 : decode cX9_begin 37 = .ok (.iload_n 2, 1) := by decide +kernel
theorem dX9_begin_38 : decode cX9_begin 38 = .ok (.iconst 0, 1) := by decide +kernel
theorem dX9_begin_39 : decode cX9_begin 39 = .ok (.iastore, 1) := by decide +kernel
theorem dX9_begin_40 : decode cX9_begin 40 = .ok (.aload_n 0, 1) := by decide +kernel
theorem dX9_begin_41 : decode cX9_begin 41 = .ok (.getfield 15, 3) := by decide +kernel
theorem dX9_begin_44 : decode cX9_begin 44 = .ok (.iload_n 2, 1) := by decide +kernel
theorem dX9_begin_45 : decode cX9_begin 45 = .ok (.iconst 1, 1) := by decide +kernel
theorem dX9_begin_46 : decode cX9_begin 46 = .ok (.iastore, 1) := by decide +kernel
theorem dX9_begin_47 : decode cX9_begin 47 = .ok (.iinc 2 1, 3) := by decide +kernel
theorem dX9_begin_50 : decode cX9_begin 50 = .ok (.goto (-23), 3) := by decide +kernel
theorem dX9_begin_53 : decode cX9_begin 53 = .ok (.return_, 1) := by decide +kernel
theorem dX9_go_0 : decode cX9_go 0 = .ok (.aload_n 0, 1) := by decide +kernel
theorem dX9_go_1 : decode cX9_go 1 = .ok (.aload_n 1, 1) := by decide +kernel
theorem dX9_go_2 : decode cX9_go 2 = .ok (.invokevirtual 45, 3) := by decide +kernel
theorem dX9_go_5 : decode cX9_go 5 = .ok (.aload_n 1, 1) := by decide +kernel
theorem dX9_go_6 : decode cX9_go 6 = .ok (.getfield 49, 3) := by decide +kernel
theorem dX9_go_9 : decode cX9_go 9 = .ok (.getfield 55, 3) := by decide +kernel
theorem dX9_go_12 : decode cX9_go 12 = .ok (.istore_n 2, 1) := by decide +kernel
theorem dX9_go_13 : decode cX9_go 13 = .ok (.iconst 0, 1) := by decide +kernel
theorem dX9_go_14 : decode cX9_go 14 = .ok (.istore_n 3, 1) := by decide +kernel
theorem dX9_go_15 : decode cX9_go 15 = .ok (.iload_n 3, 1) := by decide +kernel
theorem dX9_go_16 : decode cX9_go 16 = .ok (.iload_n 2, 1) := by decide +kernel
theorem dX9_go_17 : decode cX9_go 17 = .ok (.if_icmp .ge 54, 3) := by decide +kernel
theorem dX9_go_71 : decode cX9_go 71 = .ok (.aload_n 1, 1) := by decide +kernel
theorem dX9_go_72 : decode cX9_go 72 = .ok (.iload_n 2, 1) := by decide +kernel
theorem dX9_go_73 : decode cX9_go 73 = .ok (.aload_n 0, 1) := by decide +kernel
theorem dX9_go_74 : decode cX9_go 74 = .ok (.getfield 38, 3) := by decide +kernel
theorem dX9_go_77 : decode cX9_go 77 = .ok (.aload_n 0, 1) := by decide +kernel
theorem dX9_go_78 : decode cX9_go 78 = .ok (.getfield 42, 3) := by decide +kernel
theorem dX9_go_81 : decode cX9_go 81 = .ok (.invokevirtual 63, 3) := by decide +kernel
theorem dX9_go_84 : decode cX9_go 84 = .ok (.return_, 1) := by decide +kernel
theorem dX9_init_0 : decode cX9_init 0 = .ok (.aload_n 0, 1) := by decide +kernel
theorem dX9_init_1 : decode cX9_init 1 = .ok (.invokespecial 3, 3) := by decide +kernel
theorem dX9_init_4 : decode cX9_init 4 = .ok (.aload_n 0, 1) := by decide +kernel
theorem dX9_init_5 : decode cX9_init 5 = .ok (.bipush 12, 2) := by decide +kernel
theorem dX9_init_7 : decode cX9_init 7 = .ok (.newarray .int, 2) := by decide +kernel
theorem dX9_init_9 : decode cX9_init 9 = .ok (.putfield 9, 3) := by decide +kernel
theorem dX9_init_12 : decode cX9_init 12 = .ok (.aload_n 0, 1) := by decide +kernel
theorem dX9_init_13 : decode cX9_init 13 = .ok (.bipush 12, 2) := by decide +kernel
theorem dX9_init_15 : decode cX9_init 15 = .ok (.newarray .int, 2) := by decide +kernel
theorem dX9_init_17 : decode cX9_init 17 = .ok (.putfield 15, 3) := by decide +kernel
theorem dX9_init_20 : decode cX9_init 20 = .ok (.aload_n 0, 1) := by decide +kernel
theorem dX9_init_21 : decode cX9_init 21 = .ok (.bipush 12, 2) := by decide +kernel
theorem dX9_init_23 : decode cX9_init 23 = .ok (.newarray .int, 2) := by decide +kernel
theorem dX9_init_25 : decode cX9_init 25 = .ok (.putfield 18, 3) := by decide +kernel
theorem dX9_init_28 : decode cX9_init 28 = .ok (.aload_n 0, 1) := by decide +kernel
theorem dX9_init_29 : decode cX9_init 29 = .ok (.bipush 12, 2) := by decide +kernel
theorem dX9_init_31 : decode cX9_init 31 = .ok (.newarray .int, 2) := by decide +kernel
theorem dX9_init_33 : decode cX9_init 33 = .ok (.putfield 21, 3) := by decide +kernel
theorem dX9_init_36 : decode cX9_init 36 = .ok (.aload_n 0, 1) := by decide +kernel
theorem dX9_init_37 : decode cX9_init 37 = .ok (.bipush 12, 2) := by decide +kernel
theorem dX9_init_39 : decode cX9_init 39 = .ok (.newarray .int, 2) := by decide +kernel
theorem dX9_init_41 : decode cX9_init 41 = .ok (.putfield 24, 3) := by decide +kernel
theorem dX9_init_44 : decode cX9_init 44 = .ok (.aload_n 0, 1) := by decide +kernel
theorem dX9_init_45 : decode cX9_init 45 = .ok (.new 27, 3) := by decide +kernel
theorem dX9_init_48 : decode cX9_init 48 = .ok (.dup, 1) := by decide +kernel
theorem dX9_init_49 : decode cX9_init 49 = .ok (.invokespecial 29, 3) := by decide +kernel
theorem dX9_init_52 : decode cX9_init 52 = .ok (.putfield 30, 3) := by decide +kernel
theorem dX9_init_55 : decode cX9_init 55 = .ok (.aload_n 0, 1) := by decide +kernel
theorem dX9_init_56 : decode cX9_init 56 = .ok (.aconst_null, 1) := by decide +kernel
theorem dX9_init_57 : decode cX9_init 57 = .ok (.putfield 34, 3) := by decide +kernel
theorem dX9_init_60 : decode cX9_init 60 = .ok (.aload_n 0, 1) := by decide +kernel
theorem dX9_init_61 : decode cX9_init 61 = .ok (.iconst 0, 1) := by decide +kernel
theorem dX9_init_62 : decode cX9_init 62 = .ok (.putfield 38, 3) := by decide +kernel
theorem dX9_init_65 : decode cX9_init 65 = .ok (.aload_n 0, 1) := by decide +kernel
theorem dX9_init_66 : decode cX9_init 66 = .ok (.iconst 1, 1) := by decide +kernel
theorem dX9_init_67 : decode cX9_init 67 = .ok (.putfield 42, 3) := by decide +kernel
theorem dX9_init_70 : decode cX9_init 70 = .ok (.return_, 1) := by decide +kernel
