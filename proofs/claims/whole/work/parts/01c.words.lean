/-! ===== the good words of the tables, one list for all methods ===== -/
def GW : List Cond := lw_tbl.filter goodWord
theorem GW_tbl {w : Cond} (h : w ∈ GW) : w ∈ lw_tbl := (List.mem_filter.mp h).1
theorem GW_good {w : Cond} (h : w ∈ GW) : goodWord w = true := (List.mem_filter.mp h).2
theorem GW_in {w : Cond} (h : w ∈ lw_tbl) (g : goodWord w = true) : w ∈ GW := List.mem_filter.mpr ⟨h, g⟩
theorem inS {w : Cond} {i : Nat} (h : (k2_sels lw_privs)[i]? = some w) (g : goodWord w = true) : w ∈ GW := GW_in (List.mem_append_left _ (List.mem_of_getElem? h)) g
theorem inT1 {w : Cond} {i : Nat} (h : tables_1_1[i]? = some w) (g : goodWord w = true) : w ∈ GW := GW_in (List.mem_append_right _ (List.mem_append_left _ (List.mem_of_getElem? h))) g
theorem inT2 {w : Cond} {i : Nat} (h : tables_1_2[i]? = some w) (g : goodWord w = true) : w ∈ GW := GW_in (List.mem_append_right _ (List.mem_append_right _ (List.mem_append_left _ (List.mem_of_getElem? h)))) g
theorem inT3 {w : Cond} {i : Nat} (h : tables_1_3[i]? = some w) (g : goodWord w = true) : w ∈ GW := GW_in (List.mem_append_right _ (List.mem_append_right _ (List.mem_append_right _ (List.mem_append_left _ (List.mem_of_getElem? h))))) g
theorem inT4 {w : Cond} {i : Nat} (h : tables_1_4[i]? = some w) (g : goodWord w = true) : w ∈ GW := GW_in (List.mem_append_right _ (List.mem_append_right _ (List.mem_append_right _ (List.mem_append_right _ (List.mem_append_left _ (List.mem_of_getElem? h)))))) g
theorem inT5 {w : Cond} {i : Nat} (h : tables_1_5[i]? = some w) (g : goodWord w = true) : w ∈ GW := GW_in (List.mem_append_right _ (List.mem_append_right _ (List.mem_append_right _ (List.mem_append_right _ (List.mem_append_right _ (List.mem_of_getElem? h)))))) g
theorem inL1 {w : Cond} {i : Nat} (h : tables_1_1[i]? = some w) : w ∈ lw_tbl := List.mem_append_right _ (List.mem_append_left _ (List.mem_of_getElem? h))
theorem inL2 {w : Cond} {i : Nat} (h : tables_1_2[i]? = some w) : w ∈ lw_tbl := List.mem_append_right _ (List.mem_append_right _ (List.mem_append_left _ (List.mem_of_getElem? h)))
theorem inL3 {w : Cond} {i : Nat} (h : tables_1_3[i]? = some w) : w ∈ lw_tbl := List.mem_append_right _ (List.mem_append_right _ (List.mem_append_right _ (List.mem_append_left _ (List.mem_of_getElem? h))))
theorem inL4 {w : Cond} {i : Nat} (h : tables_1_4[i]? = some w) : w ∈ lw_tbl := List.mem_append_right _ (List.mem_append_right _ (List.mem_append_right _ (List.mem_append_right _ (List.mem_append_left _ (List.mem_of_getElem? h)))))
theorem inL5 {w : Cond} {i : Nat} (h : tables_1_5[i]? = some w) : w ∈ lw_tbl := List.mem_append_right _ (List.mem_append_right _ (List.mem_append_right _ (List.mem_append_right _ (List.mem_append_right _ (List.mem_of_getElem? h)))))
theorem in_L : Cond.initialized RL ∈ GW := inT1 (i := 0) rfl rfl
theorem in_X4 : Cond.initialized RX4 ∈ GW := inT1 (i := 1) rfl rfl
theorem in_X1 : Cond.initialized RX1 ∈ GW := inT1 (i := 2) rfl rfl
theorem in_X0 : Cond.initialized RX0 ∈ GW := inT1 (i := 3) rfl rfl
theorem in_X2 : Cond.initialized RX2 ∈ GW := inT1 (i := 4) rfl rfl
theorem in_X3 : Cond.initialized RX3 ∈ GW := inT1 (i := 5) rfl rfl
theorem in_X5 : Cond.initialized RX5 ∈ GW := inT1 (i := 6) rfl rfl
theorem in_Throwable : Cond.initialized "java/lang/Throwable" ∈ GW := inT1 (i := 7) rfl rfl
theorem in_Exception : Cond.initialized "java/lang/Exception" ∈ GW := inT1 (i := 8) rfl rfl
theorem in_RuntimeException : Cond.initialized "java/lang/RuntimeException" ∈ GW := inT1 (i := 9) rfl rfl
theorem in_IllegalArgumentException : Cond.initialized "java/lang/IllegalArgumentException" ∈ GW := inT1 (i := 10) rfl rfl
theorem in_IndexOutOfBoundsException : Cond.initialized "java/lang/IndexOutOfBoundsException" ∈ GW := inT1 (i := 11) rfl rfl
theorem in_IllegalStateException : Cond.initialized "java/lang/IllegalStateException" ∈ GW := inT1 (i := 12) rfl rfl
theorem in_NoSuchElementException : Cond.initialized "java/util/NoSuchElementException" ∈ GW := inT1 (i := 13) rfl rfl
theorem in_J9 : Cond.initialized RJ9 ∈ GW := inT1 (i := 14) rfl rfl
theorem cl_L_8 : Cond.classLink RL 8 RX4 ∈ GW := inT1 (i := 15) rfl rfl
theorem io_X4 : Cond.instantiable RX4 9 ∈ GW := inT1 (i := 16) rfl rfl
theorem ml_L_141 : Cond.methodLink RL 141 yX4_init ∈ GW := inT1 (i := 17) rfl rfl
theorem im_X4_init : Cond.instanceMethod yX4_init ∈ GW := inT1 (i := 18) rfl rfl
theorem co_X4_init : Cond.code yX4_init cX4_init 1 none ∈ GW := inT1 (i := 19) rfl rfl
theorem ml_X4_3 : Cond.methodLink RX4 3 objectInit ∈ GW := inT1 (i := 20) rfl rfl
theorem im_objectInit : Cond.instanceMethod objectInit ∈ GW := inT1 (i := 21) rfl rfl
theorem co_objectInit : Cond.code objectInit ⟨#[0xb1]⟩ 1 none ∈ GW := inT1 (i := 22) rfl rfl
theorem cl_X4_9 : Cond.classLink RX4 9 RX1 ∈ GW := inT1 (i := 23) rfl rfl
theorem io_X1 : Cond.instantiable RX1 6 ∈ GW := inT1 (i := 24) rfl rfl
theorem ml_X4_11 : Cond.methodLink RX4 11 yX1_init ∈ GW := inT1 (i := 25) rfl rfl
theorem im_X1_init : Cond.instanceMethod yX1_init ∈ GW := inT1 (i := 26) rfl rfl
theorem co_X1_init : Cond.code yX1_init cX1_init 3 none ∈ GW := inT1 (i := 27) rfl rfl
theorem ml_X1_3 : Cond.methodLink RX1 3 objectInit ∈ GW := inT1 (i := 28) rfl rfl
theorem cl_X1_18 : Cond.classLink RX1 18 RX0 ∈ GW := inT1 (i := 29) rfl rfl
theorem io_X0 : Cond.instantiable RX0 4 ∈ GW := inT1 (i := 30) rfl rfl
theorem mn_X1_20 : Cond.methodLinkNest RX1 20 yX0_init "Arrivalbooks" ∈ lw_tbl := inL1 (i := 31) rfl
theorem im_X0_init : Cond.instanceMethod yX0_init ∈ GW := inT1 (i := 32) rfl rfl
theorem co_X0_init : Cond.code yX0_init cX0_init 1 none ∈ GW := inT1 (i := 33) rfl rfl
theorem ml_X0_3 : Cond.methodLink RX0 3 objectInit ∈ GW := inT1 (i := 34) rfl rfl
theorem fl_X0_9 : Cond.fieldLink RX0 9 "Arrivalbooks$Arrivals" "keys" "[I" ∈ GW := inT1 (i := 35) rfl rfl
theorem fl_X0_15 : Cond.fieldLink RX0 15 "Arrivalbooks$Arrivals" "times" "[I" ∈ GW := inT1 (i := 36) rfl rfl
theorem fl_X0_18 : Cond.fieldLink RX0 18 "Arrivalbooks$Arrivals" "count" "I" ∈ GW := inT1 (i := 37) rfl rfl
theorem fl_X0_22 : Cond.fieldLink RX0 22 "Arrivalbooks$Arrivals" "now" "I" ∈ GW := inT1 (i := 38) rfl rfl
theorem ac_int : Cond.arrayClass .int ∈ GW := inT1 (i := 48) rfl rfl
theorem fl_X1_9 : Cond.fieldLink RX1 9 "Arrivalbooks$Book" "keys" "[I" ∈ GW := inT1 (i := 49) rfl rfl
theorem fl_X1_15 : Cond.fieldLink RX1 15 "Arrivalbooks$Book" "values" "[I" ∈ GW := inT1 (i := 50) rfl rfl
theorem fl_X1_21 : Cond.fieldLink RX1 21 "Arrivalbooks$Book" "arrivals" "LArrivalbooks$Arrivals;" ∈ GW := inT1 (i := 51) rfl rfl
theorem fl_X4_220 : Cond.fieldLink RX4 220 "Arrivalbooks$Book" "arrivals" "LArrivalbooks$Arrivals;" ∈ GW := inT1 (i := 52) rfl rfl
theorem fl_X1_29 : Cond.fieldLink RX1 29 "Arrivalbooks$Book" "letsGo" "Z" ∈ GW := inT1 (i := 53) rfl rfl
theorem fl_X4_246 : Cond.fieldLink RX4 246 "Arrivalbooks$Book" "letsGo" "Z" ∈ GW := inT1 (i := 54) rfl rfl
theorem fl_X1_25 : Cond.fieldLink RX1 25 "Arrivalbooks$Book" "bound" "I" ∈ GW := inT1 (i := 55) rfl rfl
theorem fl_X4_64 : Cond.fieldLink RX4 64 "Arrivalbooks$Book" "bound" "I" ∈ GW := inT1 (i := 56) rfl rfl
theorem fl_X1_33 : Cond.fieldLink RX1 33 "Arrivalbooks$Book" "count" "I" ∈ GW := inT1 (i := 57) rfl rfl
theorem fl_X4_57 : Cond.fieldLink RX4 57 "Arrivalbooks$Book" "count" "I" ∈ GW := inT1 (i := 58) rfl rfl
theorem fl_X0_29 : Cond.fieldLink RX0 29 "Arrivalbooks$Book" "count" "I" ∈ GW := inT1 (i := 59) rfl rfl
theorem cl_X4_30 : Cond.classLink RX4 30 RX2 ∈ GW := inT1 (i := 73) rfl rfl
theorem io_X2 : Cond.instantiable RX2 4 ∈ GW := inT1 (i := 74) rfl rfl
theorem mn_X4_32 : Cond.methodLinkNest RX4 32 yX2_init "Arrivalbooks" ∈ lw_tbl := inL1 (i := 75) rfl
theorem im_X2_init : Cond.instanceMethod yX2_init ∈ GW := inT1 (i := 76) rfl rfl
theorem co_X2_init : Cond.code yX2_init cX2_init 1 none ∈ GW := inT1 (i := 77) rfl rfl
theorem ml_X2_3 : Cond.methodLink RX2 3 objectInit ∈ GW := inT1 (i := 78) rfl rfl
theorem fl_X2_9 : Cond.fieldLink RX2 9 "Arrivalbooks$Cursor" "book" "I" ∈ GW := inT1 (i := 79) rfl rfl
theorem fl_X4_153 : Cond.fieldLink RX4 153 "Arrivalbooks$Cursor" "book" "I" ∈ GW := inT1 (i := 80) rfl rfl
theorem fl_X2_15 : Cond.fieldLink RX2 15 "Arrivalbooks$Cursor" "kind" "I" ∈ GW := inT1 (i := 81) rfl rfl
theorem fl_X4_161 : Cond.fieldLink RX4 161 "Arrivalbooks$Cursor" "kind" "I" ∈ GW := inT1 (i := 82) rfl rfl
theorem fl_X2_18 : Cond.fieldLink RX2 18 "Arrivalbooks$Cursor" "ahead" "I" ∈ GW := inT1 (i := 83) rfl rfl
theorem fl_X4_150 : Cond.fieldLink RX4 150 "Arrivalbooks$Cursor" "ahead" "I" ∈ GW := inT1 (i := 84) rfl rfl
theorem fl_X2_21 : Cond.fieldLink RX2 21 "Arrivalbooks$Cursor" "isOnPair" "Z" ∈ GW := inT1 (i := 85) rfl rfl
theorem fl_X4_264 : Cond.fieldLink RX4 264 "Arrivalbooks$Cursor" "isOnPair" "Z" ∈ GW := inT1 (i := 86) rfl rfl
theorem cl_X4_43 : Cond.classLink RX4 43 RX3 ∈ GW := inT1 (i := 96) rfl rfl
theorem io_X3 : Cond.instantiable RX3 2 ∈ GW := inT1 (i := 97) rfl rfl
theorem mn_X4_45 : Cond.methodLinkNest RX4 45 yX3_init "Arrivalbooks" ∈ lw_tbl := inL1 (i := 98) rfl
theorem im_X3_init : Cond.instanceMethod yX3_init ∈ GW := inT1 (i := 99) rfl rfl
theorem co_X3_init : Cond.code yX3_init cX3_init 1 none ∈ GW := inT1 (i := 100) rfl rfl
theorem ml_X3_3 : Cond.methodLink RX3 3 objectInit ∈ GW := inT1 (i := 101) rfl rfl
theorem fl_X3_9 : Cond.fieldLink RX3 9 "Arrivalbooks$Output" "signs" "[C" ∈ GW := inT1 (i := 102) rfl rfl
theorem fl_X3_15 : Cond.fieldLink RX3 15 "Arrivalbooks$Output" "length" "I" ∈ GW := inT1 (i := 103) rfl rfl
theorem fl_X4_206 : Cond.fieldLink RX4 206 "Arrivalbooks$Output" "length" "I" ∈ GW := inT1 (i := 104) rfl rfl
theorem ac_char : Cond.arrayClass .char ∈ GW := inT1 (i := 110) rfl rfl
theorem fl_X4_14 : Cond.fieldLink RX4 14 "Arrivalbooks" "firstPlain" "LArrivalbooks$Book;" ∈ GW := inT1 (i := 111) rfl rfl
theorem fl_X4_18 : Cond.fieldLink RX4 18 "Arrivalbooks" "secondPlain" "LArrivalbooks$Book;" ∈ GW := inT1 (i := 112) rfl rfl
theorem fl_X4_21 : Cond.fieldLink RX4 21 "Arrivalbooks" "bounded" "LArrivalbooks$Book;" ∈ GW := inT1 (i := 113) rfl rfl
theorem fl_X4_24 : Cond.fieldLink RX4 24 "Arrivalbooks" "queue" "LArrivalbooks$Book;" ∈ GW := inT1 (i := 114) rfl rfl
theorem fl_X4_27 : Cond.fieldLink RX4 27 "Arrivalbooks" "spare" "LArrivalbooks$Book;" ∈ GW := inT1 (i := 115) rfl rfl
theorem fl_X4_33 : Cond.fieldLink RX4 33 "Arrivalbooks" "firstCursor" "LArrivalbooks$Cursor;" ∈ GW := inT1 (i := 116) rfl rfl
theorem fl_X4_37 : Cond.fieldLink RX4 37 "Arrivalbooks" "secondCursor" "LArrivalbooks$Cursor;" ∈ GW := inT1 (i := 117) rfl rfl
theorem fl_X4_40 : Cond.fieldLink RX4 40 "Arrivalbooks" "thirdCursor" "LArrivalbooks$Cursor;" ∈ GW := inT1 (i := 118) rfl rfl
theorem fl_X4_46 : Cond.fieldLink RX4 46 "Arrivalbooks" "output" "LArrivalbooks$Output;" ∈ GW := inT1 (i := 119) rfl rfl
theorem ml_L_270 : Cond.methodLink RL 270 yX4_fullness ∈ GW := inT1 (i := 139) rfl rfl
theorem im_X4_fullness : Cond.instanceMethod yX4_fullness ∈ GW := inT1 (i := 140) rfl rfl
theorem se_X4_fullness : Cond.selects RX4 yX4_fullness yX4_fullness ∈ GW := inT1 (i := 141) rfl rfl
theorem co_X4_fullness : Cond.code yX4_fullness cX4_fullness 1 (some .float) ∈ GW := inT1 (i := 142) rfl rfl
theorem ml_L_275 : Cond.methodLink RL 275 yX4_errors ∈ GW := inT1 (i := 143) rfl rfl
theorem im_X4_errors : Cond.instanceMethod yX4_errors ∈ GW := inT1 (i := 144) rfl rfl
theorem se_X4_errors : Cond.selects RX4 yX4_errors yX4_errors ∈ GW := inT1 (i := 145) rfl rfl
theorem co_X4_errors : Cond.code yX4_errors cX4_errors 3 (some .int) ∈ GW := inT1 (i := 146) rfl rfl
theorem ml_X4_113 : Cond.methodLink RX4 113 yX4_bookOfNumber ∈ GW := inT1 (i := 147) rfl rfl
theorem im_X4_bookOfNumber : Cond.instanceMethod yX4_bookOfNumber ∈ GW := inT1 (i := 149) rfl rfl
theorem co_X4_bookOfNumber : Cond.code yX4_bookOfNumber cX4_bookOfNumber 2 (some (.object "Arrivalbooks$Book")) ∈ GW := inT1 (i := 150) rfl rfl
theorem cl_X4_235 : Cond.classLink RX4 235 "java/lang/IndexOutOfBoundsException" ∈ GW := inT1 (i := 151) rfl rfl
theorem ca_IndexOutOfBoundsException : Cond.castable "java/lang/IndexOutOfBoundsException" "java/lang/IndexOutOfBoundsException" ∈ lw_tbl := inL1 (i := 153) rfl
theorem ac_byte : Cond.arrayClass .byte ∈ GW := inT1 (i := 219) rfl rfl
theorem ml_X4_217 : Cond.methodLink RX4 217 yX4_isAsTheTheoremTells ∈ GW := inT1 (i := 220) rfl rfl
theorem im_X4_isAsTheTheoremTells : Cond.instanceMethod yX4_isAsTheTheoremTells ∈ GW := inT1 (i := 222) rfl rfl
theorem co_X4_isAsTheTheoremTells : Cond.code yX4_isAsTheTheoremTells cX4_isAsTheTheoremTells 2 (some .boolean) ∈ GW := inT1 (i := 223) rfl rfl
theorem ml_X4_224 : Cond.methodLink RX4 224 yX0_tellOf ∈ GW := inT1 (i := 224) rfl rfl
theorem im_X0_tellOf : Cond.instanceMethod yX0_tellOf ∈ GW := inT1 (i := 225) rfl rfl
theorem se_X0_tellOf : Cond.selects RX0 yX0_tellOf yX0_tellOf ∈ GW := inT1 (i := 226) rfl rfl
theorem co_X0_tellOf : Cond.code yX0_tellOf cX0_tellOf 5 (some .boolean) ∈ GW := inT1 (i := 227) rfl rfl
theorem ml_X0_32 : Cond.methodLink RX0 32 yX1_keyOn ∈ GW := inT1 (i := 228) rfl rfl
theorem im_X1_keyOn : Cond.instanceMethod yX1_keyOn ∈ GW := inT1 (i := 229) rfl rfl
theorem se_X1_keyOn : Cond.selects RX1 yX1_keyOn yX1_keyOn ∈ GW := inT1 (i := 230) rfl rfl
theorem co_X1_keyOn : Cond.code yX1_keyOn cX1_keyOn 2 (some .int) ∈ GW := inT1 (i := 231) rfl rfl
theorem ml_X1_36 : Cond.methodLink RX1 36 yX1_reaches ∈ GW := inT1 (i := 232) rfl rfl
theorem im_X1_reaches : Cond.instanceMethod yX1_reaches ∈ GW := inT1 (i := 233) rfl rfl
theorem se_X1_reaches : Cond.selects RX1 yX1_reaches yX1_reaches ∈ GW := inT1 (i := 234) rfl rfl
theorem co_X1_reaches : Cond.code yX1_reaches cX1_reaches 2 (some .boolean) ∈ GW := inT1 (i := 235) rfl rfl
theorem ml_X0_25 : Cond.methodLink RX0 25 yX0_indexOfKey ∈ GW := inT1 (i := 236) rfl rfl
theorem im_X0_indexOfKey : Cond.instanceMethod yX0_indexOfKey ∈ GW := inT1 (i := 238) rfl rfl
theorem co_X0_indexOfKey : Cond.code yX0_indexOfKey cX0_indexOfKey 3 (some .int) ∈ GW := inT1 (i := 239) rfl rfl
theorem ml_X4_229 : Cond.methodLink RX4 229 yX4_isCopyInOrder ∈ GW := inT2 (i := 0) rfl rfl
theorem im_X4_isCopyInOrder : Cond.instanceMethod yX4_isCopyInOrder ∈ GW := inT2 (i := 2) rfl rfl
theorem co_X4_isCopyInOrder : Cond.code yX4_isCopyInOrder cX4_isCopyInOrder 2 (some .boolean) ∈ GW := inT2 (i := 3) rfl rfl
theorem ml_X4_127 : Cond.methodLink RX4 127 yX1_becomeCopyOf ∈ GW := inT2 (i := 4) rfl rfl
theorem im_X1_becomeCopyOf : Cond.instanceMethod yX1_becomeCopyOf ∈ GW := inT2 (i := 5) rfl rfl
theorem se_X1_becomeCopyOf : Cond.selects RX1 yX1_becomeCopyOf yX1_becomeCopyOf ∈ GW := inT2 (i := 6) rfl rfl
theorem co_X1_becomeCopyOf : Cond.code yX1_becomeCopyOf cX1_becomeCopyOf 3 none ∈ GW := inT2 (i := 7) rfl rfl
theorem ml_X1_74 : Cond.methodLink RX1 74 yX1_empty ∈ GW := inT2 (i := 8) rfl rfl
theorem im_X1_empty : Cond.instanceMethod yX1_empty ∈ GW := inT2 (i := 9) rfl rfl
theorem se_X1_empty : Cond.selects RX1 yX1_empty yX1_empty ∈ GW := inT2 (i := 10) rfl rfl
theorem co_X1_empty : Cond.code yX1_empty cX1_empty 1 none ∈ GW := inT2 (i := 11) rfl rfl
theorem ml_X1_61 : Cond.methodLink RX1 61 yX0_allWentOut ∈ GW := inT2 (i := 12) rfl rfl
theorem im_X0_allWentOut : Cond.instanceMethod yX0_allWentOut ∈ GW := inT2 (i := 13) rfl rfl
theorem se_X0_allWentOut : Cond.selects RX0 yX0_allWentOut yX0_allWentOut ∈ GW := inT2 (i := 14) rfl rfl
theorem co_X0_allWentOut : Cond.code yX0_allWentOut cX0_allWentOut 1 none ∈ GW := inT2 (i := 15) rfl rfl
theorem ml_X1_64 : Cond.methodLink RX1 64 yX1_keyOn ∈ GW := inT2 (i := 16) rfl rfl
theorem ml_X1_67 : Cond.methodLink RX1 67 yX1_valueOn ∈ GW := inT2 (i := 17) rfl rfl
theorem im_X1_valueOn : Cond.instanceMethod yX1_valueOn ∈ GW := inT2 (i := 18) rfl rfl
theorem se_X1_valueOn : Cond.selects RX1 yX1_valueOn yX1_valueOn ∈ GW := inT2 (i := 19) rfl rfl
theorem co_X1_valueOn : Cond.code yX1_valueOn cX1_valueOn 2 (some .int) ∈ GW := inT2 (i := 20) rfl rfl
theorem ml_X1_51 : Cond.methodLink RX1 51 yX1_enter ∈ GW := inT2 (i := 21) rfl rfl
theorem im_X1_enter : Cond.instanceMethod yX1_enter ∈ GW := inT2 (i := 22) rfl rfl
theorem se_X1_enter : Cond.selects RX1 yX1_enter yX1_enter ∈ GW := inT2 (i := 23) rfl rfl
theorem co_X1_enter : Cond.code yX1_enter cX1_enter 3 none ∈ GW := inT2 (i := 24) rfl rfl
theorem ml_X1_40 : Cond.methodLink RX1 40 yX0_cameIn ∈ GW := inT2 (i := 25) rfl rfl
theorem im_X0_cameIn : Cond.instanceMethod yX0_cameIn ∈ GW := inT2 (i := 26) rfl rfl
theorem se_X0_cameIn : Cond.selects RX0 yX0_cameIn yX0_cameIn ∈ GW := inT2 (i := 27) rfl rfl
theorem co_X0_cameIn : Cond.code yX0_cameIn cX0_cameIn 2 none ∈ GW := inT2 (i := 28) rfl rfl
theorem ml_X1_44 : Cond.methodLink RX1 44 yX1_leave ∈ GW := inT2 (i := 29) rfl rfl
theorem im_X1_leave : Cond.instanceMethod yX1_leave ∈ GW := inT2 (i := 30) rfl rfl
theorem se_X1_leave : Cond.selects RX1 yX1_leave yX1_leave ∈ GW := inT2 (i := 31) rfl rfl
theorem co_X1_leave : Cond.code yX1_leave cX1_leave 3 none ∈ GW := inT2 (i := 32) rfl rfl
theorem ml_X1_58 : Cond.methodLink RX1 58 yX0_wentOut ∈ GW := inT2 (i := 33) rfl rfl
theorem im_X0_wentOut : Cond.instanceMethod yX0_wentOut ∈ GW := inT2 (i := 34) rfl rfl
theorem se_X0_wentOut : Cond.selects RX0 yX0_wentOut yX0_wentOut ∈ GW := inT2 (i := 35) rfl rfl
theorem co_X0_wentOut : Cond.code yX0_wentOut cX0_wentOut 3 none ∈ GW := inT2 (i := 36) rfl rfl
theorem ml_X4_188 : Cond.methodLink RX4 188 yX1_hasRowOf ∈ GW := inT2 (i := 37) rfl rfl
theorem im_X1_hasRowOf : Cond.instanceMethod yX1_hasRowOf ∈ GW := inT2 (i := 38) rfl rfl
theorem se_X1_hasRowOf : Cond.selects RX1 yX1_hasRowOf yX1_hasRowOf ∈ GW := inT2 (i := 39) rfl rfl
theorem co_X1_hasRowOf : Cond.code yX1_hasRowOf cX1_hasRowOf 3 (some .boolean) ∈ GW := inT2 (i := 40) rfl rfl
theorem ml_X4_232 : Cond.methodLink RX4 232 yX4_isEqualInOppositeOrder ∈ GW := inT2 (i := 41) rfl rfl
theorem im_X4_isEqualInOppositeOrder : Cond.instanceMethod yX4_isEqualInOppositeOrder ∈ GW := inT2 (i := 43) rfl rfl
theorem co_X4_isEqualInOppositeOrder : Cond.code yX4_isEqualInOppositeOrder cX4_isEqualInOppositeOrder 3 (some .boolean) ∈ GW := inT2 (i := 44) rfl rfl
theorem ml_X4_61 : Cond.methodLink RX4 61 yX1_empty ∈ GW := inT2 (i := 45) rfl rfl
theorem ml_X4_132 : Cond.methodLink RX4 132 yX1_keyOn ∈ GW := inT2 (i := 46) rfl rfl
theorem ml_X4_93 : Cond.methodLink RX4 93 yX1_valueOn ∈ GW := inT2 (i := 47) rfl rfl
theorem ml_X4_90 : Cond.methodLink RX4 90 yX1_enter ∈ GW := inT2 (i := 48) rfl rfl
theorem ml_X4_184 : Cond.methodLink RX4 184 yX1_hasPairsOf ∈ GW := inT2 (i := 49) rfl rfl
theorem im_X1_hasPairsOf : Cond.instanceMethod yX1_hasPairsOf ∈ GW := inT2 (i := 50) rfl rfl
theorem se_X1_hasPairsOf : Cond.selects RX1 yX1_hasPairsOf yX1_hasPairsOf ∈ GW := inT2 (i := 51) rfl rfl
theorem co_X1_hasPairsOf : Cond.code yX1_hasPairsOf cX1_hasPairsOf 4 (some .boolean) ∈ GW := inT2 (i := 52) rfl rfl
theorem ml_X1_47 : Cond.methodLink RX1 47 yX1_find ∈ GW := inT2 (i := 53) rfl rfl
theorem im_X1_find : Cond.instanceMethod yX1_find ∈ GW := inT2 (i := 54) rfl rfl
theorem se_X1_find : Cond.selects RX1 yX1_find yX1_find ∈ GW := inT2 (i := 55) rfl rfl
theorem co_X1_find : Cond.code yX1_find cX1_find 3 (some .int) ∈ GW := inT2 (i := 56) rfl rfl
theorem ml_X4_191 : Cond.methodLink RX4 191 yX1_mixed ∈ GW := inT2 (i := 57) rfl rfl
theorem im_X1_mixed : Cond.instanceMethod yX1_mixed ∈ GW := inT2 (i := 58) rfl rfl
theorem se_X1_mixed : Cond.selects RX1 yX1_mixed yX1_mixed ∈ GW := inT2 (i := 59) rfl rfl
theorem co_X1_mixed : Cond.code yX1_mixed cX1_mixed 3 (some .int) ∈ GW := inT2 (i := 60) rfl rfl
theorem ml_L_145 : Cond.methodLink RL 145 yL_rebind ∈ GW := inT2 (i := 61) rfl rfl
theorem st_L_rebind : Cond.static yL_rebind ∈ GW := inT2 (i := 62) rfl rfl
theorem co_L_rebind : Cond.codeWith yL_rebind cL_rebind 4 (some .int) [(0, 9, 12, 13)] ∈ GW := inT2 (i := 63) rfl rfl
theorem cl_L_13 : Cond.classLink RL 13 "java/lang/IllegalArgumentException" ∈ GW := inT2 (i := 64) rfl rfl
theorem ml_L_7 : Cond.methodLink RL 7 yX4_rebind ∈ GW := inT2 (i := 65) rfl rfl
theorem im_X4_rebind : Cond.instanceMethod yX4_rebind ∈ GW := inT2 (i := 66) rfl rfl
theorem se_X4_rebind : Cond.selects RX4 yX4_rebind yX4_rebind ∈ GW := inT2 (i := 67) rfl rfl
theorem co_X4_rebind : Cond.code yX4_rebind cX4_rebind 3 (some .int) ∈ GW := inT2 (i := 68) rfl rfl
theorem cl_X4_50 : Cond.classLink RX4 50 "java/lang/IllegalArgumentException" ∈ GW := inT2 (i := 69) rfl rfl
theorem ca_IllegalArgumentException : Cond.castable "java/lang/IllegalArgumentException" "java/lang/IllegalArgumentException" ∈ lw_tbl := inL2 (i := 71) rfl
theorem ml_X4_67 : Cond.methodLink RX4 67 yX4_closeCursors ∈ GW := inT2 (i := 85) rfl rfl
theorem im_X4_closeCursors : Cond.instanceMethod yX4_closeCursors ∈ GW := inT2 (i := 87) rfl rfl
theorem co_X4_closeCursors : Cond.code yX4_closeCursors cX4_closeCursors 5 none ∈ GW := inT2 (i := 88) rfl rfl
theorem ml_X4_137 : Cond.methodLink RX4 137 yX4_cursorOfNumber ∈ GW := inT2 (i := 89) rfl rfl
theorem im_X4_cursorOfNumber : Cond.instanceMethod yX4_cursorOfNumber ∈ GW := inT2 (i := 91) rfl rfl
theorem co_X4_cursorOfNumber : Cond.code yX4_cursorOfNumber cX4_cursorOfNumber 2 (some (.object "Arrivalbooks$Cursor")) ∈ GW := inT2 (i := 92) rfl rfl
theorem ml_X4_269 : Cond.methodLink RX4 269 yX2_close ∈ GW := inT2 (i := 94) rfl rfl
theorem im_X2_close : Cond.instanceMethod yX2_close ∈ GW := inT2 (i := 95) rfl rfl
theorem se_X2_close : Cond.selects RX2 yX2_close yX2_close ∈ GW := inT2 (i := 96) rfl rfl
theorem co_X2_close : Cond.code yX2_close cX2_close 1 none ∈ GW := inT2 (i := 97) rfl rfl
theorem ml_L_154 : Cond.methodLink RL 154 yL_put ∈ GW := inT2 (i := 98) rfl rfl
theorem st_L_put : Cond.static yL_put ∈ GW := inT2 (i := 99) rfl rfl
theorem co_L_put : Cond.codeWith yL_put cL_put 6 (some .int) [(0, 19, 22, 19), (0, 19, 26, 13), (0, 19, 30, 21)] ∈ GW := inT2 (i := 100) rfl rfl
theorem cl_L_19 : Cond.classLink RL 19 "java/lang/IndexOutOfBoundsException" ∈ GW := inT2 (i := 101) rfl rfl
theorem cl_L_21 : Cond.classLink RL 21 "java/lang/IllegalStateException" ∈ GW := inT2 (i := 102) rfl rfl
theorem ml_L_15 : Cond.methodLink RL 15 yX4_put ∈ GW := inT2 (i := 103) rfl rfl
theorem im_X4_put : Cond.instanceMethod yX4_put ∈ GW := inT2 (i := 104) rfl rfl
theorem se_X4_put : Cond.selects RX4 yX4_put yX4_put ∈ GW := inT2 (i := 105) rfl rfl
theorem co_X4_put : Cond.code yX4_put cX4_put 5 (some .boolean) ∈ GW := inT2 (i := 106) rfl rfl
theorem ml_X4_71 : Cond.methodLink RX4 71 yX4_bookChangedByHand ∈ GW := inT2 (i := 107) rfl rfl
theorem im_X4_bookChangedByHand : Cond.instanceMethod yX4_bookChangedByHand ∈ GW := inT2 (i := 109) rfl rfl
theorem co_X4_bookChangedByHand : Cond.code yX4_bookChangedByHand cX4_bookChangedByHand 3 (some (.object "Arrivalbooks$Book")) ∈ GW := inT2 (i := 110) rfl rfl
theorem ml_X4_75 : Cond.methodLink RX4 75 yX4_requireRoomForKey ∈ GW := inT2 (i := 112) rfl rfl
theorem im_X4_requireRoomForKey : Cond.instanceMethod yX4_requireRoomForKey ∈ GW := inT2 (i := 114) rfl rfl
theorem co_X4_requireRoomForKey : Cond.code yX4_requireRoomForKey cX4_requireRoomForKey 3 none ∈ GW := inT2 (i := 115) rfl rfl
theorem ml_X4_86 : Cond.methodLink RX4 86 yX1_find ∈ GW := inT2 (i := 116) rfl rfl
theorem ml_X4_110 : Cond.methodLink RX4 110 yX4_requireRoom ∈ GW := inT2 (i := 117) rfl rfl
theorem im_X4_requireRoom : Cond.instanceMethod yX4_requireRoom ∈ GW := inT2 (i := 119) rfl rfl
theorem co_X4_requireRoom : Cond.code yX4_requireRoom cX4_requireRoom 3 none ∈ GW := inT2 (i := 120) rfl rfl
theorem cl_X4_250 : Cond.classLink RX4 250 "java/lang/IllegalStateException" ∈ GW := inT2 (i := 121) rfl rfl
theorem ca_IllegalStateException : Cond.castable "java/lang/IllegalStateException" "java/lang/IllegalStateException" ∈ lw_tbl := inL2 (i := 123) rfl
theorem ml_X4_79 : Cond.methodLink RX4 79 yX1_store ∈ GW := inT2 (i := 137) rfl rfl
theorem im_X1_store : Cond.instanceMethod yX1_store ∈ GW := inT2 (i := 138) rfl rfl
theorem se_X1_store : Cond.selects RX1 yX1_store yX1_store ∈ GW := inT2 (i := 139) rfl rfl
theorem co_X1_store : Cond.code yX1_store cX1_store 4 (some .boolean) ∈ GW := inT2 (i := 140) rfl rfl
theorem ml_X1_55 : Cond.methodLink RX1 55 yX1_give ∈ GW := inT2 (i := 141) rfl rfl
theorem im_X1_give : Cond.instanceMethod yX1_give ∈ GW := inT2 (i := 142) rfl rfl
theorem se_X1_give : Cond.selects RX1 yX1_give yX1_give ∈ GW := inT2 (i := 143) rfl rfl
theorem co_X1_give : Cond.code yX1_give cX1_give 3 none ∈ GW := inT2 (i := 144) rfl rfl
theorem ml_L_158 : Cond.methodLink RL 158 yL_putNew ∈ GW := inT2 (i := 145) rfl rfl
theorem st_L_putNew : Cond.static yL_putNew ∈ GW := inT2 (i := 146) rfl rfl
theorem co_L_putNew : Cond.codeWith yL_putNew cL_putNew 6 (some .int) [(0, 12, 15, 19), (0, 12, 19, 13), (0, 12, 23, 21)] ∈ GW := inT2 (i := 147) rfl rfl
theorem ml_L_23 : Cond.methodLink RL 23 yX4_putNew ∈ GW := inT2 (i := 148) rfl rfl
theorem im_X4_putNew : Cond.instanceMethod yX4_putNew ∈ GW := inT2 (i := 149) rfl rfl
theorem se_X4_putNew : Cond.selects RX4 yX4_putNew yX4_putNew ∈ GW := inT2 (i := 150) rfl rfl
theorem co_X4_putNew : Cond.code yX4_putNew cX4_putNew 6 (some .int) ∈ GW := inT2 (i := 151) rfl rfl
theorem ml_X4_83 : Cond.methodLink RX4 83 yX4_plainBook ∈ GW := inT2 (i := 152) rfl rfl
theorem im_X4_plainBook : Cond.instanceMethod yX4_plainBook ∈ GW := inT2 (i := 154) rfl rfl
theorem co_X4_plainBook : Cond.code yX4_plainBook cX4_plainBook 3 (some (.object "Arrivalbooks$Book")) ∈ GW := inT2 (i := 155) rfl rfl
theorem ml_L_161 : Cond.methodLink RL 161 yL_add ∈ GW := inT2 (i := 157) rfl rfl
theorem st_L_add : Cond.static yL_add ∈ GW := inT2 (i := 158) rfl rfl
theorem co_L_add : Cond.codeWith yL_add cL_add 6 (some .int) [(0, 12, 15, 19), (0, 12, 19, 13), (0, 12, 23, 21)] ∈ GW := inT2 (i := 159) rfl rfl
theorem ml_L_27 : Cond.methodLink RL 27 yX4_add ∈ GW := inT2 (i := 160) rfl rfl
theorem im_X4_add : Cond.instanceMethod yX4_add ∈ GW := inT2 (i := 161) rfl rfl
theorem se_X4_add : Cond.selects RX4 yX4_add yX4_add ∈ GW := inT2 (i := 162) rfl rfl
theorem co_X4_add : Cond.code yX4_add cX4_add 7 (some .int) ∈ GW := inT2 (i := 163) rfl rfl
theorem ml_L_164 : Cond.methodLink RL 164 yL_halve ∈ GW := inT2 (i := 164) rfl rfl
theorem st_L_halve : Cond.static yL_halve ∈ GW := inT2 (i := 165) rfl rfl
theorem co_L_halve : Cond.codeWith yL_halve cL_halve 5 (some .int) [(0, 17, 20, 19), (0, 17, 24, 13)] ∈ GW := inT2 (i := 166) rfl rfl
theorem ml_L_30 : Cond.methodLink RL 30 yX4_halve ∈ GW := inT2 (i := 167) rfl rfl
theorem im_X4_halve : Cond.instanceMethod yX4_halve ∈ GW := inT2 (i := 168) rfl rfl
theorem se_X4_halve : Cond.selects RX4 yX4_halve yX4_halve ∈ GW := inT2 (i := 169) rfl rfl
theorem co_X4_halve : Cond.code yX4_halve cX4_halve 6 (some .boolean) ∈ GW := inT2 (i := 170) rfl rfl
theorem ml_X4_96 : Cond.methodLink RX4 96 yX1_leave ∈ GW := inT2 (i := 171) rfl rfl
theorem ml_X4_100 : Cond.methodLink RX4 100 yX1_give ∈ GW := inT2 (i := 172) rfl rfl
theorem ml_L_168 : Cond.methodLink RL 168 yL_addToAll ∈ GW := inT2 (i := 173) rfl rfl
theorem st_L_addToAll : Cond.static yL_addToAll ∈ GW := inT2 (i := 174) rfl rfl
theorem co_L_addToAll : Cond.codeWith yL_addToAll cL_addToAll 5 (some .int) [(0, 10, 13, 19), (0, 10, 17, 13)] ∈ GW := inT2 (i := 175) rfl rfl
theorem ml_L_34 : Cond.methodLink RL 34 yX4_addToAll ∈ GW := inT2 (i := 176) rfl rfl
theorem im_X4_addToAll : Cond.instanceMethod yX4_addToAll ∈ GW := inT2 (i := 177) rfl rfl
theorem se_X4_addToAll : Cond.selects RX4 yX4_addToAll yX4_addToAll ∈ GW := inT2 (i := 178) rfl rfl
theorem co_X4_addToAll : Cond.code yX4_addToAll cX4_addToAll 5 (some .int) ∈ GW := inT2 (i := 179) rfl rfl
theorem ml_L_171 : Cond.methodLink RL 171 yL_replace ∈ GW := inT2 (i := 180) rfl rfl
theorem st_L_replace : Cond.static yL_replace ∈ GW := inT2 (i := 181) rfl rfl
theorem co_L_replace : Cond.codeWith yL_replace cL_replace 6 (some .int) [(0, 19, 22, 19), (0, 19, 26, 13)] ∈ GW := inT2 (i := 182) rfl rfl
theorem ml_L_38 : Cond.methodLink RL 38 yX4_replace ∈ GW := inT2 (i := 183) rfl rfl
theorem im_X4_replace : Cond.instanceMethod yX4_replace ∈ GW := inT2 (i := 184) rfl rfl
theorem se_X4_replace : Cond.selects RX4 yX4_replace yX4_replace ∈ GW := inT2 (i := 185) rfl rfl
theorem co_X4_replace : Cond.code yX4_replace cX4_replace 6 (some .boolean) ∈ GW := inT2 (i := 186) rfl rfl
theorem ml_L_174 : Cond.methodLink RL 174 yL_remove ∈ GW := inT2 (i := 187) rfl rfl
theorem st_L_remove : Cond.static yL_remove ∈ GW := inT2 (i := 188) rfl rfl
theorem co_L_remove : Cond.codeWith yL_remove cL_remove 5 (some .int) [(0, 10, 13, 19), (0, 10, 17, 13), (0, 10, 21, 44)] ∈ GW := inT2 (i := 189) rfl rfl
theorem cl_L_44 : Cond.classLink RL 44 "java/util/NoSuchElementException" ∈ GW := inT2 (i := 190) rfl rfl
theorem ml_L_41 : Cond.methodLink RL 41 yX4_remove ∈ GW := inT2 (i := 191) rfl rfl
theorem im_X4_remove : Cond.instanceMethod yX4_remove ∈ GW := inT2 (i := 192) rfl rfl
theorem se_X4_remove : Cond.selects RX4 yX4_remove yX4_remove ∈ GW := inT2 (i := 193) rfl rfl
theorem co_X4_remove : Cond.code yX4_remove cX4_remove 6 (some .int) ∈ GW := inT2 (i := 194) rfl rfl
theorem cl_X4_103 : Cond.classLink RX4 103 "java/util/NoSuchElementException" ∈ GW := inT2 (i := 195) rfl rfl
theorem ca_NoSuchElementException : Cond.castable "java/util/NoSuchElementException" "java/util/NoSuchElementException" ∈ lw_tbl := inL2 (i := 197) rfl
theorem ml_L_177 : Cond.methodLink RL 177 yL_removePair ∈ GW := inT2 (i := 211) rfl rfl
theorem st_L_removePair : Cond.static yL_removePair ∈ GW := inT2 (i := 212) rfl rfl
theorem co_L_removePair : Cond.codeWith yL_removePair cL_removePair 6 (some .int) [(0, 19, 22, 19), (0, 19, 26, 13)] ∈ GW := inT2 (i := 213) rfl rfl
theorem ml_L_46 : Cond.methodLink RL 46 yX4_removePair ∈ GW := inT2 (i := 214) rfl rfl
theorem im_X4_removePair : Cond.instanceMethod yX4_removePair ∈ GW := inT2 (i := 215) rfl rfl
theorem se_X4_removePair : Cond.selects RX4 yX4_removePair yX4_removePair ∈ GW := inT2 (i := 216) rfl rfl
theorem co_X4_removePair : Cond.code yX4_removePair cX4_removePair 6 (some .boolean) ∈ GW := inT2 (i := 217) rfl rfl
theorem ml_L_180 : Cond.methodLink RL 180 yL_fill ∈ GW := inT2 (i := 218) rfl rfl
theorem st_L_fill : Cond.static yL_fill ∈ GW := inT2 (i := 219) rfl rfl
theorem co_L_fill : Cond.codeWith yL_fill cL_fill 7 (some .int) [(0, 14, 17, 19), (0, 14, 21, 13), (0, 14, 25, 21)] ∈ GW := inT2 (i := 220) rfl rfl
theorem ml_L_49 : Cond.methodLink RL 49 yX4_fill ∈ GW := inT2 (i := 221) rfl rfl
theorem im_X4_fill : Cond.instanceMethod yX4_fill ∈ GW := inT2 (i := 222) rfl rfl
theorem se_X4_fill : Cond.selects RX4 yX4_fill yX4_fill ∈ GW := inT2 (i := 223) rfl rfl
theorem co_X4_fill : Cond.code yX4_fill cX4_fill 8 (some .int) ∈ GW := inT2 (i := 224) rfl rfl
theorem ml_L_184 : Cond.methodLink RL 184 yL_pour ∈ GW := inT2 (i := 226) rfl rfl
theorem st_L_pour : Cond.static yL_pour ∈ GW := inT2 (i := 227) rfl rfl
theorem co_L_pour : Cond.codeWith yL_pour cL_pour 5 (some .int) [(0, 10, 13, 19), (0, 10, 17, 13), (0, 10, 21, 21)] ∈ GW := inT2 (i := 228) rfl rfl
theorem ml_L_53 : Cond.methodLink RL 53 yX4_pour ∈ GW := inT2 (i := 229) rfl rfl
theorem im_X4_pour : Cond.instanceMethod yX4_pour ∈ GW := inT2 (i := 230) rfl rfl
theorem se_X4_pour : Cond.selects RX4 yX4_pour yX4_pour ∈ GW := inT2 (i := 231) rfl rfl
theorem co_X4_pour : Cond.code yX4_pour cX4_pour 5 (some .int) ∈ GW := inT2 (i := 232) rfl rfl
theorem ml_X4_116 : Cond.methodLink RX4 116 yX4_requireTwoBooks ∈ GW := inT2 (i := 233) rfl rfl
theorem im_X4_requireTwoBooks : Cond.instanceMethod yX4_requireTwoBooks ∈ GW := inT2 (i := 235) rfl rfl
theorem co_X4_requireTwoBooks : Cond.code yX4_requireTwoBooks cX4_requireTwoBooks 3 none ∈ GW := inT2 (i := 236) rfl rfl
theorem ml_X4_119 : Cond.methodLink RX4 119 yX1_countMissingIn ∈ GW := inT2 (i := 238) rfl rfl
theorem im_X1_countMissingIn : Cond.instanceMethod yX1_countMissingIn ∈ GW := inT2 (i := 239) rfl rfl
theorem se_X1_countMissingIn : Cond.selects RX1 yX1_countMissingIn yX1_countMissingIn ∈ GW := inT3 (i := 0) rfl rfl
theorem co_X1_countMissingIn : Cond.code yX1_countMissingIn cX1_countMissingIn 4 (some .int) ∈ GW := inT3 (i := 1) rfl rfl
theorem ml_X4_123 : Cond.methodLink RX4 123 yX1_storeAllOf ∈ GW := inT3 (i := 2) rfl rfl
theorem im_X1_storeAllOf : Cond.instanceMethod yX1_storeAllOf ∈ GW := inT3 (i := 3) rfl rfl
theorem se_X1_storeAllOf : Cond.selects RX1 yX1_storeAllOf yX1_storeAllOf ∈ GW := inT3 (i := 4) rfl rfl
theorem co_X1_storeAllOf : Cond.code yX1_storeAllOf cX1_storeAllOf 3 none ∈ GW := inT3 (i := 5) rfl rfl
theorem ml_X1_70 : Cond.methodLink RX1 70 yX1_store ∈ GW := inT3 (i := 6) rfl rfl
theorem ml_L_187 : Cond.methodLink RL 187 yL_copy ∈ GW := inT3 (i := 7) rfl rfl
theorem st_L_copy : Cond.static yL_copy ∈ GW := inT3 (i := 8) rfl rfl
theorem co_L_copy : Cond.codeWith yL_copy cL_copy 5 (some .int) [(0, 10, 13, 19), (0, 10, 17, 13)] ∈ GW := inT3 (i := 9) rfl rfl
theorem ml_L_56 : Cond.methodLink RL 56 yX4_copy ∈ GW := inT3 (i := 10) rfl rfl
theorem im_X4_copy : Cond.instanceMethod yX4_copy ∈ GW := inT3 (i := 11) rfl rfl
theorem se_X4_copy : Cond.selects RX4 yX4_copy yX4_copy ∈ GW := inT3 (i := 12) rfl rfl
theorem co_X4_copy : Cond.code yX4_copy cX4_copy 5 (some .int) ∈ GW := inT3 (i := 13) rfl rfl
theorem ml_L_190 : Cond.methodLink RL 190 yL_clear ∈ GW := inT3 (i := 14) rfl rfl
theorem st_L_clear : Cond.static yL_clear ∈ GW := inT3 (i := 15) rfl rfl
theorem co_L_clear : Cond.codeWith yL_clear cL_clear 4 (some .int) [(0, 9, 12, 19), (0, 9, 15, 13)] ∈ GW := inT3 (i := 16) rfl rfl
theorem ml_L_59 : Cond.methodLink RL 59 yX4_clear ∈ GW := inT3 (i := 17) rfl rfl
theorem im_X4_clear : Cond.instanceMethod yX4_clear ∈ GW := inT3 (i := 18) rfl rfl
theorem se_X4_clear : Cond.selects RX4 yX4_clear yX4_clear ∈ GW := inT3 (i := 19) rfl rfl
theorem co_X4_clear : Cond.code yX4_clear cX4_clear 4 (some .int) ∈ GW := inT3 (i := 20) rfl rfl
theorem ml_L_193 : Cond.methodLink RL 193 yL_offer ∈ GW := inT3 (i := 21) rfl rfl
theorem st_L_offer : Cond.static yL_offer ∈ GW := inT3 (i := 22) rfl rfl
theorem co_L_offer : Cond.codeWith yL_offer cL_offer 4 (some .int) [(0, 16, 19, 21)] ∈ GW := inT3 (i := 23) rfl rfl
theorem ml_L_62 : Cond.methodLink RL 62 yX4_offer ∈ GW := inT3 (i := 24) rfl rfl
theorem im_X4_offer : Cond.instanceMethod yX4_offer ∈ GW := inT3 (i := 25) rfl rfl
theorem se_X4_offer : Cond.selects RX4 yX4_offer yX4_offer ∈ GW := inT3 (i := 26) rfl rfl
theorem co_X4_offer : Cond.code yX4_offer cX4_offer 3 (some .boolean) ∈ GW := inT3 (i := 27) rfl rfl
theorem ml_L_196 : Cond.methodLink RL 196 yL_poll ∈ GW := inT3 (i := 28) rfl rfl
theorem st_L_poll : Cond.static yL_poll ∈ GW := inT3 (i := 29) rfl rfl
theorem co_L_poll : Cond.codeWith yL_poll cL_poll 3 (some .int) [(0, 8, 11, 44)] ∈ GW := inT3 (i := 30) rfl rfl
theorem ml_L_66 : Cond.methodLink RL 66 yX4_poll ∈ GW := inT3 (i := 31) rfl rfl
theorem im_X4_poll : Cond.instanceMethod yX4_poll ∈ GW := inT3 (i := 32) rfl rfl
theorem se_X4_poll : Cond.selects RX4 yX4_poll yX4_poll ∈ GW := inT3 (i := 33) rfl rfl
theorem co_X4_poll : Cond.code yX4_poll cX4_poll 2 (some .int) ∈ GW := inT3 (i := 34) rfl rfl
theorem ml_L_200 : Cond.methodLink RL 200 yL_toEnd ∈ GW := inT3 (i := 36) rfl rfl
theorem st_L_toEnd : Cond.static yL_toEnd ∈ GW := inT3 (i := 37) rfl rfl
theorem co_L_toEnd : Cond.codeWith yL_toEnd cL_toEnd 4 (some .int) [(0, 9, 12, 44)] ∈ GW := inT3 (i := 38) rfl rfl
theorem ml_L_70 : Cond.methodLink RL 70 yX4_toEnd ∈ GW := inT3 (i := 39) rfl rfl
theorem im_X4_toEnd : Cond.instanceMethod yX4_toEnd ∈ GW := inT3 (i := 40) rfl rfl
theorem se_X4_toEnd : Cond.selects RX4 yX4_toEnd yX4_toEnd ∈ GW := inT3 (i := 41) rfl rfl
theorem co_X4_toEnd : Cond.code yX4_toEnd cX4_toEnd 4 (some .int) ∈ GW := inT3 (i := 42) rfl rfl
theorem ml_L_203 : Cond.methodLink RL 203 yL_open ∈ GW := inT3 (i := 44) rfl rfl
theorem st_L_open : Cond.static yL_open ∈ GW := inT3 (i := 45) rfl rfl
theorem co_L_open : Cond.codeWith yL_open cL_open 6 (some .int) [(0, 12, 15, 19), (0, 12, 19, 13)] ∈ GW := inT3 (i := 46) rfl rfl
theorem ml_L_73 : Cond.methodLink RL 73 yX4_open ∈ GW := inT3 (i := 47) rfl rfl
theorem im_X4_open : Cond.instanceMethod yX4_open ∈ GW := inT3 (i := 48) rfl rfl
theorem se_X4_open : Cond.selects RX4 yX4_open yX4_open ∈ GW := inT3 (i := 49) rfl rfl
theorem co_X4_open : Cond.code yX4_open cX4_open 6 (some .int) ∈ GW := inT3 (i := 50) rfl rfl
theorem ml_X4_141 : Cond.methodLink RX4 141 yX4_requireKind ∈ GW := inT3 (i := 51) rfl rfl
theorem im_X4_requireKind : Cond.instanceMethod yX4_requireKind ∈ GW := inT3 (i := 53) rfl rfl
theorem co_X4_requireKind : Cond.code yX4_requireKind cX4_requireKind 2 none ∈ GW := inT3 (i := 54) rfl rfl
theorem ml_X4_144 : Cond.methodLink RX4 144 yX2_openAt ∈ GW := inT3 (i := 56) rfl rfl
theorem im_X2_openAt : Cond.instanceMethod yX2_openAt ∈ GW := inT3 (i := 57) rfl rfl
theorem se_X2_openAt : Cond.selects RX2 yX2_openAt yX2_openAt ∈ GW := inT3 (i := 58) rfl rfl
theorem co_X2_openAt : Cond.code yX2_openAt cX2_openAt 3 none ∈ GW := inT3 (i := 59) rfl rfl
theorem ml_L_206 : Cond.methodLink RL 206 yL_hasNext ∈ GW := inT3 (i := 60) rfl rfl
theorem st_L_hasNext : Cond.static yL_hasNext ∈ GW := inT3 (i := 61) rfl rfl
theorem co_L_hasNext : Cond.codeWith yL_hasNext cL_hasNext 4 (some .int) [(0, 16, 19, 19), (0, 16, 22, 21)] ∈ GW := inT3 (i := 62) rfl rfl
theorem ml_L_76 : Cond.methodLink RL 76 yX4_hasNext ∈ GW := inT3 (i := 63) rfl rfl
theorem im_X4_hasNext : Cond.instanceMethod yX4_hasNext ∈ GW := inT3 (i := 64) rfl rfl
theorem se_X4_hasNext : Cond.selects RX4 yX4_hasNext yX4_hasNext ∈ GW := inT3 (i := 65) rfl rfl
theorem co_X4_hasNext : Cond.code yX4_hasNext cX4_hasNext 3 (some .boolean) ∈ GW := inT3 (i := 66) rfl rfl
theorem ml_X4_147 : Cond.methodLink RX4 147 yX4_openCursor ∈ GW := inT3 (i := 67) rfl rfl
theorem im_X4_openCursor : Cond.instanceMethod yX4_openCursor ∈ GW := inT3 (i := 69) rfl rfl
theorem co_X4_openCursor : Cond.code yX4_openCursor cX4_openCursor 3 (some (.object "Arrivalbooks$Cursor")) ∈ GW := inT3 (i := 70) rfl rfl
theorem ml_L_209 : Cond.methodLink RL 209 yL_next ∈ GW := inT3 (i := 72) rfl rfl
theorem st_L_next : Cond.static yL_next ∈ GW := inT3 (i := 73) rfl rfl
theorem co_L_next : Cond.codeWith yL_next cL_next 4 (some .int) [(0, 9, 12, 19), (0, 9, 15, 21), (0, 9, 18, 44)] ∈ GW := inT3 (i := 74) rfl rfl
theorem ml_L_79 : Cond.methodLink RL 79 yX4_next ∈ GW := inT3 (i := 75) rfl rfl
theorem im_X4_next : Cond.instanceMethod yX4_next ∈ GW := inT3 (i := 76) rfl rfl
theorem se_X4_next : Cond.selects RX4 yX4_next yX4_next ∈ GW := inT3 (i := 77) rfl rfl
theorem co_X4_next : Cond.code yX4_next cX4_next 5 (some .int) ∈ GW := inT3 (i := 78) rfl rfl
theorem ml_X4_158 : Cond.methodLink RX4 158 yX2_goOn ∈ GW := inT3 (i := 80) rfl rfl
theorem im_X2_goOn : Cond.instanceMethod yX2_goOn ∈ GW := inT3 (i := 81) rfl rfl
theorem se_X2_goOn : Cond.selects RX2 yX2_goOn yX2_goOn ∈ GW := inT3 (i := 82) rfl rfl
theorem co_X2_goOn : Cond.code yX2_goOn cX2_goOn 1 none ∈ GW := inT3 (i := 83) rfl rfl
theorem ml_L_212 : Cond.methodLink RL 212 yL_removeAt ∈ GW := inT3 (i := 84) rfl rfl
theorem st_L_removeAt : Cond.static yL_removeAt ∈ GW := inT3 (i := 85) rfl rfl
theorem co_L_removeAt : Cond.codeWith yL_removeAt cL_removeAt 4 (some .int) [(0, 9, 12, 19), (0, 9, 15, 21)] ∈ GW := inT3 (i := 86) rfl rfl
theorem ml_L_82 : Cond.methodLink RL 82 yX4_removeAt ∈ GW := inT3 (i := 87) rfl rfl
theorem im_X4_removeAt : Cond.instanceMethod yX4_removeAt ∈ GW := inT3 (i := 88) rfl rfl
theorem se_X4_removeAt : Cond.selects RX4 yX4_removeAt yX4_removeAt ∈ GW := inT3 (i := 89) rfl rfl
theorem co_X4_removeAt : Cond.code yX4_removeAt cX4_removeAt 4 (some .int) ∈ GW := inT3 (i := 90) rfl rfl
theorem ml_X4_164 : Cond.methodLink RX4 164 yX4_requireChangeablePair ∈ GW := inT3 (i := 91) rfl rfl
theorem im_X4_requireChangeablePair : Cond.instanceMethod yX4_requireChangeablePair ∈ GW := inT3 (i := 93) rfl rfl
theorem co_X4_requireChangeablePair : Cond.code yX4_requireChangeablePair cX4_requireChangeablePair 2 none ∈ GW := inT3 (i := 94) rfl rfl
theorem ml_X4_168 : Cond.methodLink RX4 168 yX2_lastPlace ∈ GW := inT3 (i := 96) rfl rfl
theorem im_X2_lastPlace : Cond.instanceMethod yX2_lastPlace ∈ GW := inT3 (i := 97) rfl rfl
theorem se_X2_lastPlace : Cond.selects RX2 yX2_lastPlace yX2_lastPlace ∈ GW := inT3 (i := 98) rfl rfl
theorem co_X2_lastPlace : Cond.code yX2_lastPlace cX2_lastPlace 1 (some .int) ∈ GW := inT3 (i := 99) rfl rfl
theorem ml_X4_172 : Cond.methodLink RX4 172 yX2_stepBack ∈ GW := inT3 (i := 100) rfl rfl
theorem im_X2_stepBack : Cond.instanceMethod yX2_stepBack ∈ GW := inT3 (i := 101) rfl rfl
theorem se_X2_stepBack : Cond.selects RX2 yX2_stepBack yX2_stepBack ∈ GW := inT3 (i := 102) rfl rfl
theorem co_X2_stepBack : Cond.code yX2_stepBack cX2_stepBack 1 none ∈ GW := inT3 (i := 103) rfl rfl
theorem ml_L_215 : Cond.methodLink RL 215 yL_setAt ∈ GW := inT3 (i := 104) rfl rfl
theorem st_L_setAt : Cond.static yL_setAt ∈ GW := inT3 (i := 105) rfl rfl
theorem co_L_setAt : Cond.codeWith yL_setAt cL_setAt 5 (some .int) [(0, 10, 13, 19), (0, 10, 17, 13), (0, 10, 21, 21)] ∈ GW := inT3 (i := 106) rfl rfl
theorem ml_L_85 : Cond.methodLink RL 85 yX4_setAt ∈ GW := inT3 (i := 107) rfl rfl
theorem im_X4_setAt : Cond.instanceMethod yX4_setAt ∈ GW := inT3 (i := 108) rfl rfl
theorem se_X4_setAt : Cond.selects RX4 yX4_setAt yX4_setAt ∈ GW := inT3 (i := 109) rfl rfl
theorem co_X4_setAt : Cond.code yX4_setAt cX4_setAt 6 (some .int) ∈ GW := inT3 (i := 110) rfl rfl
theorem ml_L_218 : Cond.methodLink RL 218 yL_bookOf ∈ GW := inT3 (i := 112) rfl rfl
theorem st_L_bookOf : Cond.static yL_bookOf ∈ GW := inT3 (i := 113) rfl rfl
theorem co_L_bookOf : Cond.codeWith yL_bookOf cL_bookOf 4 (some .int) [(0, 9, 12, 19)] ∈ GW := inT3 (i := 114) rfl rfl
theorem ml_L_88 : Cond.methodLink RL 88 yX4_bookOf ∈ GW := inT3 (i := 115) rfl rfl
theorem im_X4_bookOf : Cond.instanceMethod yX4_bookOf ∈ GW := inT3 (i := 116) rfl rfl
theorem se_X4_bookOf : Cond.selects RX4 yX4_bookOf yX4_bookOf ∈ GW := inT3 (i := 117) rfl rfl
theorem co_X4_bookOf : Cond.code yX4_bookOf cX4_bookOf 2 (some .int) ∈ GW := inT3 (i := 118) rfl rfl
theorem ml_L_221 : Cond.methodLink RL 221 yL_size ∈ GW := inT3 (i := 119) rfl rfl
theorem st_L_size : Cond.static yL_size ∈ GW := inT3 (i := 120) rfl rfl
theorem co_L_size : Cond.codeWith yL_size cL_size 4 (some .int) [(0, 9, 12, 19)] ∈ GW := inT3 (i := 121) rfl rfl
theorem ml_L_91 : Cond.methodLink RL 91 yX4_size ∈ GW := inT3 (i := 122) rfl rfl
theorem im_X4_size : Cond.instanceMethod yX4_size ∈ GW := inT3 (i := 123) rfl rfl
theorem se_X4_size : Cond.selects RX4 yX4_size yX4_size ∈ GW := inT3 (i := 124) rfl rfl
theorem co_X4_size : Cond.code yX4_size cX4_size 2 (some .int) ∈ GW := inT3 (i := 125) rfl rfl
theorem ml_L_224 : Cond.methodLink RL 224 yL_hasKey ∈ GW := inT3 (i := 126) rfl rfl
theorem st_L_hasKey : Cond.static yL_hasKey ∈ GW := inT3 (i := 127) rfl rfl
theorem co_L_hasKey : Cond.codeWith yL_hasKey cL_hasKey 5 (some .int) [(0, 17, 20, 19)] ∈ GW := inT3 (i := 128) rfl rfl
theorem ml_L_94 : Cond.methodLink RL 94 yX4_hasKey ∈ GW := inT3 (i := 129) rfl rfl
theorem im_X4_hasKey : Cond.instanceMethod yX4_hasKey ∈ GW := inT3 (i := 130) rfl rfl
theorem se_X4_hasKey : Cond.selects RX4 yX4_hasKey yX4_hasKey ∈ GW := inT3 (i := 131) rfl rfl
theorem co_X4_hasKey : Cond.code yX4_hasKey cX4_hasKey 3 (some .boolean) ∈ GW := inT3 (i := 132) rfl rfl
theorem ml_L_227 : Cond.methodLink RL 227 yL_hasValue ∈ GW := inT3 (i := 133) rfl rfl
theorem st_L_hasValue : Cond.static yL_hasValue ∈ GW := inT3 (i := 134) rfl rfl
theorem co_L_hasValue : Cond.codeWith yL_hasValue cL_hasValue 5 (some .int) [(0, 17, 20, 19)] ∈ GW := inT3 (i := 135) rfl rfl
theorem ml_L_97 : Cond.methodLink RL 97 yX4_hasValue ∈ GW := inT3 (i := 136) rfl rfl
theorem im_X4_hasValue : Cond.instanceMethod yX4_hasValue ∈ GW := inT3 (i := 137) rfl rfl
theorem se_X4_hasValue : Cond.selects RX4 yX4_hasValue yX4_hasValue ∈ GW := inT3 (i := 138) rfl rfl
theorem co_X4_hasValue : Cond.code yX4_hasValue cX4_hasValue 3 (some .boolean) ∈ GW := inT3 (i := 139) rfl rfl
theorem ml_X4_177 : Cond.methodLink RX4 177 yX1_holdsValue ∈ GW := inT3 (i := 140) rfl rfl
theorem im_X1_holdsValue : Cond.instanceMethod yX1_holdsValue ∈ GW := inT3 (i := 141) rfl rfl
theorem se_X1_holdsValue : Cond.selects RX1 yX1_holdsValue yX1_holdsValue ∈ GW := inT3 (i := 142) rfl rfl
theorem co_X1_holdsValue : Cond.code yX1_holdsValue cX1_holdsValue 3 (some .boolean) ∈ GW := inT3 (i := 143) rfl rfl
theorem ml_L_230 : Cond.methodLink RL 230 yL_get ∈ GW := inT3 (i := 144) rfl rfl
theorem st_L_get : Cond.static yL_get ∈ GW := inT3 (i := 145) rfl rfl
theorem co_L_get : Cond.codeWith yL_get cL_get 6 (some .int) [(0, 12, 15, 19)] ∈ GW := inT3 (i := 146) rfl rfl
theorem ml_L_100 : Cond.methodLink RL 100 yX4_get ∈ GW := inT3 (i := 147) rfl rfl
theorem im_X4_get : Cond.instanceMethod yX4_get ∈ GW := inT3 (i := 148) rfl rfl
theorem se_X4_get : Cond.selects RX4 yX4_get yX4_get ∈ GW := inT3 (i := 149) rfl rfl
theorem co_X4_get : Cond.code yX4_get cX4_get 6 (some .int) ∈ GW := inT3 (i := 150) rfl rfl
theorem ml_L_233 : Cond.methodLink RL 233 yL_keyAt ∈ GW := inT3 (i := 151) rfl rfl
theorem st_L_keyAt : Cond.static yL_keyAt ∈ GW := inT3 (i := 152) rfl rfl
theorem co_L_keyAt : Cond.codeWith yL_keyAt cL_keyAt 5 (some .int) [(0, 10, 13, 19)] ∈ GW := inT3 (i := 153) rfl rfl
theorem ml_L_103 : Cond.methodLink RL 103 yX4_keyAt ∈ GW := inT3 (i := 154) rfl rfl
theorem im_X4_keyAt : Cond.instanceMethod yX4_keyAt ∈ GW := inT3 (i := 155) rfl rfl
theorem se_X4_keyAt : Cond.selects RX4 yX4_keyAt yX4_keyAt ∈ GW := inT3 (i := 156) rfl rfl
theorem co_X4_keyAt : Cond.code yX4_keyAt cX4_keyAt 4 (some .int) ∈ GW := inT3 (i := 157) rfl rfl
theorem ml_X4_181 : Cond.methodLink RX4 181 yX4_requirePlace ∈ GW := inT3 (i := 158) rfl rfl
theorem im_X4_requirePlace : Cond.instanceMethod yX4_requirePlace ∈ GW := inT3 (i := 160) rfl rfl
theorem co_X4_requirePlace : Cond.code yX4_requirePlace cX4_requirePlace 3 none ∈ GW := inT3 (i := 161) rfl rfl
theorem ml_X4_255 : Cond.methodLink RX4 255 yX1_reaches ∈ GW := inT3 (i := 162) rfl rfl
theorem ml_L_236 : Cond.methodLink RL 236 yL_valueAt ∈ GW := inT3 (i := 164) rfl rfl
theorem st_L_valueAt : Cond.static yL_valueAt ∈ GW := inT3 (i := 165) rfl rfl
theorem co_L_valueAt : Cond.codeWith yL_valueAt cL_valueAt 5 (some .int) [(0, 10, 13, 19)] ∈ GW := inT3 (i := 166) rfl rfl
theorem ml_L_106 : Cond.methodLink RL 106 yX4_valueAt ∈ GW := inT3 (i := 167) rfl rfl
theorem im_X4_valueAt : Cond.instanceMethod yX4_valueAt ∈ GW := inT3 (i := 168) rfl rfl
theorem se_X4_valueAt : Cond.selects RX4 yX4_valueAt yX4_valueAt ∈ GW := inT3 (i := 169) rfl rfl
theorem co_X4_valueAt : Cond.code yX4_valueAt cX4_valueAt 4 (some .int) ∈ GW := inT3 (i := 170) rfl rfl
theorem ml_L_239 : Cond.methodLink RL 239 yL_placeOf ∈ GW := inT3 (i := 171) rfl rfl
theorem st_L_placeOf : Cond.static yL_placeOf ∈ GW := inT3 (i := 172) rfl rfl
theorem co_L_placeOf : Cond.codeWith yL_placeOf cL_placeOf 5 (some .int) [(0, 10, 13, 19)] ∈ GW := inT3 (i := 173) rfl rfl
theorem ml_L_109 : Cond.methodLink RL 109 yX4_placeOf ∈ GW := inT3 (i := 174) rfl rfl
theorem im_X4_placeOf : Cond.instanceMethod yX4_placeOf ∈ GW := inT3 (i := 175) rfl rfl
theorem se_X4_placeOf : Cond.selects RX4 yX4_placeOf yX4_placeOf ∈ GW := inT3 (i := 176) rfl rfl
theorem co_X4_placeOf : Cond.code yX4_placeOf cX4_placeOf 3 (some .int) ∈ GW := inT3 (i := 177) rfl rfl
theorem ml_L_242 : Cond.methodLink RL 242 yL_areEqual ∈ GW := inT3 (i := 178) rfl rfl
theorem st_L_areEqual : Cond.static yL_areEqual ∈ GW := inT3 (i := 179) rfl rfl
theorem co_L_areEqual : Cond.codeWith yL_areEqual cL_areEqual 5 (some .int) [(0, 17, 20, 19)] ∈ GW := inT3 (i := 180) rfl rfl
theorem ml_L_112 : Cond.methodLink RL 112 yX4_areEqual ∈ GW := inT3 (i := 181) rfl rfl
theorem im_X4_areEqual : Cond.instanceMethod yX4_areEqual ∈ GW := inT3 (i := 182) rfl rfl
theorem se_X4_areEqual : Cond.selects RX4 yX4_areEqual yX4_areEqual ∈ GW := inT3 (i := 183) rfl rfl
theorem co_X4_areEqual : Cond.code yX4_areEqual cX4_areEqual 3 (some .boolean) ∈ GW := inT3 (i := 184) rfl rfl
theorem ml_L_245 : Cond.methodLink RL 245 yL_areAlike ∈ GW := inT3 (i := 185) rfl rfl
theorem st_L_areAlike : Cond.static yL_areAlike ∈ GW := inT3 (i := 186) rfl rfl
theorem co_L_areAlike : Cond.codeWith yL_areAlike cL_areAlike 5 (some .int) [(0, 17, 20, 19)] ∈ GW := inT3 (i := 187) rfl rfl
theorem ml_L_115 : Cond.methodLink RL 115 yX4_areAlike ∈ GW := inT3 (i := 188) rfl rfl
theorem im_X4_areAlike : Cond.instanceMethod yX4_areAlike ∈ GW := inT3 (i := 189) rfl rfl
theorem se_X4_areAlike : Cond.selects RX4 yX4_areAlike yX4_areAlike ∈ GW := inT3 (i := 190) rfl rfl
theorem co_X4_areAlike : Cond.code yX4_areAlike cX4_areAlike 3 (some .boolean) ∈ GW := inT3 (i := 191) rfl rfl
theorem ml_L_248 : Cond.methodLink RL 248 yL_hash ∈ GW := inT3 (i := 192) rfl rfl
theorem st_L_hash : Cond.static yL_hash ∈ GW := inT3 (i := 193) rfl rfl
theorem co_L_hash : Cond.codeWith yL_hash cL_hash 4 (some .int) [(0, 9, 12, 19)] ∈ GW := inT3 (i := 194) rfl rfl
theorem ml_L_118 : Cond.methodLink RL 118 yX4_hash ∈ GW := inT3 (i := 195) rfl rfl
theorem im_X4_hash : Cond.instanceMethod yX4_hash ∈ GW := inT3 (i := 196) rfl rfl
theorem se_X4_hash : Cond.selects RX4 yX4_hash yX4_hash ∈ GW := inT3 (i := 197) rfl rfl
theorem co_X4_hash : Cond.code yX4_hash cX4_hash 2 (some .int) ∈ GW := inT3 (i := 198) rfl rfl
theorem ml_L_251 : Cond.methodLink RL 251 yL_sum ∈ GW := inT3 (i := 199) rfl rfl
theorem st_L_sum : Cond.static yL_sum ∈ GW := inT3 (i := 200) rfl rfl
theorem co_L_sum : Cond.codeWith yL_sum cL_sum 4 (some .int) [(0, 8, 11, 19)] ∈ GW := inT3 (i := 201) rfl rfl
theorem ml_L_121 : Cond.methodLink RL 121 yX4_sum ∈ GW := inT3 (i := 202) rfl rfl
theorem im_X4_sum : Cond.instanceMethod yX4_sum ∈ GW := inT3 (i := 203) rfl rfl
theorem se_X4_sum : Cond.selects RX4 yX4_sum yX4_sum ∈ GW := inT3 (i := 204) rfl rfl
theorem co_X4_sum : Cond.code yX4_sum cX4_sum 6 (some .long) ∈ GW := inT3 (i := 205) rfl rfl
theorem kl_X4_194 : Cond.constantLong RX4 194 (3 : Int64) ∈ GW := inT3 (i := 206) rfl rfl
theorem ml_L_254 : Cond.methodLink RL 254 yL_write ∈ GW := inT3 (i := 207) rfl rfl
theorem st_L_write : Cond.static yL_write ∈ GW := inT3 (i := 208) rfl rfl
theorem co_L_write : Cond.codeWith yL_write cL_write 4 (some .int) [(0, 9, 12, 19)] ∈ GW := inT3 (i := 209) rfl rfl
theorem ml_L_125 : Cond.methodLink RL 125 yX4_write ∈ GW := inT3 (i := 210) rfl rfl
theorem im_X4_write : Cond.instanceMethod yX4_write ∈ GW := inT3 (i := 211) rfl rfl
theorem se_X4_write : Cond.selects RX4 yX4_write yX4_write ∈ GW := inT3 (i := 212) rfl rfl
theorem co_X4_write : Cond.code yX4_write cX4_write 4 (some .int) ∈ GW := inT3 (i := 213) rfl rfl
theorem ml_X4_196 : Cond.methodLink RX4 196 yX3_startAnew ∈ GW := inT3 (i := 214) rfl rfl
theorem im_X3_startAnew : Cond.instanceMethod yX3_startAnew ∈ GW := inT3 (i := 215) rfl rfl
theorem se_X3_startAnew : Cond.selects RX3 yX3_startAnew yX3_startAnew ∈ GW := inT3 (i := 216) rfl rfl
theorem co_X3_startAnew : Cond.code yX3_startAnew cX3_startAnew 1 none ∈ GW := inT3 (i := 217) rfl rfl
theorem ml_X4_199 : Cond.methodLink RX4 199 yX3_append ∈ GW := inT3 (i := 218) rfl rfl
theorem im_X3_append : Cond.instanceMethod yX3_append ∈ GW := inT3 (i := 219) rfl rfl
theorem se_X3_append : Cond.selects RX3 yX3_append yX3_append ∈ GW := inT3 (i := 220) rfl rfl
theorem co_X3_append : Cond.code yX3_append cX3_append 2 none ∈ GW := inT3 (i := 221) rfl rfl
theorem ml_X4_203 : Cond.methodLink RX4 203 yX3_appendNumber ∈ GW := inT3 (i := 222) rfl rfl
theorem im_X3_appendNumber : Cond.instanceMethod yX3_appendNumber ∈ GW := inT3 (i := 223) rfl rfl
theorem se_X3_appendNumber : Cond.selects RX3 yX3_appendNumber yX3_appendNumber ∈ GW := inT3 (i := 224) rfl rfl
theorem co_X3_appendNumber : Cond.code yX3_appendNumber cX3_appendNumber 6 none ∈ GW := inT3 (i := 225) rfl rfl
theorem ml_X3_23 : Cond.methodLink RX3 23 yJ9_abs_067f4 ∈ GW := inT3 (i := 226) rfl rfl
theorem st_J9_abs_067f4 : Cond.static yJ9_abs_067f4 ∈ GW := inT3 (i := 227) rfl rfl
theorem co_J9_abs_067f4 : Cond.code yJ9_abs_067f4 cJ9_abs_067f4 2 (some .long) ∈ GW := inT3 (i := 228) rfl rfl
theorem ml_X3_29 : Cond.methodLink RX3 29 yX3_append ∈ GW := inT3 (i := 229) rfl rfl
theorem kl_X3_33 : Cond.constantLong RX3 33 (1000000000 : Int64) ∈ GW := inT3 (i := 230) rfl rfl
theorem kl_X3_35 : Cond.constantLong RX3 35 (48 : Int64) ∈ GW := inT3 (i := 231) rfl rfl
theorem kl_X3_37 : Cond.constantLong RX3 37 (10 : Int64) ∈ GW := inT3 (i := 232) rfl rfl
theorem ml_L_257 : Cond.methodLink RL 257 yL_outputAt ∈ GW := inT3 (i := 233) rfl rfl
theorem st_L_outputAt : Cond.static yL_outputAt ∈ GW := inT3 (i := 234) rfl rfl
theorem co_L_outputAt : Cond.codeWith yL_outputAt cL_outputAt 4 (some .int) [(0, 9, 12, 44)] ∈ GW := inT3 (i := 235) rfl rfl
theorem ml_L_128 : Cond.methodLink RL 128 yX4_outputAt ∈ GW := inT3 (i := 236) rfl rfl
theorem im_X4_outputAt : Cond.instanceMethod yX4_outputAt ∈ GW := inT3 (i := 237) rfl rfl
theorem se_X4_outputAt : Cond.selects RX4 yX4_outputAt yX4_outputAt ∈ GW := inT3 (i := 238) rfl rfl
theorem co_X4_outputAt : Cond.code yX4_outputAt cX4_outputAt 2 (some .int) ∈ GW := inT3 (i := 239) rfl rfl
theorem ml_X4_209 : Cond.methodLink RX4 209 yX3_reaches ∈ GW := inT4 (i := 0) rfl rfl
theorem im_X3_reaches : Cond.instanceMethod yX3_reaches ∈ GW := inT4 (i := 1) rfl rfl
theorem se_X3_reaches : Cond.selects RX3 yX3_reaches yX3_reaches ∈ GW := inT4 (i := 2) rfl rfl
theorem co_X3_reaches : Cond.code yX3_reaches cX3_reaches 2 (some .boolean) ∈ GW := inT4 (i := 3) rfl rfl
theorem ml_X4_214 : Cond.methodLink RX4 214 yX3_signOn ∈ GW := inT4 (i := 5) rfl rfl
theorem im_X3_signOn : Cond.instanceMethod yX3_signOn ∈ GW := inT4 (i := 6) rfl rfl
theorem se_X3_signOn : Cond.selects RX3 yX3_signOn yX3_signOn ∈ GW := inT4 (i := 7) rfl rfl
theorem co_X3_signOn : Cond.code yX3_signOn cX3_signOn 2 (some .int) ∈ GW := inT4 (i := 8) rfl rfl
theorem ml_X3_19 : Cond.methodLink RX3 19 yX3_reaches ∈ GW := inT4 (i := 9) rfl rfl
theorem ml_L_260 : Cond.methodLink RL 260 yL_isAddRefused ∈ GW := inT4 (i := 10) rfl rfl
theorem st_L_isAddRefused : Cond.static yL_isAddRefused ∈ GW := inT4 (i := 11) rfl rfl
theorem co_L_isAddRefused : Cond.codeWith yL_isAddRefused cL_isAddRefused 5 (some .int) [(0, 17, 20, 19), (0, 17, 24, 13)] ∈ GW := inT4 (i := 12) rfl rfl
theorem ml_L_131 : Cond.methodLink RL 131 yX4_isAddRefused ∈ GW := inT4 (i := 13) rfl rfl
theorem im_X4_isAddRefused : Cond.instanceMethod yX4_isAddRefused ∈ GW := inT4 (i := 14) rfl rfl
theorem se_X4_isAddRefused : Cond.selects RX4 yX4_isAddRefused yX4_isAddRefused ∈ GW := inT4 (i := 15) rfl rfl
theorem co_X4_isAddRefused : Cond.code yX4_isAddRefused cX4_isAddRefused 3 (some .boolean) ∈ GW := inT4 (i := 16) rfl rfl
theorem ml_L_263 : Cond.methodLink RL 263 yL_isNothingRefused ∈ GW := inT4 (i := 17) rfl rfl
theorem st_L_isNothingRefused : Cond.static yL_isNothingRefused ∈ GW := inT4 (i := 18) rfl rfl
theorem co_L_isNothingRefused : Cond.codeWith yL_isNothingRefused cL_isNothingRefused 5 (some .int) [(0, 17, 20, 19), (0, 17, 24, 13)] ∈ GW := inT4 (i := 19) rfl rfl
theorem ml_L_134 : Cond.methodLink RL 134 yX4_isNothingRefused ∈ GW := inT4 (i := 20) rfl rfl
theorem im_X4_isNothingRefused : Cond.instanceMethod yX4_isNothingRefused ∈ GW := inT4 (i := 21) rfl rfl
theorem se_X4_isNothingRefused : Cond.selects RX4 yX4_isNothingRefused yX4_isNothingRefused ∈ GW := inT4 (i := 22) rfl rfl
theorem co_X4_isNothingRefused : Cond.code yX4_isNothingRefused cX4_isNothingRefused 3 (some .boolean) ∈ GW := inT4 (i := 23) rfl rfl
theorem ml_L_266 : Cond.methodLink RL 266 yL_mean ∈ GW := inT4 (i := 24) rfl rfl
theorem st_L_mean : Cond.static yL_mean ∈ GW := inT4 (i := 25) rfl rfl
theorem co_L_mean : Cond.codeWith yL_mean cL_mean 4 (some .int) [(0, 8, 11, 19)] ∈ GW := inT4 (i := 26) rfl rfl
theorem ml_L_137 : Cond.methodLink RL 137 yX4_mean ∈ GW := inT4 (i := 27) rfl rfl
theorem im_X4_mean : Cond.instanceMethod yX4_mean ∈ GW := inT4 (i := 28) rfl rfl
theorem se_X4_mean : Cond.selects RX4 yX4_mean yX4_mean ∈ GW := inT4 (i := 29) rfl rfl
theorem co_X4_mean : Cond.code yX4_mean cX4_mean 6 (some .double) ∈ GW := inT4 (i := 30) rfl rfl
theorem cl_L_142 : Cond.classLink RL 142 RX5 ∈ GW := inT4 (i := 31) rfl rfl
theorem io_X5 : Cond.instantiable RX5 11 ∈ GW := inT4 (i := 32) rfl rfl
theorem ml_L_144 : Cond.methodLink RL 144 yX5_init ∈ GW := inT4 (i := 33) rfl rfl
theorem im_X5_init : Cond.instanceMethod yX5_init ∈ GW := inT4 (i := 34) rfl rfl
theorem co_X5_init : Cond.code yX5_init cX5_init 1 none ∈ GW := inT4 (i := 35) rfl rfl
theorem ml_X5_1 : Cond.methodLink RX5 1 objectInit ∈ GW := inT4 (i := 36) rfl rfl
theorem fl_X5_7 : Cond.fieldLink RX5 7 "ArrivalbooksModel" "keys" "[I" ∈ GW := inT4 (i := 37) rfl rfl
theorem fl_X5_13 : Cond.fieldLink RX5 13 "ArrivalbooksModel" "values" "[I" ∈ GW := inT4 (i := 38) rfl rfl
theorem fl_X5_16 : Cond.fieldLink RX5 16 "ArrivalbooksModel" "size" "[I" ∈ GW := inT4 (i := 39) rfl rfl
theorem fl_X5_19 : Cond.fieldLink RX5 19 "ArrivalbooksModel" "bound" "I" ∈ GW := inT4 (i := 40) rfl rfl
theorem fl_X5_39 : Cond.fieldLink RX5 39 "ArrivalbooksModel" "thrown" "I" ∈ GW := inT4 (i := 41) rfl rfl
theorem fl_X5_23 : Cond.fieldLink RX5 23 "ArrivalbooksModel" "cursorBook" "[I" ∈ GW := inT4 (i := 42) rfl rfl
theorem fl_X5_26 : Cond.fieldLink RX5 26 "ArrivalbooksModel" "cursorKind" "[I" ∈ GW := inT4 (i := 43) rfl rfl
theorem fl_X5_29 : Cond.fieldLink RX5 29 "ArrivalbooksModel" "cursorAt" "[I" ∈ GW := inT4 (i := 44) rfl rfl
theorem fl_X5_32 : Cond.fieldLink RX5 32 "ArrivalbooksModel" "isThere" "[Z" ∈ GW := inT4 (i := 45) rfl rfl
theorem fl_X5_36 : Cond.fieldLink RX5 36 "ArrivalbooksModel" "output" "[I" ∈ GW := inT4 (i := 46) rfl rfl
theorem fl_X5_109 : Cond.fieldLink RX5 109 "ArrivalbooksModel" "written" "I" ∈ GW := inT4 (i := 47) rfl rfl
theorem ac_boolean : Cond.arrayClass .boolean ∈ GW := inT4 (i := 71) rfl rfl
theorem ml_L_151 : Cond.methodLink RL 151 yX5_thrown ∈ GW := inT4 (i := 72) rfl rfl
theorem im_X5_thrown : Cond.instanceMethod yX5_thrown ∈ GW := inT4 (i := 73) rfl rfl
theorem se_X5_thrown : Cond.selects RX5 yX5_thrown yX5_thrown ∈ GW := inT4 (i := 74) rfl rfl
theorem co_X5_thrown : Cond.code yX5_thrown cX5_thrown 1 (some .int) ∈ GW := inT4 (i := 75) rfl rfl
theorem ml_L_150 : Cond.methodLink RL 150 yX5_rebind ∈ GW := inT4 (i := 76) rfl rfl
theorem im_X5_rebind : Cond.instanceMethod yX5_rebind ∈ GW := inT4 (i := 77) rfl rfl
theorem se_X5_rebind : Cond.selects RX5 yX5_rebind yX5_rebind ∈ GW := inT4 (i := 78) rfl rfl
theorem co_X5_rebind : Cond.code yX5_rebind cX5_rebind 3 (some .int) ∈ GW := inT4 (i := 79) rfl rfl
theorem ml_X5_42 : Cond.methodLink RX5 42 yX5_in ∈ GW := inT4 (i := 80) rfl rfl
theorem st_X5_in : Cond.static yX5_in ∈ GW := inT4 (i := 81) rfl rfl
theorem co_X5_in : Cond.code yX5_in cX5_in 3 (some .boolean) ∈ GW := inT4 (i := 82) rfl rfl
theorem ml_X5_58 : Cond.methodLink RX5 58 yX5_refuse ∈ GW := inT4 (i := 83) rfl rfl
theorem im_X5_refuse : Cond.instanceMethod yX5_refuse ∈ GW := inT4 (i := 85) rfl rfl
theorem co_X5_refuse : Cond.code yX5_refuse cX5_refuse 2 (some .int) ∈ GW := inT4 (i := 86) rfl rfl
theorem ml_X5_62 : Cond.methodLink RX5 62 yX5_closes ∈ GW := inT4 (i := 87) rfl rfl
theorem im_X5_closes : Cond.instanceMethod yX5_closes ∈ GW := inT4 (i := 89) rfl rfl
theorem co_X5_closes : Cond.code yX5_closes cX5_closes 4 none ∈ GW := inT4 (i := 90) rfl rfl
theorem ml_X5_65 : Cond.methodLink RX5 65 yX5_told ∈ GW := inT4 (i := 91) rfl rfl
theorem im_X5_told : Cond.instanceMethod yX5_told ∈ GW := inT4 (i := 93) rfl rfl
theorem co_X5_told : Cond.code yX5_told cX5_told 2 (some .int) ∈ GW := inT4 (i := 94) rfl rfl
theorem ml_L_157 : Cond.methodLink RL 157 yX5_put ∈ GW := inT4 (i := 95) rfl rfl
theorem im_X5_put : Cond.instanceMethod yX5_put ∈ GW := inT4 (i := 96) rfl rfl
theorem se_X5_put : Cond.selects RX5 yX5_put yX5_put ∈ GW := inT4 (i := 97) rfl rfl
theorem co_X5_put : Cond.code yX5_put cX5_put 5 (some .boolean) ∈ GW := inT4 (i := 98) rfl rfl
theorem ml_X5_68 : Cond.methodLink RX5 68 yX5_isBook ∈ GW := inT4 (i := 99) rfl rfl
theorem st_X5_isBook : Cond.static yX5_isBook ∈ GW := inT4 (i := 100) rfl rfl
theorem co_X5_isBook : Cond.code yX5_isBook cX5_isBook 1 (some .boolean) ∈ GW := inT4 (i := 101) rfl rfl
theorem ml_X5_72 : Cond.methodLink RX5 72 yX5_denies ∈ GW := inT4 (i := 102) rfl rfl
theorem im_X5_denies : Cond.instanceMethod yX5_denies ∈ GW := inT4 (i := 104) rfl rfl
theorem co_X5_denies : Cond.code yX5_denies cX5_denies 2 (some .boolean) ∈ GW := inT4 (i := 105) rfl rfl
theorem ml_X5_75 : Cond.methodLink RX5 75 yX5_isFull ∈ GW := inT4 (i := 106) rfl rfl
theorem im_X5_isFull : Cond.instanceMethod yX5_isFull ∈ GW := inT4 (i := 108) rfl rfl
theorem co_X5_isFull : Cond.code yX5_isFull cX5_isFull 3 (some .boolean) ∈ GW := inT4 (i := 109) rfl rfl
theorem ml_X5_50 : Cond.methodLink RX5 50 yX5_place ∈ GW := inT4 (i := 110) rfl rfl
theorem im_X5_place : Cond.instanceMethod yX5_place ∈ GW := inT4 (i := 112) rfl rfl
theorem co_X5_place : Cond.code yX5_place cX5_place 4 (some .int) ∈ GW := inT4 (i := 113) rfl rfl
theorem ml_X5_79 : Cond.methodLink RX5 79 yX5_puts ∈ GW := inT4 (i := 114) rfl rfl
theorem im_X5_puts : Cond.instanceMethod yX5_puts ∈ GW := inT4 (i := 116) rfl rfl
theorem co_X5_puts : Cond.code yX5_puts cX5_puts 5 none ∈ GW := inT4 (i := 117) rfl rfl
theorem ml_X5_54 : Cond.methodLink RX5 54 yX5_comes ∈ GW := inT4 (i := 118) rfl rfl
theorem im_X5_comes : Cond.instanceMethod yX5_comes ∈ GW := inT4 (i := 120) rfl rfl
theorem co_X5_comes : Cond.code yX5_comes cX5_comes 4 none ∈ GW := inT4 (i := 121) rfl rfl
theorem ml_X5_46 : Cond.methodLink RX5 46 yX5_takes ∈ GW := inT4 (i := 122) rfl rfl
theorem im_X5_takes : Cond.instanceMethod yX5_takes ∈ GW := inT4 (i := 124) rfl rfl
theorem co_X5_takes : Cond.code yX5_takes cX5_takes 4 none ∈ GW := inT4 (i := 125) rfl rfl
theorem ml_X5_82 : Cond.methodLink RX5 82 yX5_says ∈ GW := inT4 (i := 126) rfl rfl
theorem im_X5_says : Cond.instanceMethod yX5_says ∈ GW := inT4 (i := 128) rfl rfl
theorem co_X5_says : Cond.code yX5_says cX5_says 2 (some .boolean) ∈ GW := inT4 (i := 129) rfl rfl
theorem ml_L_160 : Cond.methodLink RL 160 yX5_putNew ∈ GW := inT4 (i := 130) rfl rfl
theorem im_X5_putNew : Cond.instanceMethod yX5_putNew ∈ GW := inT4 (i := 131) rfl rfl
theorem se_X5_putNew : Cond.selects RX5 yX5_putNew yX5_putNew ∈ GW := inT4 (i := 132) rfl rfl
theorem co_X5_putNew : Cond.code yX5_putNew cX5_putNew 5 (some .int) ∈ GW := inT4 (i := 133) rfl rfl
theorem ml_X5_89 : Cond.methodLink RX5 89 yX5_lacks ∈ GW := inT4 (i := 134) rfl rfl
theorem im_X5_lacks : Cond.instanceMethod yX5_lacks ∈ GW := inT4 (i := 136) rfl rfl
theorem co_X5_lacks : Cond.code yX5_lacks cX5_lacks 3 (some .int) ∈ GW := inT4 (i := 137) rfl rfl
theorem ml_X5_86 : Cond.methodLink RX5 86 yX5_isPlain ∈ GW := inT4 (i := 138) rfl rfl
theorem st_X5_isPlain : Cond.static yX5_isPlain ∈ GW := inT4 (i := 139) rfl rfl
theorem co_X5_isPlain : Cond.code yX5_isPlain cX5_isPlain 1 (some .boolean) ∈ GW := inT4 (i := 140) rfl rfl
theorem ml_L_163 : Cond.methodLink RL 163 yX5_add ∈ GW := inT4 (i := 141) rfl rfl
theorem im_X5_add : Cond.instanceMethod yX5_add ∈ GW := inT4 (i := 142) rfl rfl
theorem se_X5_add : Cond.selects RX5 yX5_add yX5_add ∈ GW := inT4 (i := 143) rfl rfl
theorem co_X5_add : Cond.code yX5_add cX5_add 6 (some .int) ∈ GW := inT4 (i := 144) rfl rfl
theorem ml_L_167 : Cond.methodLink RL 167 yX5_halve ∈ GW := inT4 (i := 145) rfl rfl
theorem im_X5_halve : Cond.instanceMethod yX5_halve ∈ GW := inT4 (i := 146) rfl rfl
theorem se_X5_halve : Cond.selects RX5 yX5_halve yX5_halve ∈ GW := inT4 (i := 147) rfl rfl
theorem co_X5_halve : Cond.code yX5_halve cX5_halve 5 (some .boolean) ∈ GW := inT4 (i := 148) rfl rfl
theorem ml_L_170 : Cond.methodLink RL 170 yX5_addToAll ∈ GW := inT4 (i := 149) rfl rfl
theorem im_X5_addToAll : Cond.instanceMethod yX5_addToAll ∈ GW := inT4 (i := 150) rfl rfl
theorem se_X5_addToAll : Cond.selects RX5 yX5_addToAll yX5_addToAll ∈ GW := inT4 (i := 151) rfl rfl
theorem co_X5_addToAll : Cond.code yX5_addToAll cX5_addToAll 4 (some .int) ∈ GW := inT4 (i := 152) rfl rfl
theorem ml_L_173 : Cond.methodLink RL 173 yX5_replace ∈ GW := inT4 (i := 153) rfl rfl
theorem im_X5_replace : Cond.instanceMethod yX5_replace ∈ GW := inT4 (i := 154) rfl rfl
theorem se_X5_replace : Cond.selects RX5 yX5_replace yX5_replace ∈ GW := inT4 (i := 155) rfl rfl
theorem co_X5_replace : Cond.code yX5_replace cX5_replace 5 (some .boolean) ∈ GW := inT4 (i := 156) rfl rfl
theorem ml_L_176 : Cond.methodLink RL 176 yX5_remove ∈ GW := inT4 (i := 157) rfl rfl
theorem im_X5_remove : Cond.instanceMethod yX5_remove ∈ GW := inT4 (i := 158) rfl rfl
theorem se_X5_remove : Cond.selects RX5 yX5_remove yX5_remove ∈ GW := inT4 (i := 159) rfl rfl
theorem co_X5_remove : Cond.code yX5_remove cX5_remove 5 (some .int) ∈ GW := inT4 (i := 160) rfl rfl
theorem ml_L_179 : Cond.methodLink RL 179 yX5_removePair ∈ GW := inT4 (i := 161) rfl rfl
theorem im_X5_removePair : Cond.instanceMethod yX5_removePair ∈ GW := inT4 (i := 162) rfl rfl
theorem se_X5_removePair : Cond.selects RX5 yX5_removePair yX5_removePair ∈ GW := inT4 (i := 163) rfl rfl
theorem co_X5_removePair : Cond.code yX5_removePair cX5_removePair 5 (some .boolean) ∈ GW := inT4 (i := 164) rfl rfl
theorem ml_L_183 : Cond.methodLink RL 183 yX5_fill ∈ GW := inT4 (i := 165) rfl rfl
theorem im_X5_fill : Cond.instanceMethod yX5_fill ∈ GW := inT4 (i := 166) rfl rfl
theorem se_X5_fill : Cond.selects RX5 yX5_fill yX5_fill ∈ GW := inT4 (i := 167) rfl rfl
theorem co_X5_fill : Cond.code yX5_fill cX5_fill 7 (some .int) ∈ GW := inT4 (i := 168) rfl rfl
theorem ml_L_186 : Cond.methodLink RL 186 yX5_pour ∈ GW := inT4 (i := 169) rfl rfl
theorem im_X5_pour : Cond.instanceMethod yX5_pour ∈ GW := inT4 (i := 170) rfl rfl
theorem se_X5_pour : Cond.selects RX5 yX5_pour yX5_pour ∈ GW := inT4 (i := 171) rfl rfl
theorem co_X5_pour : Cond.code yX5_pour cX5_pour 5 (some .int) ∈ GW := inT4 (i := 172) rfl rfl
theorem ml_L_189 : Cond.methodLink RL 189 yX5_copy ∈ GW := inT4 (i := 173) rfl rfl
theorem im_X5_copy : Cond.instanceMethod yX5_copy ∈ GW := inT4 (i := 174) rfl rfl
theorem se_X5_copy : Cond.selects RX5 yX5_copy yX5_copy ∈ GW := inT4 (i := 175) rfl rfl
theorem co_X5_copy : Cond.code yX5_copy cX5_copy 4 (some .int) ∈ GW := inT4 (i := 176) rfl rfl
theorem ml_L_192 : Cond.methodLink RL 192 yX5_clear ∈ GW := inT4 (i := 177) rfl rfl
theorem im_X5_clear : Cond.instanceMethod yX5_clear ∈ GW := inT4 (i := 178) rfl rfl
theorem se_X5_clear : Cond.selects RX5 yX5_clear yX5_clear ∈ GW := inT4 (i := 179) rfl rfl
theorem co_X5_clear : Cond.code yX5_clear cX5_clear 3 (some .int) ∈ GW := inT4 (i := 180) rfl rfl
theorem ml_L_195 : Cond.methodLink RL 195 yX5_offer ∈ GW := inT4 (i := 181) rfl rfl
theorem im_X5_offer : Cond.instanceMethod yX5_offer ∈ GW := inT4 (i := 182) rfl rfl
theorem se_X5_offer : Cond.selects RX5 yX5_offer yX5_offer ∈ GW := inT4 (i := 183) rfl rfl
theorem co_X5_offer : Cond.code yX5_offer cX5_offer 3 (some .boolean) ∈ GW := inT4 (i := 184) rfl rfl
theorem ml_L_199 : Cond.methodLink RL 199 yX5_poll ∈ GW := inT4 (i := 185) rfl rfl
theorem im_X5_poll : Cond.instanceMethod yX5_poll ∈ GW := inT4 (i := 186) rfl rfl
theorem se_X5_poll : Cond.selects RX5 yX5_poll yX5_poll ∈ GW := inT4 (i := 187) rfl rfl
theorem co_X5_poll : Cond.code yX5_poll cX5_poll 2 (some .int) ∈ GW := inT4 (i := 188) rfl rfl
theorem ml_L_202 : Cond.methodLink RL 202 yX5_toEnd ∈ GW := inT4 (i := 189) rfl rfl
theorem im_X5_toEnd : Cond.instanceMethod yX5_toEnd ∈ GW := inT4 (i := 190) rfl rfl
theorem se_X5_toEnd : Cond.selects RX5 yX5_toEnd yX5_toEnd ∈ GW := inT4 (i := 191) rfl rfl
theorem co_X5_toEnd : Cond.code yX5_toEnd cX5_toEnd 4 (some .int) ∈ GW := inT4 (i := 192) rfl rfl
theorem ml_L_205 : Cond.methodLink RL 205 yX5_open ∈ GW := inT4 (i := 193) rfl rfl
theorem im_X5_open : Cond.instanceMethod yX5_open ∈ GW := inT4 (i := 194) rfl rfl
theorem se_X5_open : Cond.selects RX5 yX5_open yX5_open ∈ GW := inT4 (i := 195) rfl rfl
theorem co_X5_open : Cond.code yX5_open cX5_open 4 (some .int) ∈ GW := inT4 (i := 196) rfl rfl
theorem ml_X5_92 : Cond.methodLink RX5 92 yX5_isCursor ∈ GW := inT4 (i := 197) rfl rfl
theorem st_X5_isCursor : Cond.static yX5_isCursor ∈ GW := inT4 (i := 198) rfl rfl
theorem co_X5_isCursor : Cond.code yX5_isCursor cX5_isCursor 1 (some .boolean) ∈ GW := inT4 (i := 199) rfl rfl
theorem ml_L_208 : Cond.methodLink RL 208 yX5_hasNext ∈ GW := inT4 (i := 200) rfl rfl
theorem im_X5_hasNext : Cond.instanceMethod yX5_hasNext ∈ GW := inT4 (i := 201) rfl rfl
theorem se_X5_hasNext : Cond.selects RX5 yX5_hasNext yX5_hasNext ∈ GW := inT4 (i := 202) rfl rfl
theorem co_X5_hasNext : Cond.code yX5_hasNext cX5_hasNext 2 (some .boolean) ∈ GW := inT4 (i := 203) rfl rfl
theorem ml_X5_95 : Cond.methodLink RX5 95 yX5_isOpen ∈ GW := inT4 (i := 204) rfl rfl
theorem im_X5_isOpen : Cond.instanceMethod yX5_isOpen ∈ GW := inT4 (i := 206) rfl rfl
theorem co_X5_isOpen : Cond.code yX5_isOpen cX5_isOpen 2 (some .boolean) ∈ GW := inT4 (i := 207) rfl rfl
theorem ml_L_211 : Cond.methodLink RL 211 yX5_next ∈ GW := inT4 (i := 208) rfl rfl
theorem im_X5_next : Cond.instanceMethod yX5_next ∈ GW := inT4 (i := 209) rfl rfl
theorem se_X5_next : Cond.selects RX5 yX5_next yX5_next ∈ GW := inT4 (i := 210) rfl rfl
theorem co_X5_next : Cond.code yX5_next cX5_next 4 (some .int) ∈ GW := inT4 (i := 211) rfl rfl
theorem ml_L_214 : Cond.methodLink RL 214 yX5_removeAt ∈ GW := inT4 (i := 212) rfl rfl
theorem im_X5_removeAt : Cond.instanceMethod yX5_removeAt ∈ GW := inT4 (i := 213) rfl rfl
theorem se_X5_removeAt : Cond.selects RX5 yX5_removeAt yX5_removeAt ∈ GW := inT4 (i := 214) rfl rfl
theorem co_X5_removeAt : Cond.code yX5_removeAt cX5_removeAt 3 (some .int) ∈ GW := inT4 (i := 215) rfl rfl
theorem ml_X5_98 : Cond.methodLink RX5 98 yX5_canChange ∈ GW := inT4 (i := 216) rfl rfl
theorem im_X5_canChange : Cond.instanceMethod yX5_canChange ∈ GW := inT4 (i := 218) rfl rfl
theorem co_X5_canChange : Cond.code yX5_canChange cX5_canChange 2 (some .boolean) ∈ GW := inT4 (i := 219) rfl rfl
theorem ml_L_217 : Cond.methodLink RL 217 yX5_setAt ∈ GW := inT4 (i := 220) rfl rfl
theorem im_X5_setAt : Cond.instanceMethod yX5_setAt ∈ GW := inT4 (i := 221) rfl rfl
theorem se_X5_setAt : Cond.selects RX5 yX5_setAt yX5_setAt ∈ GW := inT4 (i := 222) rfl rfl
theorem co_X5_setAt : Cond.code yX5_setAt cX5_setAt 6 (some .int) ∈ GW := inT4 (i := 223) rfl rfl
theorem ml_L_220 : Cond.methodLink RL 220 yX5_bookOf ∈ GW := inT4 (i := 224) rfl rfl
theorem im_X5_bookOf : Cond.instanceMethod yX5_bookOf ∈ GW := inT4 (i := 225) rfl rfl
theorem se_X5_bookOf : Cond.selects RX5 yX5_bookOf yX5_bookOf ∈ GW := inT4 (i := 226) rfl rfl
theorem co_X5_bookOf : Cond.code yX5_bookOf cX5_bookOf 2 (some .int) ∈ GW := inT4 (i := 227) rfl rfl
theorem ml_L_223 : Cond.methodLink RL 223 yX5_size ∈ GW := inT4 (i := 228) rfl rfl
theorem im_X5_size : Cond.instanceMethod yX5_size ∈ GW := inT4 (i := 229) rfl rfl
theorem se_X5_size : Cond.selects RX5 yX5_size yX5_size ∈ GW := inT4 (i := 230) rfl rfl
theorem co_X5_size : Cond.code yX5_size cX5_size 2 (some .int) ∈ GW := inT4 (i := 231) rfl rfl
theorem ml_L_226 : Cond.methodLink RL 226 yX5_hasKey ∈ GW := inT4 (i := 232) rfl rfl
theorem im_X5_hasKey : Cond.instanceMethod yX5_hasKey ∈ GW := inT4 (i := 233) rfl rfl
theorem se_X5_hasKey : Cond.selects RX5 yX5_hasKey yX5_hasKey ∈ GW := inT4 (i := 234) rfl rfl
theorem co_X5_hasKey : Cond.code yX5_hasKey cX5_hasKey 3 (some .boolean) ∈ GW := inT4 (i := 235) rfl rfl
theorem ml_L_229 : Cond.methodLink RL 229 yX5_hasValue ∈ GW := inT4 (i := 236) rfl rfl
theorem im_X5_hasValue : Cond.instanceMethod yX5_hasValue ∈ GW := inT4 (i := 237) rfl rfl
theorem se_X5_hasValue : Cond.selects RX5 yX5_hasValue yX5_hasValue ∈ GW := inT4 (i := 238) rfl rfl
theorem co_X5_hasValue : Cond.code yX5_hasValue cX5_hasValue 5 (some .boolean) ∈ GW := inT4 (i := 239) rfl rfl
theorem ml_L_232 : Cond.methodLink RL 232 yX5_get ∈ GW := inT5 (i := 0) rfl rfl
theorem im_X5_get : Cond.instanceMethod yX5_get ∈ GW := inT5 (i := 1) rfl rfl
theorem se_X5_get : Cond.selects RX5 yX5_get yX5_get ∈ GW := inT5 (i := 2) rfl rfl
theorem co_X5_get : Cond.code yX5_get cX5_get 5 (some .int) ∈ GW := inT5 (i := 3) rfl rfl
theorem ml_L_235 : Cond.methodLink RL 235 yX5_keyAt ∈ GW := inT5 (i := 4) rfl rfl
theorem im_X5_keyAt : Cond.instanceMethod yX5_keyAt ∈ GW := inT5 (i := 5) rfl rfl
theorem se_X5_keyAt : Cond.selects RX5 yX5_keyAt yX5_keyAt ∈ GW := inT5 (i := 6) rfl rfl
theorem co_X5_keyAt : Cond.code yX5_keyAt cX5_keyAt 3 (some .int) ∈ GW := inT5 (i := 7) rfl rfl
theorem ml_X5_101 : Cond.methodLink RX5 101 yX5_isPlace ∈ GW := inT5 (i := 8) rfl rfl
theorem im_X5_isPlace : Cond.instanceMethod yX5_isPlace ∈ GW := inT5 (i := 10) rfl rfl
theorem co_X5_isPlace : Cond.code yX5_isPlace cX5_isPlace 3 (some .boolean) ∈ GW := inT5 (i := 11) rfl rfl
theorem ml_L_238 : Cond.methodLink RL 238 yX5_valueAt ∈ GW := inT5 (i := 12) rfl rfl
theorem im_X5_valueAt : Cond.instanceMethod yX5_valueAt ∈ GW := inT5 (i := 13) rfl rfl
theorem se_X5_valueAt : Cond.selects RX5 yX5_valueAt yX5_valueAt ∈ GW := inT5 (i := 14) rfl rfl
theorem co_X5_valueAt : Cond.code yX5_valueAt cX5_valueAt 3 (some .int) ∈ GW := inT5 (i := 15) rfl rfl
theorem ml_L_241 : Cond.methodLink RL 241 yX5_placeOf ∈ GW := inT5 (i := 16) rfl rfl
theorem im_X5_placeOf : Cond.instanceMethod yX5_placeOf ∈ GW := inT5 (i := 17) rfl rfl
theorem se_X5_placeOf : Cond.selects RX5 yX5_placeOf yX5_placeOf ∈ GW := inT5 (i := 18) rfl rfl
theorem co_X5_placeOf : Cond.code yX5_placeOf cX5_placeOf 3 (some .int) ∈ GW := inT5 (i := 19) rfl rfl
theorem ml_L_244 : Cond.methodLink RL 244 yX5_areEqual ∈ GW := inT5 (i := 20) rfl rfl
theorem im_X5_areEqual : Cond.instanceMethod yX5_areEqual ∈ GW := inT5 (i := 21) rfl rfl
theorem se_X5_areEqual : Cond.selects RX5 yX5_areEqual yX5_areEqual ∈ GW := inT5 (i := 22) rfl rfl
theorem co_X5_areEqual : Cond.code yX5_areEqual cX5_areEqual 5 (some .boolean) ∈ GW := inT5 (i := 23) rfl rfl
theorem ml_X5_104 : Cond.methodLink RX5 104 yX5_hasPair ∈ GW := inT5 (i := 24) rfl rfl
theorem im_X5_hasPair : Cond.instanceMethod yX5_hasPair ∈ GW := inT5 (i := 26) rfl rfl
theorem co_X5_hasPair : Cond.code yX5_hasPair cX5_hasPair 5 (some .boolean) ∈ GW := inT5 (i := 27) rfl rfl
theorem ml_L_247 : Cond.methodLink RL 247 yX5_areAlike ∈ GW := inT5 (i := 28) rfl rfl
theorem im_X5_areAlike : Cond.instanceMethod yX5_areAlike ∈ GW := inT5 (i := 29) rfl rfl
theorem se_X5_areAlike : Cond.selects RX5 yX5_areAlike yX5_areAlike ∈ GW := inT5 (i := 30) rfl rfl
theorem co_X5_areAlike : Cond.code yX5_areAlike cX5_areAlike 5 (some .boolean) ∈ GW := inT5 (i := 31) rfl rfl
theorem ml_L_250 : Cond.methodLink RL 250 yX5_hash ∈ GW := inT5 (i := 32) rfl rfl
theorem im_X5_hash : Cond.instanceMethod yX5_hash ∈ GW := inT5 (i := 33) rfl rfl
theorem se_X5_hash : Cond.selects RX5 yX5_hash yX5_hash ∈ GW := inT5 (i := 34) rfl rfl
theorem co_X5_hash : Cond.code yX5_hash cX5_hash 4 (some .int) ∈ GW := inT5 (i := 35) rfl rfl
theorem ml_L_253 : Cond.methodLink RL 253 yX5_sum ∈ GW := inT5 (i := 36) rfl rfl
theorem im_X5_sum : Cond.instanceMethod yX5_sum ∈ GW := inT5 (i := 37) rfl rfl
theorem se_X5_sum : Cond.selects RX5 yX5_sum yX5_sum ∈ GW := inT5 (i := 38) rfl rfl
theorem co_X5_sum : Cond.code yX5_sum cX5_sum 5 (some .long) ∈ GW := inT5 (i := 39) rfl rfl
theorem kl_X5_107 : Cond.constantLong RX5 107 (3 : Int64) ∈ GW := inT5 (i := 40) rfl rfl
theorem ml_L_256 : Cond.methodLink RL 256 yX5_write ∈ GW := inT5 (i := 41) rfl rfl
theorem im_X5_write : Cond.instanceMethod yX5_write ∈ GW := inT5 (i := 42) rfl rfl
theorem se_X5_write : Cond.selects RX5 yX5_write yX5_write ∈ GW := inT5 (i := 43) rfl rfl
theorem co_X5_write : Cond.code yX5_write cX5_write 3 (some .int) ∈ GW := inT5 (i := 44) rfl rfl
theorem ml_X5_112 : Cond.methodLink RX5 112 yX5_writes ∈ GW := inT5 (i := 45) rfl rfl
theorem im_X5_writes : Cond.instanceMethod yX5_writes ∈ GW := inT5 (i := 47) rfl rfl
theorem co_X5_writes : Cond.code yX5_writes cX5_writes 2 none ∈ GW := inT5 (i := 48) rfl rfl
theorem ml_X5_120 : Cond.methodLink RX5 120 yX5_writesNumber ∈ GW := inT5 (i := 49) rfl rfl
theorem im_X5_writesNumber : Cond.instanceMethod yX5_writesNumber ∈ GW := inT5 (i := 51) rfl rfl
theorem co_X5_writesNumber : Cond.code yX5_writesNumber cX5_writesNumber 6 none ∈ GW := inT5 (i := 52) rfl rfl
theorem kl_X5_116 : Cond.constantLong RX5 116 (10 : Int64) ∈ GW := inT5 (i := 53) rfl rfl
theorem kl_X5_118 : Cond.constantLong RX5 118 (48 : Int64) ∈ GW := inT5 (i := 54) rfl rfl
theorem ml_L_259 : Cond.methodLink RL 259 yX5_outputAt ∈ GW := inT5 (i := 55) rfl rfl
theorem im_X5_outputAt : Cond.instanceMethod yX5_outputAt ∈ GW := inT5 (i := 56) rfl rfl
theorem se_X5_outputAt : Cond.selects RX5 yX5_outputAt yX5_outputAt ∈ GW := inT5 (i := 57) rfl rfl
theorem co_X5_outputAt : Cond.code yX5_outputAt cX5_outputAt 2 (some .int) ∈ GW := inT5 (i := 58) rfl rfl
theorem ml_L_262 : Cond.methodLink RL 262 yX5_isAddRefused ∈ GW := inT5 (i := 59) rfl rfl
theorem im_X5_isAddRefused : Cond.instanceMethod yX5_isAddRefused ∈ GW := inT5 (i := 60) rfl rfl
theorem se_X5_isAddRefused : Cond.selects RX5 yX5_isAddRefused yX5_isAddRefused ∈ GW := inT5 (i := 61) rfl rfl
theorem co_X5_isAddRefused : Cond.code yX5_isAddRefused cX5_isAddRefused 3 (some .boolean) ∈ GW := inT5 (i := 62) rfl rfl
theorem ml_L_265 : Cond.methodLink RL 265 yX5_isNothingRefused ∈ GW := inT5 (i := 63) rfl rfl
theorem im_X5_isNothingRefused : Cond.instanceMethod yX5_isNothingRefused ∈ GW := inT5 (i := 64) rfl rfl
theorem se_X5_isNothingRefused : Cond.selects RX5 yX5_isNothingRefused yX5_isNothingRefused ∈ GW := inT5 (i := 65) rfl rfl
theorem co_X5_isNothingRefused : Cond.code yX5_isNothingRefused cX5_isNothingRefused 3 (some .boolean) ∈ GW := inT5 (i := 66) rfl rfl
theorem ml_L_269 : Cond.methodLink RL 269 yX5_mean ∈ GW := inT5 (i := 67) rfl rfl
theorem im_X5_mean : Cond.instanceMethod yX5_mean ∈ GW := inT5 (i := 68) rfl rfl
theorem se_X5_mean : Cond.selects RX5 yX5_mean yX5_mean ∈ GW := inT5 (i := 69) rfl rfl
theorem co_X5_mean : Cond.code yX5_mean cX5_mean 5 (some .double) ∈ GW := inT5 (i := 70) rfl rfl
theorem ml_L_274 : Cond.methodLink RL 274 yX5_fullness ∈ GW := inT5 (i := 71) rfl rfl
theorem im_X5_fullness : Cond.instanceMethod yX5_fullness ∈ GW := inT5 (i := 72) rfl rfl
theorem se_X5_fullness : Cond.selects RX5 yX5_fullness yX5_fullness ∈ GW := inT5 (i := 73) rfl rfl
theorem co_X5_fullness : Cond.code yX5_fullness cX5_fullness 1 (some .float) ∈ GW := inT5 (i := 74) rfl rfl
theorem ml_L_278 : Cond.methodLink RL 278 yX5_errors ∈ GW := inT5 (i := 75) rfl rfl
theorem im_X5_errors : Cond.instanceMethod yX5_errors ∈ GW := inT5 (i := 76) rfl rfl
theorem se_X5_errors : Cond.selects RX5 yX5_errors yX5_errors ∈ GW := inT5 (i := 77) rfl rfl
theorem co_X5_errors : Cond.code yX5_errors cX5_errors 3 (some .int) ∈ GW := inT5 (i := 78) rfl rfl
theorem ml_X5_123 : Cond.methodLink RX5 123 yX5_isTrue ∈ GW := inT5 (i := 79) rfl rfl
theorem im_X5_isTrue : Cond.instanceMethod yX5_isTrue ∈ GW := inT5 (i := 81) rfl rfl
theorem co_X5_isTrue : Cond.code yX5_isTrue cX5_isTrue 6 (some .boolean) ∈ GW := inT5 (i := 82) rfl rfl
theorem ac_long : Cond.arrayClass .long ∈ GW := inT5 (i := 83) rfl rfl
theorem ac_double : Cond.arrayClass .double ∈ GW := inT5 (i := 84) rfl rfl
theorem se_X4_bookOfNumber : Cond.selects RX4 yX4_bookOfNumber yX4_bookOfNumber ∈ GW := inS (i := 0) rfl rfl
theorem se_X4_isAsTheTheoremTells : Cond.selects RX4 yX4_isAsTheTheoremTells yX4_isAsTheTheoremTells ∈ GW := inS (i := 2) rfl rfl
theorem se_X0_indexOfKey : Cond.selects RX0 yX0_indexOfKey yX0_indexOfKey ∈ GW := inS (i := 3) rfl rfl
theorem se_X4_isCopyInOrder : Cond.selects RX4 yX4_isCopyInOrder yX4_isCopyInOrder ∈ GW := inS (i := 4) rfl rfl
theorem se_X4_isEqualInOppositeOrder : Cond.selects RX4 yX4_isEqualInOppositeOrder yX4_isEqualInOppositeOrder ∈ GW := inS (i := 5) rfl rfl
theorem se_X4_closeCursors : Cond.selects RX4 yX4_closeCursors yX4_closeCursors ∈ GW := inS (i := 6) rfl rfl
theorem se_X4_cursorOfNumber : Cond.selects RX4 yX4_cursorOfNumber yX4_cursorOfNumber ∈ GW := inS (i := 7) rfl rfl
theorem se_X4_bookChangedByHand : Cond.selects RX4 yX4_bookChangedByHand yX4_bookChangedByHand ∈ GW := inS (i := 8) rfl rfl
theorem se_X4_requireRoomForKey : Cond.selects RX4 yX4_requireRoomForKey yX4_requireRoomForKey ∈ GW := inS (i := 9) rfl rfl
theorem se_X4_requireRoom : Cond.selects RX4 yX4_requireRoom yX4_requireRoom ∈ GW := inS (i := 10) rfl rfl
theorem se_X4_plainBook : Cond.selects RX4 yX4_plainBook yX4_plainBook ∈ GW := inS (i := 11) rfl rfl
theorem se_X4_requireTwoBooks : Cond.selects RX4 yX4_requireTwoBooks yX4_requireTwoBooks ∈ GW := inS (i := 12) rfl rfl
theorem se_X4_requireKind : Cond.selects RX4 yX4_requireKind yX4_requireKind ∈ GW := inS (i := 13) rfl rfl
theorem se_X4_openCursor : Cond.selects RX4 yX4_openCursor yX4_openCursor ∈ GW := inS (i := 14) rfl rfl
theorem se_X4_requireChangeablePair : Cond.selects RX4 yX4_requireChangeablePair yX4_requireChangeablePair ∈ GW := inS (i := 15) rfl rfl
theorem se_X4_requirePlace : Cond.selects RX4 yX4_requirePlace yX4_requirePlace ∈ GW := inS (i := 16) rfl rfl
theorem se_X5_refuse : Cond.selects RX5 yX5_refuse yX5_refuse ∈ GW := inS (i := 17) rfl rfl
theorem se_X5_closes : Cond.selects RX5 yX5_closes yX5_closes ∈ GW := inS (i := 18) rfl rfl
theorem se_X5_told : Cond.selects RX5 yX5_told yX5_told ∈ GW := inS (i := 19) rfl rfl
theorem se_X5_denies : Cond.selects RX5 yX5_denies yX5_denies ∈ GW := inS (i := 20) rfl rfl
theorem se_X5_isFull : Cond.selects RX5 yX5_isFull yX5_isFull ∈ GW := inS (i := 21) rfl rfl
theorem se_X5_place : Cond.selects RX5 yX5_place yX5_place ∈ GW := inS (i := 22) rfl rfl
theorem se_X5_puts : Cond.selects RX5 yX5_puts yX5_puts ∈ GW := inS (i := 23) rfl rfl
theorem se_X5_comes : Cond.selects RX5 yX5_comes yX5_comes ∈ GW := inS (i := 24) rfl rfl
theorem se_X5_takes : Cond.selects RX5 yX5_takes yX5_takes ∈ GW := inS (i := 25) rfl rfl
theorem se_X5_says : Cond.selects RX5 yX5_says yX5_says ∈ GW := inS (i := 26) rfl rfl
theorem se_X5_lacks : Cond.selects RX5 yX5_lacks yX5_lacks ∈ GW := inS (i := 27) rfl rfl
theorem se_X5_isOpen : Cond.selects RX5 yX5_isOpen yX5_isOpen ∈ GW := inS (i := 28) rfl rfl
theorem se_X5_canChange : Cond.selects RX5 yX5_canChange yX5_canChange ∈ GW := inS (i := 29) rfl rfl
theorem se_X5_isPlace : Cond.selects RX5 yX5_isPlace yX5_isPlace ∈ GW := inS (i := 30) rfl rfl
theorem se_X5_hasPair : Cond.selects RX5 yX5_hasPair yX5_hasPair ∈ GW := inS (i := 31) rfl rfl
theorem se_X5_writes : Cond.selects RX5 yX5_writes yX5_writes ∈ GW := inS (i := 32) rfl rfl
theorem se_X5_writesNumber : Cond.selects RX5 yX5_writesNumber yX5_writesNumber ∈ GW := inS (i := 33) rfl rfl
theorem se_X5_isTrue : Cond.selects RX5 yX5_isTrue yX5_isTrue ∈ GW := inS (i := 34) rfl rfl
theorem iw0 : ∀ w ∈ u_ws RX0 TX0 4, w ∈ GW := List.forall_mem_cons.mpr ⟨inT1 (i := 39) rfl rfl, List.forall_mem_cons.mpr ⟨inT1 (i := 41) rfl rfl, List.forall_mem_cons.mpr ⟨inT1 (i := 43) rfl rfl, List.forall_mem_cons.mpr ⟨inT1 (i := 45) rfl rfl, fun _ h => absurd h List.not_mem_nil⟩⟩⟩⟩
theorem iw1 : ∀ w ∈ u_ws RX1 TX1 6, w ∈ GW := List.forall_mem_cons.mpr ⟨inT1 (i := 60) rfl rfl, List.forall_mem_cons.mpr ⟨inT1 (i := 62) rfl rfl, List.forall_mem_cons.mpr ⟨inT1 (i := 64) rfl rfl, List.forall_mem_cons.mpr ⟨inT1 (i := 66) rfl rfl, List.forall_mem_cons.mpr ⟨inT1 (i := 68) rfl rfl, List.forall_mem_cons.mpr ⟨inT1 (i := 70) rfl rfl, fun _ h => absurd h List.not_mem_nil⟩⟩⟩⟩⟩⟩
theorem iw2 : ∀ w ∈ u_ws RX2 TX2 4, w ∈ GW := List.forall_mem_cons.mpr ⟨inT1 (i := 87) rfl rfl, List.forall_mem_cons.mpr ⟨inT1 (i := 89) rfl rfl, List.forall_mem_cons.mpr ⟨inT1 (i := 91) rfl rfl, List.forall_mem_cons.mpr ⟨inT1 (i := 93) rfl rfl, fun _ h => absurd h List.not_mem_nil⟩⟩⟩⟩
theorem iw3 : ∀ w ∈ u_ws RX3 TX3 2, w ∈ GW := List.forall_mem_cons.mpr ⟨inT1 (i := 105) rfl rfl, List.forall_mem_cons.mpr ⟨inT1 (i := 107) rfl rfl, fun _ h => absurd h List.not_mem_nil⟩⟩
theorem iw4 : ∀ w ∈ u_ws RX4 TX4 9, w ∈ GW := List.forall_mem_cons.mpr ⟨inT1 (i := 120) rfl rfl, List.forall_mem_cons.mpr ⟨inT1 (i := 122) rfl rfl, List.forall_mem_cons.mpr ⟨inT1 (i := 124) rfl rfl, List.forall_mem_cons.mpr ⟨inT1 (i := 126) rfl rfl, List.forall_mem_cons.mpr ⟨inT1 (i := 128) rfl rfl, List.forall_mem_cons.mpr ⟨inT1 (i := 130) rfl rfl, List.forall_mem_cons.mpr ⟨inT1 (i := 132) rfl rfl, List.forall_mem_cons.mpr ⟨inT1 (i := 134) rfl rfl, List.forall_mem_cons.mpr ⟨inT1 (i := 136) rfl rfl, fun _ h => absurd h List.not_mem_nil⟩⟩⟩⟩⟩⟩⟩⟩⟩
theorem iw5 : ∀ w ∈ u_ws RX5 TX5 11, w ∈ GW := List.forall_mem_cons.mpr ⟨inT4 (i := 48) rfl rfl, List.forall_mem_cons.mpr ⟨inT4 (i := 50) rfl rfl, List.forall_mem_cons.mpr ⟨inT4 (i := 52) rfl rfl, List.forall_mem_cons.mpr ⟨inT4 (i := 54) rfl rfl, List.forall_mem_cons.mpr ⟨inT4 (i := 56) rfl rfl, List.forall_mem_cons.mpr ⟨inT4 (i := 58) rfl rfl, List.forall_mem_cons.mpr ⟨inT4 (i := 60) rfl rfl, List.forall_mem_cons.mpr ⟨inT4 (i := 62) rfl rfl, List.forall_mem_cons.mpr ⟨inT4 (i := 64) rfl rfl, List.forall_mem_cons.mpr ⟨inT4 (i := 66) rfl rfl, List.forall_mem_cons.mpr ⟨inT4 (i := 68) rfl rfl, fun _ h => absurd h List.not_mem_nil⟩⟩⟩⟩⟩⟩⟩⟩⟩⟩⟩
