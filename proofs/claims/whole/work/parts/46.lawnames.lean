abbrev cL_officer : ByteArray := method_3_code
def yL_officer : MethodName := ⟨RL, "officer", "(LRecordsOffice;II)I"⟩
abbrev cL_version : ByteArray := method_4_code
def yL_version : MethodName := ⟨RL, "version", "(LRecordsOffice;IIIIZI[J)I"⟩
abbrev cL_fiscal : ByteArray := method_5_code
def yL_fiscal : MethodName := ⟨RL, "fiscal", "(LRecordsOffice;I)I"⟩
abbrev cL_open : ByteArray := method_6_code
def yL_open : MethodName := ⟨RL, "open", "(LRecordsOffice;II)I"⟩
abbrev cL_close : ByteArray := method_7_code
def yL_close : MethodName := ⟨RL, "close", "(LRecordsOffice;II)I"⟩
abbrev cL_left : ByteArray := method_8_code
def yL_left : MethodName := ⟨RL, "left", "(LRecordsOffice;II)I"⟩
abbrev cL_file : ByteArray := method_9_code
def yL_file : MethodName := ⟨RL, "file", "(LRecordsOffice;IIJIIII[J)I"⟩
abbrev cL_hold : ByteArray := method_10_code
def yL_hold : MethodName := ⟨RL, "hold", "(LRecordsOffice;IIIIII)I"⟩
abbrev cL_lift : ByteArray := method_11_code
def yL_lift : MethodName := ⟨RL, "lift", "(LRecordsOffice;I)I"⟩
abbrev cL_covered : ByteArray := method_12_code
def yL_covered : MethodName := ⟨RL, "covered", "(LRecordsOffice;I[J)I"⟩
abbrev cL_due : ByteArray := method_13_code
def yL_due : MethodName := ⟨RL, "due", "(LRecordsOffice;I[J)I"⟩
abbrev cL_record : ByteArray := method_14_code
def yL_record : MethodName := ⟨RL, "record", "(LRecordsOffice;II[J)I"⟩
abbrev cL_read : ByteArray := method_15_code
def yL_read : MethodName := ⟨RL, "read", "(LRecordsOffice;I[J)I"⟩
abbrev cL_find : ByteArray := method_16_code
def yL_find : MethodName := ⟨RL, "find", "(LRecordsOffice;IIII[J)I"⟩
abbrev cL_draw : ByteArray := method_17_code
def yL_draw : MethodName := ⟨RL, "draw", "(LRecordsOffice;II[J)I"⟩
abbrev cL_listed : ByteArray := method_18_code
def yL_listed : MethodName := ⟨RL, "listed", "(LRecordsOffice;II[J)I"⟩
abbrev cL_approve : ByteArray := method_19_code
def yL_approve : MethodName := ⟨RL, "approve", "(LRecordsOffice;II[J)I"⟩
abbrev cL_strike : ByteArray := method_20_code
def yL_strike : MethodName := ⟨RL, "strike", "(LRecordsOffice;II[J)I"⟩
abbrev cL_carry : ByteArray := method_21_code
def yL_carry : MethodName := ⟨RL, "carry", "(LRecordsOffice;III[J)I"⟩
abbrev cL_count : ByteArray := method_22_code
def yL_count : MethodName := ⟨RL, "count", "(LRecordsOffice;I[J)I"⟩
abbrev cL_act : ByteArray := method_23_code
def yL_act : MethodName := ⟨RL, "act", "(LRecordsOffice;II[J)I"⟩
abbrev cL_link : ByteArray := method_24_code
def yL_link : MethodName := ⟨RL, "link", "(LRecordsOffice;I[J)I"⟩
abbrev cL_spoil : ByteArray := method_25_code
def yL_spoil : MethodName := ⟨RL, "spoil", "(LRecordsOffice;III)I"⟩
abbrev cL_later : ByteArray := method_26_code
def yL_later : MethodName := ⟨RL, "later", "(LRecordsOffice;III[J)I"⟩
abbrev cL_law : ByteArray := code
def yL_law : MethodName := ⟨RL, "law", "([I)Z"⟩
def wsL_officer : List Cond := .codeWith yL_officer cL_officer 4 (some .int) [(0, 6, 9, 13), (0, 6, 12, 15)] :: ([.classLink RL 13 "java/lang/IndexOutOfBoundsException", .classLink RL 15 "java/lang/IllegalArgumentException", .methodLink RL 7 yX7_officer, .instanceMethod yX7_officer, .selects RX7 yX7_officer yX7_officer, .initialized RX7, .code yX7_officer cX7_officer 3 none, .classLink RX7 60 "java/lang/IllegalArgumentException", .initialized "java/lang/IllegalArgumentException", .fieldLink RX7 9 "RecordsOffice" "rights" "[I", .methodLink RX7 56 yX7_needOfficer, .static yX7_needOfficer, .code yX7_needOfficer cX7_needOfficer 1 none, .classLink RX7 109 "java/lang/IndexOutOfBoundsException", .initialized "java/lang/IndexOutOfBoundsException"] ++ wsX70 ++ (vx_atS RX7 64 "java/lang/IllegalArgumentException" ["java/lang/RuntimeException", "java/lang/Exception"]).filter goodWord ++ (vx_atS RX7 113 "java/lang/IndexOutOfBoundsException" ["java/lang/RuntimeException", "java/lang/Exception"]).filter goodWord)
def wsL_version_r1 : List Cond := [Cond.classLink RL 13 "java/lang/IndexOutOfBoundsException", Cond.classLink RL 15 "java/lang/IllegalArgumentException", Cond.classLink RL 21 "java/lang/IllegalStateException", Cond.methodLink RL 17 yX7_version, Cond.instanceMethod yX7_version, Cond.selects RX7 yX7_version yX7_version, Cond.initialized RX7, Cond.code yX7_version cX7_version 9 (some .int), Cond.classLink RX7 60 "java/lang/IllegalArgumentException", Cond.initialized "java/lang/IllegalArgumentException", Cond.classLink RX7 89 "java/lang/IllegalStateException", Cond.initialized "java/lang/IllegalStateException", Cond.fieldLink RX7 15 "RecordsOffice" "schedules" "[LRecordsOffice$Schedule;", Cond.fieldLink RX7 86 "RecordsOffice$Schedule" "size" "I", Cond.fieldLink RX7 46 "RecordsOffice" "book" "LRecordsOffice$Book;", Cond.methodLink RX7 67 yX7_needClass, Cond.static yX7_needClass, Cond.code yX7_needClass cX7_needClass 1 none, Cond.classLink RX7 109 "java/lang/IndexOutOfBoundsException", Cond.initialized "java/lang/IndexOutOfBoundsException", Cond.methodLink RX7 70 yX7_needTerm, Cond.static yX7_needTerm, Cond.code yX7_needTerm cX7_needTerm 2 none, Cond.methodLink RX7 74 yX7_needDay]
def wsL_version_r2 : List Cond := [Cond.static yX7_needDay, Cond.code yX7_needDay cX7_needDay 1 none, Cond.constant RX7 334 (120000), Cond.methodLink RX7 77 yX6_goesOnWith, Cond.instanceMethod yX6_goesOnWith, Cond.selects RX6 yX6_goesOnWith yX6_goesOnWith, Cond.initialized RX6, Cond.code yX6_goesOnWith cX6_goesOnWith 3 (some .boolean), Cond.fieldLink RX6 22 "RecordsOffice$Schedule" "size" "I", Cond.fieldLink RX6 26 "RecordsOffice$Schedule" "event" "I", Cond.fieldLink RX6 9 "RecordsOffice$Schedule" "firstDays" "[I", Cond.methodLink RX7 83 yX7_needRoom, Cond.instanceMethod yX7_needRoom, Cond.selects RX7 yX7_needRoom yX7_needRoom, Cond.code yX7_needRoom cX7_needRoom 2 none, Cond.fieldLink RX7 285 "RecordsOffice$Book" "size" "I", Cond.methodLink RX7 94 yX6_add, Cond.instanceMethod yX6_add, Cond.selects RX6 yX6_add yX6_add, Cond.code yX6_add cX6_add 5 none, Cond.fieldLink RX6 15 "RecordsOffice$Schedule" "terms" "[I", Cond.fieldLink RX6 18 "RecordsOffice$Schedule" "forAll" "[Z", Cond.methodLink RX7 98 yX0_write, Cond.instanceMethod yX0_write]
def wsL_version_r3 : List Cond := [Cond.selects RX0 yX0_write yX0_write, Cond.initialized RX0, Cond.code yX0_write cX0_write 8 none, Cond.fieldLink RX0 19 "RecordsOffice$Book" "size" "I", Cond.fieldLink RX0 15 "RecordsOffice$Book" "links" "[J", Cond.methodLink RX0 23 yX0_setNumber, Cond.instanceMethod yX0_setNumber, Cond.selects RX0 yX0_setNumber yX0_setNumber, Cond.code yX0_setNumber cX0_setNumber 4 none, Cond.fieldLink RX0 11 "RecordsOffice$Book" "numbers" "[I", Cond.methodLink RX0 27 yX0_linkFor, Cond.instanceMethod yX0_linkFor, Cond.selects RX0 yX0_linkFor yX0_linkFor, Cond.code yX0_linkFor cX0_linkFor 7 (some .long), Cond.methodLink RX0 31 yX0_number, Cond.instanceMethod yX0_number, Cond.selects RX0 yX0_number yX0_number, Cond.code yX0_number cX0_number 3 (some .int), Cond.methodLink RX0 35 yX0_mix, Cond.static yX0_mix, Cond.code yX0_mix cX0_mix 6 (some .long), Cond.constantLong RX0 39 (7046029254386353131)]
def wsL_version : List Cond := .codeWith yL_version cL_version 9 (some .int) [(0, 18, 21, 13), (0, 18, 25, 15), (0, 18, 29, 21)] :: ((wsL_version_r1 ++ (wsL_version_r2 ++ wsL_version_r3)) ++ wsX70 ++ wsX60 ++ wsX00 ++ (vx_atS RX7 64 "java/lang/IllegalArgumentException" ["java/lang/RuntimeException", "java/lang/Exception"]).filter goodWord ++ (vx_atS RX7 93 "java/lang/IllegalStateException" ["java/lang/RuntimeException", "java/lang/Exception"]).filter goodWord ++ (vx_atS RX7 113 "java/lang/IndexOutOfBoundsException" ["java/lang/RuntimeException", "java/lang/Exception"]).filter goodWord)
def wsL_fiscal : List Cond := .codeWith yL_fiscal cL_fiscal 3 (some .int) [(0, 5, 8, 15), (0, 5, 11, 21)] :: ([.classLink RL 15 "java/lang/IllegalArgumentException", .classLink RL 21 "java/lang/IllegalStateException", .methodLink RL 23 yX7_fiscal, .instanceMethod yX7_fiscal, .selects RX7 yX7_fiscal yX7_fiscal, .initialized RX7, .code yX7_fiscal cX7_fiscal 2 none, .classLink RX7 60 "java/lang/IllegalArgumentException", .initialized "java/lang/IllegalArgumentException", .classLink RX7 89 "java/lang/IllegalStateException", .initialized "java/lang/IllegalStateException", .fieldLink RX7 104 "RecordsOffice" "recordCount" "I", .fieldLink RX7 50 "RecordsOffice" "fiscalMonth" "I"] ++ wsX70 ++ (vx_atS RX7 64 "java/lang/IllegalArgumentException" ["java/lang/RuntimeException", "java/lang/Exception"]).filter goodWord ++ (vx_atS RX7 93 "java/lang/IllegalStateException" ["java/lang/RuntimeException", "java/lang/Exception"]).filter goodWord)
def wsL_open_r1 : List Cond := [Cond.classLink RL 13 "java/lang/IndexOutOfBoundsException", Cond.classLink RL 21 "java/lang/IllegalStateException", Cond.methodLink RL 27 yX7_open, Cond.instanceMethod yX7_open, Cond.selects RX7 yX7_open yX7_open, Cond.initialized RX7, Cond.code yX7_open cX7_open 3 none, Cond.classLink RX7 109 "java/lang/IndexOutOfBoundsException", Cond.initialized "java/lang/IndexOutOfBoundsException", Cond.classLink RX7 89 "java/lang/IllegalStateException", Cond.initialized "java/lang/IllegalStateException", Cond.fieldLink RX7 21 "RecordsOffice" "folders" "[LRecordsOffice$Folder;", Cond.fieldLink RX7 15 "RecordsOffice" "schedules" "[LRecordsOffice$Schedule;", Cond.fieldLink RX7 86 "RecordsOffice$Schedule" "size" "I", Cond.classLink RX7 19 RX4, Cond.instantiable RX4 4, Cond.initialized RX4, Cond.fieldLink RX7 46 "RecordsOffice" "book" "LRecordsOffice$Book;", Cond.methodLink RX7 67 yX7_needClass, Cond.static yX7_needClass, Cond.code yX7_needClass cX7_needClass 1 none, Cond.methodLink RX7 83 yX7_needRoom, Cond.instanceMethod yX7_needRoom, Cond.selects RX7 yX7_needRoom yX7_needRoom]
def wsL_open_r2 : List Cond := [Cond.code yX7_needRoom cX7_needRoom 2 none, Cond.fieldLink RX7 285 "RecordsOffice$Book" "size" "I", Cond.methodLink RX7 116 yX4_init, Cond.instanceMethod yX4_init, Cond.code yX4_init cX4_init 3 none, Cond.methodLink RX4 3 objectInit, Cond.instanceMethod objectInit, Cond.code objectInit ⟨#[0xb1]⟩ 1 none, Cond.fieldLink RX4 9 "RecordsOffice$Folder" "closedDay" "I", Cond.fieldLink RX4 15 "RecordsOffice$Folder" "leftDay" "I", Cond.fieldLink RX4 18 "RecordsOffice$Folder" "number" "I", Cond.fieldLink RX4 21 "RecordsOffice$Folder" "cls" "I", Cond.methodLink RX7 98 yX0_write, Cond.instanceMethod yX0_write, Cond.selects RX0 yX0_write yX0_write, Cond.initialized RX0, Cond.code yX0_write cX0_write 8 none, Cond.fieldLink RX0 19 "RecordsOffice$Book" "size" "I", Cond.fieldLink RX0 15 "RecordsOffice$Book" "links" "[J", Cond.methodLink RX0 23 yX0_setNumber, Cond.instanceMethod yX0_setNumber, Cond.selects RX0 yX0_setNumber yX0_setNumber, Cond.code yX0_setNumber cX0_setNumber 4 none, Cond.fieldLink RX0 11 "RecordsOffice$Book" "numbers" "[I"]
def wsL_open_r3 : List Cond := [Cond.methodLink RX0 27 yX0_linkFor, Cond.instanceMethod yX0_linkFor, Cond.selects RX0 yX0_linkFor yX0_linkFor, Cond.code yX0_linkFor cX0_linkFor 7 (some .long), Cond.methodLink RX0 31 yX0_number, Cond.instanceMethod yX0_number, Cond.selects RX0 yX0_number yX0_number, Cond.code yX0_number cX0_number 3 (some .int), Cond.methodLink RX0 35 yX0_mix, Cond.static yX0_mix, Cond.code yX0_mix cX0_mix 6 (some .long), Cond.constantLong RX0 39 (7046029254386353131)]
def wsL_open : List Cond := .codeWith yL_open cL_open 4 (some .int) [(0, 6, 9, 13), (0, 6, 12, 21)] :: ((wsL_open_r1 ++ (wsL_open_r2 ++ wsL_open_r3)) ++ wsX70 ++ wsX60 ++ wsX40 ++ wsX00 ++ (vx_atS RX7 113 "java/lang/IndexOutOfBoundsException" ["java/lang/RuntimeException", "java/lang/Exception"]).filter goodWord ++ (vx_atS RX7 93 "java/lang/IllegalStateException" ["java/lang/RuntimeException", "java/lang/Exception"]).filter goodWord)
def wsL_close_r1 : List Cond := [Cond.classLink RL 13 "java/lang/IndexOutOfBoundsException", Cond.classLink RL 15 "java/lang/IllegalArgumentException", Cond.classLink RL 21 "java/lang/IllegalStateException", Cond.methodLink RL 30 yX7_close, Cond.instanceMethod yX7_close, Cond.selects RX7 yX7_close yX7_close, Cond.initialized RX7, Cond.code yX7_close cX7_close 4 none, Cond.classLink RX7 89 "java/lang/IllegalStateException", Cond.initialized "java/lang/IllegalStateException", Cond.fieldLink RX7 125 "RecordsOffice$Folder" "closedDay" "I", Cond.fieldLink RX7 130 "RecordsOffice" "today" "I", Cond.fieldLink RX7 46 "RecordsOffice" "book" "LRecordsOffice$Book;", Cond.methodLink RX7 118 yX7_folderAt, Cond.instanceMethod yX7_folderAt, Cond.selects RX7 yX7_folderAt yX7_folderAt, Cond.code yX7_folderAt cX7_folderAt 2 (some (.object "RecordsOffice$Folder")), Cond.classLink RX7 109 "java/lang/IndexOutOfBoundsException", Cond.initialized "java/lang/IndexOutOfBoundsException", Cond.fieldLink RX7 21 "RecordsOffice" "folders" "[LRecordsOffice$Folder;", Cond.methodLink RX7 122 yX7_needDayOfAct, Cond.instanceMethod yX7_needDayOfAct, Cond.selects RX7 yX7_needDayOfAct yX7_needDayOfAct, Cond.code yX7_needDayOfAct cX7_needDayOfAct 2 none]
def wsL_close_r2 : List Cond := [Cond.classLink RX7 60 "java/lang/IllegalArgumentException", Cond.initialized "java/lang/IllegalArgumentException", Cond.methodLink RX7 74 yX7_needDay, Cond.static yX7_needDay, Cond.code yX7_needDay cX7_needDay 1 none, Cond.constant RX7 334 (120000), Cond.methodLink RX7 83 yX7_needRoom, Cond.instanceMethod yX7_needRoom, Cond.selects RX7 yX7_needRoom yX7_needRoom, Cond.code yX7_needRoom cX7_needRoom 2 none, Cond.fieldLink RX7 285 "RecordsOffice$Book" "size" "I", Cond.methodLink RX7 98 yX0_write, Cond.instanceMethod yX0_write, Cond.selects RX0 yX0_write yX0_write, Cond.initialized RX0, Cond.code yX0_write cX0_write 8 none, Cond.fieldLink RX0 19 "RecordsOffice$Book" "size" "I", Cond.fieldLink RX0 15 "RecordsOffice$Book" "links" "[J", Cond.methodLink RX0 23 yX0_setNumber, Cond.instanceMethod yX0_setNumber, Cond.selects RX0 yX0_setNumber yX0_setNumber, Cond.code yX0_setNumber cX0_setNumber 4 none, Cond.fieldLink RX0 11 "RecordsOffice$Book" "numbers" "[I", Cond.methodLink RX0 27 yX0_linkFor]
def wsL_close_r3 : List Cond := [Cond.instanceMethod yX0_linkFor, Cond.selects RX0 yX0_linkFor yX0_linkFor, Cond.code yX0_linkFor cX0_linkFor 7 (some .long), Cond.methodLink RX0 31 yX0_number, Cond.instanceMethod yX0_number, Cond.selects RX0 yX0_number yX0_number, Cond.code yX0_number cX0_number 3 (some .int), Cond.methodLink RX0 35 yX0_mix, Cond.static yX0_mix, Cond.code yX0_mix cX0_mix 6 (some .long), Cond.constantLong RX0 39 (7046029254386353131)]
def wsL_close : List Cond := .codeWith yL_close cL_close 4 (some .int) [(0, 6, 9, 13), (0, 6, 12, 15), (0, 6, 15, 21)] :: ((wsL_close_r1 ++ (wsL_close_r2 ++ wsL_close_r3)) ++ wsX40 ++ wsX70 ++ wsX00 ++ (vx_atS RX7 93 "java/lang/IllegalStateException" ["java/lang/RuntimeException", "java/lang/Exception"]).filter goodWord ++ (vx_atS RX7 113 "java/lang/IndexOutOfBoundsException" ["java/lang/RuntimeException", "java/lang/Exception"]).filter goodWord ++ (vx_atS RX7 64 "java/lang/IllegalArgumentException" ["java/lang/RuntimeException", "java/lang/Exception"]).filter goodWord)
def wsL_left_r1 : List Cond := [Cond.classLink RL 13 "java/lang/IndexOutOfBoundsException", Cond.classLink RL 15 "java/lang/IllegalArgumentException", Cond.classLink RL 21 "java/lang/IllegalStateException", Cond.methodLink RL 33 yX7_left, Cond.instanceMethod yX7_left, Cond.selects RX7 yX7_left yX7_left, Cond.initialized RX7, Cond.code yX7_left cX7_left 4 none, Cond.classLink RX7 89 "java/lang/IllegalStateException", Cond.initialized "java/lang/IllegalStateException", Cond.fieldLink RX7 133 "RecordsOffice$Folder" "leftDay" "I", Cond.fieldLink RX7 130 "RecordsOffice" "today" "I", Cond.fieldLink RX7 46 "RecordsOffice" "book" "LRecordsOffice$Book;", Cond.methodLink RX7 118 yX7_folderAt, Cond.instanceMethod yX7_folderAt, Cond.selects RX7 yX7_folderAt yX7_folderAt, Cond.code yX7_folderAt cX7_folderAt 2 (some (.object "RecordsOffice$Folder")), Cond.classLink RX7 109 "java/lang/IndexOutOfBoundsException", Cond.initialized "java/lang/IndexOutOfBoundsException", Cond.fieldLink RX7 21 "RecordsOffice" "folders" "[LRecordsOffice$Folder;", Cond.methodLink RX7 122 yX7_needDayOfAct, Cond.instanceMethod yX7_needDayOfAct, Cond.selects RX7 yX7_needDayOfAct yX7_needDayOfAct, Cond.code yX7_needDayOfAct cX7_needDayOfAct 2 none]
def wsL_left_r2 : List Cond := [Cond.classLink RX7 60 "java/lang/IllegalArgumentException", Cond.initialized "java/lang/IllegalArgumentException", Cond.methodLink RX7 74 yX7_needDay, Cond.static yX7_needDay, Cond.code yX7_needDay cX7_needDay 1 none, Cond.constant RX7 334 (120000), Cond.methodLink RX7 83 yX7_needRoom, Cond.instanceMethod yX7_needRoom, Cond.selects RX7 yX7_needRoom yX7_needRoom, Cond.code yX7_needRoom cX7_needRoom 2 none, Cond.fieldLink RX7 285 "RecordsOffice$Book" "size" "I", Cond.methodLink RX7 98 yX0_write, Cond.instanceMethod yX0_write, Cond.selects RX0 yX0_write yX0_write, Cond.initialized RX0, Cond.code yX0_write cX0_write 8 none, Cond.fieldLink RX0 19 "RecordsOffice$Book" "size" "I", Cond.fieldLink RX0 15 "RecordsOffice$Book" "links" "[J", Cond.methodLink RX0 23 yX0_setNumber, Cond.instanceMethod yX0_setNumber, Cond.selects RX0 yX0_setNumber yX0_setNumber, Cond.code yX0_setNumber cX0_setNumber 4 none, Cond.fieldLink RX0 11 "RecordsOffice$Book" "numbers" "[I", Cond.methodLink RX0 27 yX0_linkFor]
def wsL_left_r3 : List Cond := [Cond.instanceMethod yX0_linkFor, Cond.selects RX0 yX0_linkFor yX0_linkFor, Cond.code yX0_linkFor cX0_linkFor 7 (some .long), Cond.methodLink RX0 31 yX0_number, Cond.instanceMethod yX0_number, Cond.selects RX0 yX0_number yX0_number, Cond.code yX0_number cX0_number 3 (some .int), Cond.methodLink RX0 35 yX0_mix, Cond.static yX0_mix, Cond.code yX0_mix cX0_mix 6 (some .long), Cond.constantLong RX0 39 (7046029254386353131)]
def wsL_left : List Cond := .codeWith yL_left cL_left 4 (some .int) [(0, 6, 9, 13), (0, 6, 12, 15), (0, 6, 15, 21)] :: ((wsL_left_r1 ++ (wsL_left_r2 ++ wsL_left_r3)) ++ wsX40 ++ wsX70 ++ wsX00 ++ (vx_atS RX7 93 "java/lang/IllegalStateException" ["java/lang/RuntimeException", "java/lang/Exception"]).filter goodWord ++ (vx_atS RX7 113 "java/lang/IndexOutOfBoundsException" ["java/lang/RuntimeException", "java/lang/Exception"]).filter goodWord ++ (vx_atS RX7 64 "java/lang/IllegalArgumentException" ["java/lang/RuntimeException", "java/lang/Exception"]).filter goodWord)
def wsL_file_r1 : List Cond := [Cond.classLink RL 13 "java/lang/IndexOutOfBoundsException", Cond.classLink RL 15 "java/lang/IllegalArgumentException", Cond.classLink RL 21 "java/lang/IllegalStateException", Cond.methodLink RL 36 yX7_file, Cond.instanceMethod yX7_file, Cond.selects RX7 yX7_file yX7_file, Cond.initialized RX7, Cond.code yX7_file cX7_file 11 (some .int), Cond.classLink RX7 60 "java/lang/IllegalArgumentException", Cond.initialized "java/lang/IllegalArgumentException", Cond.classLink RX7 89 "java/lang/IllegalStateException", Cond.initialized "java/lang/IllegalStateException", Cond.constant RX7 141 (65536), Cond.fieldLink RX7 125 "RecordsOffice$Folder" "closedDay" "I", Cond.fieldLink RX7 104 "RecordsOffice" "recordCount" "I", Cond.fieldLink RX7 33 "RecordsOffice" "records" "[LRecordsOffice$Filed;", Cond.classLink RX7 31 RX3, Cond.instantiable RX3 8, Cond.initialized RX3, Cond.fieldLink RX7 130 "RecordsOffice" "today" "I", Cond.fieldLink RX7 46 "RecordsOffice" "book" "LRecordsOffice$Book;", Cond.methodLink RX7 118 yX7_folderAt, Cond.instanceMethod yX7_folderAt, Cond.selects RX7 yX7_folderAt yX7_folderAt]
def wsL_file_r2 : List Cond := [Cond.code yX7_folderAt cX7_folderAt 2 (some (.object "RecordsOffice$Folder")), Cond.classLink RX7 109 "java/lang/IndexOutOfBoundsException", Cond.initialized "java/lang/IndexOutOfBoundsException", Cond.fieldLink RX7 21 "RecordsOffice" "folders" "[LRecordsOffice$Folder;", Cond.methodLink RX7 138 yX7_needKeyOrNone, Cond.static yX7_needKeyOrNone, Cond.code yX7_needKeyOrNone cX7_needKeyOrNone 1 none, Cond.methodLink RX7 122 yX7_needDayOfAct, Cond.instanceMethod yX7_needDayOfAct, Cond.selects RX7 yX7_needDayOfAct yX7_needDayOfAct, Cond.code yX7_needDayOfAct cX7_needDayOfAct 2 none, Cond.methodLink RX7 74 yX7_needDay, Cond.static yX7_needDay, Cond.code yX7_needDay cX7_needDay 1 none, Cond.constant RX7 334 (120000), Cond.methodLink RX7 83 yX7_needRoom, Cond.instanceMethod yX7_needRoom, Cond.selects RX7 yX7_needRoom yX7_needRoom, Cond.code yX7_needRoom cX7_needRoom 2 none, Cond.fieldLink RX7 285 "RecordsOffice$Book" "size" "I", Cond.methodLink RX7 146 yX3_init, Cond.instanceMethod yX3_init, Cond.code yX3_init cX3_init 9 none, Cond.methodLink RX3 3 objectInit]
def wsL_file_r3 : List Cond := [Cond.instanceMethod objectInit, Cond.code objectInit ⟨#[0xb1]⟩ 1 none, Cond.fieldLink RX3 9 "RecordsOffice$Filed" "folder" "LRecordsOffice$Folder;", Cond.fieldLink RX3 15 "RecordsOffice$Filed" "size" "I", Cond.fieldLink RX3 19 "RecordsOffice$Filed" "digest" "J", Cond.fieldLink RX3 23 "RecordsOffice$Filed" "a" "I", Cond.fieldLink RX3 26 "RecordsOffice$Filed" "b" "I", Cond.fieldLink RX3 29 "RecordsOffice$Filed" "c" "I", Cond.fieldLink RX3 32 "RecordsOffice$Filed" "day" "I", Cond.methodLink RX7 98 yX0_write, Cond.instanceMethod yX0_write, Cond.selects RX0 yX0_write yX0_write, Cond.initialized RX0, Cond.code yX0_write cX0_write 8 none, Cond.fieldLink RX0 19 "RecordsOffice$Book" "size" "I", Cond.fieldLink RX0 15 "RecordsOffice$Book" "links" "[J", Cond.methodLink RX0 23 yX0_setNumber, Cond.instanceMethod yX0_setNumber, Cond.selects RX0 yX0_setNumber yX0_setNumber, Cond.code yX0_setNumber cX0_setNumber 4 none, Cond.fieldLink RX0 11 "RecordsOffice$Book" "numbers" "[I", Cond.methodLink RX0 27 yX0_linkFor, Cond.instanceMethod yX0_linkFor, Cond.selects RX0 yX0_linkFor yX0_linkFor]
def wsL_file_r4 : List Cond := [Cond.code yX0_linkFor cX0_linkFor 7 (some .long), Cond.methodLink RX0 31 yX0_number, Cond.instanceMethod yX0_number, Cond.selects RX0 yX0_number yX0_number, Cond.code yX0_number cX0_number 3 (some .int), Cond.methodLink RX0 35 yX0_mix, Cond.static yX0_mix, Cond.code yX0_mix cX0_mix 6 (some .long), Cond.constantLong RX0 39 (7046029254386353131)]
def wsL_file : List Cond := .codeWith yL_file cL_file 11 (some .int) [(0, 20, 23, 13), (0, 20, 27, 15), (0, 20, 31, 21)] :: ((wsL_file_r1 ++ (wsL_file_r2 ++ (wsL_file_r3 ++ wsL_file_r4))) ++ wsX40 ++ wsX70 ++ wsX30 ++ wsX00 ++ (vx_atS RX7 64 "java/lang/IllegalArgumentException" ["java/lang/RuntimeException", "java/lang/Exception"]).filter goodWord ++ (vx_atS RX7 93 "java/lang/IllegalStateException" ["java/lang/RuntimeException", "java/lang/Exception"]).filter goodWord ++ (vx_atS RX7 113 "java/lang/IndexOutOfBoundsException" ["java/lang/RuntimeException", "java/lang/Exception"]).filter goodWord)
def wsL_hold_r1 : List Cond := [Cond.classLink RL 13 "java/lang/IndexOutOfBoundsException", Cond.classLink RL 15 "java/lang/IllegalArgumentException", Cond.classLink RL 21 "java/lang/IllegalStateException", Cond.methodLink RL 40 yX7_hold, Cond.instanceMethod yX7_hold, Cond.selects RX7 yX7_hold yX7_hold, Cond.initialized RX7, Cond.code yX7_hold cX7_hold 7 none, Cond.classLink RX7 109 "java/lang/IndexOutOfBoundsException", Cond.initialized "java/lang/IndexOutOfBoundsException", Cond.classLink RX7 60 "java/lang/IllegalArgumentException", Cond.initialized "java/lang/IllegalArgumentException", Cond.classLink RX7 89 "java/lang/IllegalStateException", Cond.initialized "java/lang/IllegalStateException", Cond.fieldLink RX7 27 "RecordsOffice" "holds" "[LRecordsOffice$Hold;", Cond.fieldLink RX7 154 "RecordsOffice$Hold" "placed" "Z", Cond.fieldLink RX7 46 "RecordsOffice" "book" "LRecordsOffice$Book;", Cond.methodLink RX7 149 yX7_needHold, Cond.static yX7_needHold, Cond.code yX7_needHold cX7_needHold 1 none, Cond.methodLink RX7 67 yX7_needClass, Cond.static yX7_needClass, Cond.code yX7_needClass cX7_needClass 1 none, Cond.methodLink RX7 138 yX7_needKeyOrNone]
def wsL_hold_r2 : List Cond := [Cond.static yX7_needKeyOrNone, Cond.code yX7_needKeyOrNone cX7_needKeyOrNone 1 none, Cond.methodLink RX7 74 yX7_needDay, Cond.static yX7_needDay, Cond.code yX7_needDay cX7_needDay 1 none, Cond.constant RX7 334 (120000), Cond.methodLink RX7 83 yX7_needRoom, Cond.instanceMethod yX7_needRoom, Cond.selects RX7 yX7_needRoom yX7_needRoom, Cond.code yX7_needRoom cX7_needRoom 2 none, Cond.fieldLink RX7 285 "RecordsOffice$Book" "size" "I", Cond.methodLink RX7 160 yX5_place, Cond.instanceMethod yX5_place, Cond.selects RX5 yX5_place yX5_place, Cond.initialized RX5, Cond.code yX5_place cX5_place 6 none, Cond.fieldLink RX5 9 "RecordsOffice$Hold" "placed" "Z", Cond.fieldLink RX5 15 "RecordsOffice$Hold" "folder" "I", Cond.fieldLink RX5 19 "RecordsOffice$Hold" "cls" "I", Cond.fieldLink RX5 22 "RecordsOffice$Hold" "key" "I", Cond.fieldLink RX5 25 "RecordsOffice$Hold" "first" "I", Cond.fieldLink RX5 28 "RecordsOffice$Hold" "last" "I", Cond.methodLink RX7 98 yX0_write, Cond.instanceMethod yX0_write]
def wsL_hold_r3 : List Cond := [Cond.selects RX0 yX0_write yX0_write, Cond.initialized RX0, Cond.code yX0_write cX0_write 8 none, Cond.fieldLink RX0 19 "RecordsOffice$Book" "size" "I", Cond.fieldLink RX0 15 "RecordsOffice$Book" "links" "[J", Cond.methodLink RX0 23 yX0_setNumber, Cond.instanceMethod yX0_setNumber, Cond.selects RX0 yX0_setNumber yX0_setNumber, Cond.code yX0_setNumber cX0_setNumber 4 none, Cond.fieldLink RX0 11 "RecordsOffice$Book" "numbers" "[I", Cond.methodLink RX0 27 yX0_linkFor, Cond.instanceMethod yX0_linkFor, Cond.selects RX0 yX0_linkFor yX0_linkFor, Cond.code yX0_linkFor cX0_linkFor 7 (some .long), Cond.methodLink RX0 31 yX0_number, Cond.instanceMethod yX0_number, Cond.selects RX0 yX0_number yX0_number, Cond.code yX0_number cX0_number 3 (some .int), Cond.methodLink RX0 35 yX0_mix, Cond.static yX0_mix, Cond.code yX0_mix cX0_mix 6 (some .long), Cond.constantLong RX0 39 (7046029254386353131)]
def wsL_hold : List Cond := .codeWith yL_hold cL_hold 8 (some .int) [(0, 13, 16, 13), (0, 13, 20, 15), (0, 13, 24, 21)] :: ((wsL_hold_r1 ++ (wsL_hold_r2 ++ wsL_hold_r3)) ++ wsX70 ++ wsX50 ++ wsX00 ++ (vx_atS RX7 113 "java/lang/IndexOutOfBoundsException" ["java/lang/RuntimeException", "java/lang/Exception"]).filter goodWord ++ (vx_atS RX7 64 "java/lang/IllegalArgumentException" ["java/lang/RuntimeException", "java/lang/Exception"]).filter goodWord ++ (vx_atS RX7 93 "java/lang/IllegalStateException" ["java/lang/RuntimeException", "java/lang/Exception"]).filter goodWord)
def wsL_lift_r1 : List Cond := [Cond.classLink RL 13 "java/lang/IndexOutOfBoundsException", Cond.classLink RL 21 "java/lang/IllegalStateException", Cond.methodLink RL 44 yX7_lift, Cond.instanceMethod yX7_lift, Cond.selects RX7 yX7_lift yX7_lift, Cond.initialized RX7, Cond.code yX7_lift cX7_lift 2 none, Cond.classLink RX7 89 "java/lang/IllegalStateException", Cond.initialized "java/lang/IllegalStateException", Cond.fieldLink RX7 27 "RecordsOffice" "holds" "[LRecordsOffice$Hold;", Cond.fieldLink RX7 154 "RecordsOffice$Hold" "placed" "Z", Cond.fieldLink RX7 46 "RecordsOffice" "book" "LRecordsOffice$Book;", Cond.methodLink RX7 149 yX7_needHold, Cond.static yX7_needHold, Cond.code yX7_needHold cX7_needHold 1 none, Cond.classLink RX7 109 "java/lang/IndexOutOfBoundsException", Cond.initialized "java/lang/IndexOutOfBoundsException", Cond.methodLink RX7 83 yX7_needRoom, Cond.instanceMethod yX7_needRoom, Cond.selects RX7 yX7_needRoom yX7_needRoom, Cond.code yX7_needRoom cX7_needRoom 2 none, Cond.fieldLink RX7 285 "RecordsOffice$Book" "size" "I", Cond.methodLink RX7 98 yX0_write, Cond.instanceMethod yX0_write]
def wsL_lift_r2 : List Cond := [Cond.selects RX0 yX0_write yX0_write, Cond.initialized RX0, Cond.code yX0_write cX0_write 8 none, Cond.fieldLink RX0 19 "RecordsOffice$Book" "size" "I", Cond.fieldLink RX0 15 "RecordsOffice$Book" "links" "[J", Cond.methodLink RX0 23 yX0_setNumber, Cond.instanceMethod yX0_setNumber, Cond.selects RX0 yX0_setNumber yX0_setNumber, Cond.code yX0_setNumber cX0_setNumber 4 none, Cond.fieldLink RX0 11 "RecordsOffice$Book" "numbers" "[I", Cond.methodLink RX0 27 yX0_linkFor, Cond.instanceMethod yX0_linkFor, Cond.selects RX0 yX0_linkFor yX0_linkFor, Cond.code yX0_linkFor cX0_linkFor 7 (some .long), Cond.methodLink RX0 31 yX0_number, Cond.instanceMethod yX0_number, Cond.selects RX0 yX0_number yX0_number, Cond.code yX0_number cX0_number 3 (some .int), Cond.methodLink RX0 35 yX0_mix, Cond.static yX0_mix, Cond.code yX0_mix cX0_mix 6 (some .long), Cond.constantLong RX0 39 (7046029254386353131)]
def wsL_lift : List Cond := .codeWith yL_lift cL_lift 3 (some .int) [(0, 5, 8, 13), (0, 5, 11, 21)] :: ((wsL_lift_r1 ++ wsL_lift_r2) ++ wsX70 ++ wsX50 ++ wsX00 ++ (vx_atS RX7 93 "java/lang/IllegalStateException" ["java/lang/RuntimeException", "java/lang/Exception"]).filter goodWord ++ (vx_atS RX7 113 "java/lang/IndexOutOfBoundsException" ["java/lang/RuntimeException", "java/lang/Exception"]).filter goodWord)
def wsL_covered_r1 : List Cond := [Cond.classLink RL 13 "java/lang/IndexOutOfBoundsException", Cond.methodLink RL 47 yX7_covered, Cond.instanceMethod yX7_covered, Cond.selects RX7 yX7_covered yX7_covered, Cond.initialized RX7, Cond.code yX7_covered cX7_covered 2 (some .int), Cond.methodLink RX7 166 yX7_recordAt, Cond.instanceMethod yX7_recordAt, Cond.selects RX7 yX7_recordAt yX7_recordAt, Cond.code yX7_recordAt cX7_recordAt 2 (some (.object "RecordsOffice$Filed")), Cond.classLink RX7 109 "java/lang/IndexOutOfBoundsException", Cond.initialized "java/lang/IndexOutOfBoundsException", Cond.fieldLink RX7 104 "RecordsOffice" "recordCount" "I", Cond.fieldLink RX7 33 "RecordsOffice" "records" "[LRecordsOffice$Filed;", Cond.methodLink RX7 170 yX7_holdsOver, Cond.instanceMethod yX7_holdsOver, Cond.selects RX7 yX7_holdsOver yX7_holdsOver, Cond.code yX7_holdsOver cX7_holdsOver 4 (some .int), Cond.fieldLink RX7 27 "RecordsOffice" "holds" "[LRecordsOffice$Hold;", Cond.methodLink RX7 349 yX5_covers, Cond.instanceMethod yX5_covers, Cond.selects RX5 yX5_covers yX5_covers, Cond.initialized RX5, Cond.code yX5_covers cX5_covers 2 (some .boolean)]
def wsL_covered_r2 : List Cond := [Cond.fieldLink RX5 9 "RecordsOffice$Hold" "placed" "Z", Cond.fieldLink RX5 15 "RecordsOffice$Hold" "folder" "I", Cond.fieldLink RX5 31 "RecordsOffice$Filed" "folder" "LRecordsOffice$Folder;", Cond.fieldLink RX5 36 "RecordsOffice$Folder" "number" "I", Cond.fieldLink RX5 19 "RecordsOffice$Hold" "cls" "I", Cond.fieldLink RX5 41 "RecordsOffice$Folder" "cls" "I", Cond.fieldLink RX5 22 "RecordsOffice$Hold" "key" "I", Cond.fieldLink RX5 25 "RecordsOffice$Hold" "first" "I", Cond.fieldLink RX5 28 "RecordsOffice$Hold" "last" "I", Cond.methodLink RX5 42 yX3_hasKey, Cond.instanceMethod yX3_hasKey, Cond.selects RX3 yX3_hasKey yX3_hasKey, Cond.initialized RX3, Cond.code yX3_hasKey cX3_hasKey 2 (some .boolean), Cond.fieldLink RX3 23 "RecordsOffice$Filed" "a" "I", Cond.fieldLink RX3 26 "RecordsOffice$Filed" "b" "I", Cond.fieldLink RX3 29 "RecordsOffice$Filed" "c" "I", Cond.methodLink RX5 46 yX3_isFiledFrom, Cond.instanceMethod yX3_isFiledFrom, Cond.selects RX3 yX3_isFiledFrom yX3_isFiledFrom, Cond.code yX3_isFiledFrom cX3_isFiledFrom 3 (some .boolean), Cond.fieldLink RX3 32 "RecordsOffice$Filed" "day" "I"]
def wsL_covered : List Cond := .codeWith yL_covered cL_covered 4 (some .int) [(0, 9, 12, 13)] :: ((wsL_covered_r1 ++ wsL_covered_r2) ++ wsX70 ++ wsX50 ++ wsX30 ++ wsX40 ++ (vx_atS RX7 113 "java/lang/IndexOutOfBoundsException" ["java/lang/RuntimeException", "java/lang/Exception"]).filter goodWord)
def wsL_due_r1 : List Cond := [Cond.classLink RL 13 "java/lang/IndexOutOfBoundsException", Cond.methodLink RL 51 yX7_due, Cond.instanceMethod yX7_due, Cond.selects RX7 yX7_due yX7_due, Cond.initialized RX7, Cond.code yX7_due cX7_due 2 (some .int), Cond.methodLink RX7 166 yX7_recordAt, Cond.instanceMethod yX7_recordAt, Cond.selects RX7 yX7_recordAt yX7_recordAt, Cond.code yX7_recordAt cX7_recordAt 2 (some (.object "RecordsOffice$Filed")), Cond.classLink RX7 109 "java/lang/IndexOutOfBoundsException", Cond.initialized "java/lang/IndexOutOfBoundsException", Cond.fieldLink RX7 104 "RecordsOffice" "recordCount" "I", Cond.fieldLink RX7 33 "RecordsOffice" "records" "[LRecordsOffice$Filed;", Cond.methodLink RX7 174 yX7_dueDay, Cond.instanceMethod yX7_dueDay, Cond.selects RX7 yX7_dueDay yX7_dueDay, Cond.code yX7_dueDay cX7_dueDay 3 (some .int), Cond.fieldLink RX7 15 "RecordsOffice" "schedules" "[LRecordsOffice$Schedule;", Cond.fieldLink RX7 177 "RecordsOffice$Filed" "folder" "LRecordsOffice$Folder;", Cond.fieldLink RX7 353 "RecordsOffice$Folder" "cls" "I", Cond.methodLink RX7 362 yX7_eventDay, Cond.instanceMethod yX7_eventDay, Cond.selects RX7 yX7_eventDay yX7_eventDay]
def wsL_due_r2 : List Cond := [Cond.code yX7_eventDay cX7_eventDay 2 (some .int), Cond.fieldLink RX7 356 "RecordsOffice$Schedule" "event" "I", Cond.fieldLink RX7 125 "RecordsOffice$Folder" "closedDay" "I", Cond.fieldLink RX7 133 "RecordsOffice$Folder" "leftDay" "I", Cond.fieldLink RX7 184 "RecordsOffice$Filed" "day" "I", Cond.fieldLink RX7 50 "RecordsOffice" "fiscalMonth" "I", Cond.methodLink RX7 359 yX1_fiscalEnd, Cond.static yX1_fiscalEnd, Cond.initialized RX1, Cond.code yX1_fiscalEnd cX1_fiscalEnd 4 (some .int), Cond.methodLink RX1 17 yX1_monthOf, Cond.static yX1_monthOf, Cond.code yX1_monthOf cX1_monthOf 2 (some .int), Cond.methodLink RX1 13 yX1_firstOf, Cond.static yX1_firstOf, Cond.code yX1_firstOf cX1_firstOf 5 (some .int), Cond.fieldLink RX1 9 "RecordsOffice$Days" "BEFORE_MONTH" "[I", Cond.methodLink RX7 365 yX6_termFor, Cond.instanceMethod yX6_termFor, Cond.selects RX6 yX6_termFor yX6_termFor, Cond.initialized RX6, Cond.code yX6_termFor cX6_termFor 4 (some .int), Cond.fieldLink RX6 22 "RecordsOffice$Schedule" "size" "I", Cond.fieldLink RX6 9 "RecordsOffice$Schedule" "firstDays" "[I"]
def wsL_due_r3 : List Cond := [Cond.fieldLink RX6 18 "RecordsOffice$Schedule" "forAll" "[Z", Cond.fieldLink RX6 15 "RecordsOffice$Schedule" "terms" "[I", Cond.methodLink RX7 315 yX1_plus, Cond.static yX1_plus, Cond.code yX1_plus cX1_plus 5 (some .int), Cond.methodLink RX1 20 Lib.Math.min.name, Cond.static Lib.Math.min.name, Cond.initialized "java/lang/Math", Cond.code Lib.Math.min.name Lib.Math.min.code 2 (some .int)]
def wsL_due : List Cond := .codeWith yL_due cL_due 4 (some .int) [(0, 9, 12, 13)] :: ((wsL_due_r1 ++ (wsL_due_r2 ++ wsL_due_r3)) ++ wsX70 ++ wsX30 ++ wsX40 ++ wsX60 ++ (vx_atS RX7 113 "java/lang/IndexOutOfBoundsException" ["java/lang/RuntimeException", "java/lang/Exception"]).filter goodWord)
def wsL_record_r1 : List Cond := [Cond.classLink RL 13 "java/lang/IndexOutOfBoundsException", Cond.classLink RL 15 "java/lang/IllegalArgumentException", Cond.methodLink RL 54 yX7_record, Cond.instanceMethod yX7_record, Cond.selects RX7 yX7_record yX7_record, Cond.initialized RX7, Cond.code yX7_record cX7_record 4 (some .int), Cond.classLink RX7 60 "java/lang/IllegalArgumentException", Cond.initialized "java/lang/IllegalArgumentException", Cond.fieldLink RX7 177 "RecordsOffice$Filed" "folder" "LRecordsOffice$Folder;", Cond.fieldLink RX7 181 "RecordsOffice$Folder" "number" "I", Cond.fieldLink RX7 184 "RecordsOffice$Filed" "day" "I", Cond.fieldLink RX7 187 "RecordsOffice$Filed" "size" "I", Cond.fieldLink RX7 188 "RecordsOffice$Filed" "destroyed" "Z", Cond.methodLink RX7 166 yX7_recordAt, Cond.instanceMethod yX7_recordAt, Cond.selects RX7 yX7_recordAt yX7_recordAt, Cond.code yX7_recordAt cX7_recordAt 2 (some (.object "RecordsOffice$Filed")), Cond.classLink RX7 109 "java/lang/IndexOutOfBoundsException", Cond.initialized "java/lang/IndexOutOfBoundsException", Cond.fieldLink RX7 104 "RecordsOffice" "recordCount" "I", Cond.fieldLink RX7 33 "RecordsOffice" "records" "[LRecordsOffice$Filed;", Cond.methodLink RX7 191 yX3_keyCount, Cond.instanceMethod yX3_keyCount]
def wsL_record_r2 : List Cond := [Cond.selects RX3 yX3_keyCount yX3_keyCount, Cond.initialized RX3, Cond.code yX3_keyCount cX3_keyCount 2 (some .int), Cond.fieldLink RX3 23 "RecordsOffice$Filed" "a" "I", Cond.fieldLink RX3 26 "RecordsOffice$Filed" "b" "I", Cond.fieldLink RX3 29 "RecordsOffice$Filed" "c" "I"]
def wsL_record : List Cond := .codeWith yL_record cL_record 5 (some .int) [(0, 10, 13, 13), (0, 10, 17, 15)] :: ((wsL_record_r1 ++ wsL_record_r2) ++ wsX30 ++ wsX40 ++ wsX70 ++ (vx_atS RX7 64 "java/lang/IllegalArgumentException" ["java/lang/RuntimeException", "java/lang/Exception"]).filter goodWord ++ (vx_atS RX7 113 "java/lang/IndexOutOfBoundsException" ["java/lang/RuntimeException", "java/lang/Exception"]).filter goodWord)
def wsL_read : List Cond := .codeWith yL_read cL_read 4 (some .int) [(0, 8, 11, 13), (0, 8, 14, 21)] :: ([.classLink RL 13 "java/lang/IndexOutOfBoundsException", .classLink RL 21 "java/lang/IllegalStateException", .methodLink RL 58 yX7_read, .instanceMethod yX7_read, .selects RX7 yX7_read yX7_read, .initialized RX7, .code yX7_read cX7_read 3 (some .long), .classLink RX7 89 "java/lang/IllegalStateException", .initialized "java/lang/IllegalStateException", .fieldLink RX7 188 "RecordsOffice$Filed" "destroyed" "Z", .fieldLink RX7 199 "RecordsOffice$Filed" "digest" "J", .methodLink RX7 166 yX7_recordAt, .instanceMethod yX7_recordAt, .selects RX7 yX7_recordAt yX7_recordAt, .code yX7_recordAt cX7_recordAt 2 (some (.object "RecordsOffice$Filed")), .classLink RX7 109 "java/lang/IndexOutOfBoundsException", .initialized "java/lang/IndexOutOfBoundsException", .fieldLink RX7 104 "RecordsOffice" "recordCount" "I", .fieldLink RX7 33 "RecordsOffice" "records" "[LRecordsOffice$Filed;"] ++ wsX30 ++ wsX70 ++ (vx_atS RX7 93 "java/lang/IllegalStateException" ["java/lang/RuntimeException", "java/lang/Exception"]).filter goodWord ++ (vx_atS RX7 113 "java/lang/IndexOutOfBoundsException" ["java/lang/RuntimeException", "java/lang/Exception"]).filter goodWord)
def wsL_find : List Cond := .codeWith yL_find cL_find 7 (some .int) [(0, 14, 17, 15)] :: ([.classLink RL 15 "java/lang/IllegalArgumentException", .methodLink RL 62 yX7_find, .instanceMethod yX7_find, .selects RX7 yX7_find yX7_find, .initialized RX7, .code yX7_find cX7_find 8 (some .int), .classLink RX7 60 "java/lang/IllegalArgumentException", .initialized "java/lang/IllegalArgumentException", .fieldLink RX7 104 "RecordsOffice" "recordCount" "I", .fieldLink RX7 33 "RecordsOffice" "records" "[LRecordsOffice$Filed;", .fieldLink RX7 188 "RecordsOffice$Filed" "destroyed" "Z", .methodLink RX7 205 yX3_hasKey, .instanceMethod yX3_hasKey, .selects RX3 yX3_hasKey yX3_hasKey, .initialized RX3, .code yX3_hasKey cX3_hasKey 2 (some .boolean), .fieldLink RX3 23 "RecordsOffice$Filed" "a" "I", .fieldLink RX3 26 "RecordsOffice$Filed" "b" "I", .fieldLink RX3 29 "RecordsOffice$Filed" "c" "I", .methodLink RX7 209 yX3_isFiledFrom, .instanceMethod yX3_isFiledFrom, .selects RX3 yX3_isFiledFrom yX3_isFiledFrom, .code yX3_isFiledFrom cX3_isFiledFrom 3 (some .boolean), .fieldLink RX3 32 "RecordsOffice$Filed" "day" "I"] ++ wsX70 ++ wsX30 ++ (vx_atS RX7 64 "java/lang/IllegalArgumentException" ["java/lang/RuntimeException", "java/lang/Exception"]).filter goodWord)
def wsL_draw_r1 : List Cond := [Cond.classLink RL 13 "java/lang/IndexOutOfBoundsException", Cond.classLink RL 15 "java/lang/IllegalArgumentException", Cond.classLink RL 21 "java/lang/IllegalStateException", Cond.methodLink RL 66 yX7_draw, Cond.instanceMethod yX7_draw, Cond.selects RX7 yX7_draw yX7_draw, Cond.initialized RX7, Cond.code yX7_draw cX7_draw 6 (some .int), Cond.classLink RX7 89 "java/lang/IllegalStateException", Cond.initialized "java/lang/IllegalStateException", Cond.fieldLink RX7 215 "RecordsOffice" "listCount" "I", Cond.fieldLink RX7 39 "RecordsOffice" "lists" "[LRecordsOffice$DueList;", Cond.classLink RX7 37 RX2, Cond.instantiable RX2 4, Cond.initialized RX2, Cond.fieldLink RX7 130 "RecordsOffice" "today" "I", Cond.fieldLink RX7 46 "RecordsOffice" "book" "LRecordsOffice$Book;", Cond.methodLink RX7 56 yX7_needOfficer, Cond.static yX7_needOfficer, Cond.code yX7_needOfficer cX7_needOfficer 1 none, Cond.classLink RX7 109 "java/lang/IndexOutOfBoundsException", Cond.initialized "java/lang/IndexOutOfBoundsException", Cond.methodLink RX7 122 yX7_needDayOfAct, Cond.instanceMethod yX7_needDayOfAct]
def wsL_draw_r2 : List Cond := [Cond.selects RX7 yX7_needDayOfAct yX7_needDayOfAct, Cond.code yX7_needDayOfAct cX7_needDayOfAct 2 none, Cond.classLink RX7 60 "java/lang/IllegalArgumentException", Cond.initialized "java/lang/IllegalArgumentException", Cond.methodLink RX7 74 yX7_needDay, Cond.static yX7_needDay, Cond.code yX7_needDay cX7_needDay 1 none, Cond.constant RX7 334 (120000), Cond.methodLink RX7 212 yX7_needRight, Cond.instanceMethod yX7_needRight, Cond.selects RX7 yX7_needRight yX7_needRight, Cond.code yX7_needRight cX7_needRight 3 none, Cond.fieldLink RX7 9 "RecordsOffice" "rights" "[I", Cond.methodLink RX7 83 yX7_needRoom, Cond.instanceMethod yX7_needRoom, Cond.selects RX7 yX7_needRoom yX7_needRoom, Cond.code yX7_needRoom cX7_needRoom 2 none, Cond.fieldLink RX7 285 "RecordsOffice$Book" "size" "I", Cond.methodLink RX7 220 yX7_ripeOn, Cond.instanceMethod yX7_ripeOn, Cond.selects RX7 yX7_ripeOn yX7_ripeOn, Cond.code yX7_ripeOn cX7_ripeOn 7 (some .long), Cond.fieldLink RX7 104 "RecordsOffice" "recordCount" "I", Cond.fieldLink RX7 33 "RecordsOffice" "records" "[LRecordsOffice$Filed;"]
def wsL_draw_r3 : List Cond := [Cond.fieldLink RX7 188 "RecordsOffice$Filed" "destroyed" "Z", Cond.methodLink RX7 170 yX7_holdsOver, Cond.instanceMethod yX7_holdsOver, Cond.selects RX7 yX7_holdsOver yX7_holdsOver, Cond.code yX7_holdsOver cX7_holdsOver 4 (some .int), Cond.fieldLink RX7 27 "RecordsOffice" "holds" "[LRecordsOffice$Hold;", Cond.methodLink RX7 349 yX5_covers, Cond.instanceMethod yX5_covers, Cond.selects RX5 yX5_covers yX5_covers, Cond.initialized RX5, Cond.code yX5_covers cX5_covers 2 (some .boolean), Cond.fieldLink RX5 9 "RecordsOffice$Hold" "placed" "Z", Cond.fieldLink RX5 15 "RecordsOffice$Hold" "folder" "I", Cond.fieldLink RX5 31 "RecordsOffice$Filed" "folder" "LRecordsOffice$Folder;", Cond.fieldLink RX5 36 "RecordsOffice$Folder" "number" "I", Cond.fieldLink RX5 19 "RecordsOffice$Hold" "cls" "I", Cond.fieldLink RX5 41 "RecordsOffice$Folder" "cls" "I", Cond.fieldLink RX5 22 "RecordsOffice$Hold" "key" "I", Cond.fieldLink RX5 25 "RecordsOffice$Hold" "first" "I", Cond.fieldLink RX5 28 "RecordsOffice$Hold" "last" "I", Cond.methodLink RX5 42 yX3_hasKey, Cond.instanceMethod yX3_hasKey, Cond.selects RX3 yX3_hasKey yX3_hasKey, Cond.initialized RX3]
def wsL_draw_r4 : List Cond := [Cond.code yX3_hasKey cX3_hasKey 2 (some .boolean), Cond.fieldLink RX3 23 "RecordsOffice$Filed" "a" "I", Cond.fieldLink RX3 26 "RecordsOffice$Filed" "b" "I", Cond.fieldLink RX3 29 "RecordsOffice$Filed" "c" "I", Cond.methodLink RX5 46 yX3_isFiledFrom, Cond.instanceMethod yX3_isFiledFrom, Cond.selects RX3 yX3_isFiledFrom yX3_isFiledFrom, Cond.code yX3_isFiledFrom cX3_isFiledFrom 3 (some .boolean), Cond.fieldLink RX3 32 "RecordsOffice$Filed" "day" "I", Cond.methodLink RX7 174 yX7_dueDay, Cond.instanceMethod yX7_dueDay, Cond.selects RX7 yX7_dueDay yX7_dueDay, Cond.code yX7_dueDay cX7_dueDay 3 (some .int), Cond.fieldLink RX7 15 "RecordsOffice" "schedules" "[LRecordsOffice$Schedule;", Cond.fieldLink RX7 177 "RecordsOffice$Filed" "folder" "LRecordsOffice$Folder;", Cond.fieldLink RX7 353 "RecordsOffice$Folder" "cls" "I", Cond.methodLink RX7 362 yX7_eventDay, Cond.instanceMethod yX7_eventDay, Cond.selects RX7 yX7_eventDay yX7_eventDay, Cond.code yX7_eventDay cX7_eventDay 2 (some .int), Cond.fieldLink RX7 356 "RecordsOffice$Schedule" "event" "I", Cond.fieldLink RX7 125 "RecordsOffice$Folder" "closedDay" "I", Cond.fieldLink RX7 133 "RecordsOffice$Folder" "leftDay" "I", Cond.fieldLink RX7 184 "RecordsOffice$Filed" "day" "I"]
def wsL_draw_r5 : List Cond := [Cond.fieldLink RX7 50 "RecordsOffice" "fiscalMonth" "I", Cond.methodLink RX7 359 yX1_fiscalEnd, Cond.static yX1_fiscalEnd, Cond.initialized RX1, Cond.code yX1_fiscalEnd cX1_fiscalEnd 4 (some .int), Cond.methodLink RX1 17 yX1_monthOf, Cond.static yX1_monthOf, Cond.code yX1_monthOf cX1_monthOf 2 (some .int), Cond.methodLink RX1 13 yX1_firstOf, Cond.static yX1_firstOf, Cond.code yX1_firstOf cX1_firstOf 5 (some .int), Cond.fieldLink RX1 9 "RecordsOffice$Days" "BEFORE_MONTH" "[I", Cond.methodLink RX7 365 yX6_termFor, Cond.instanceMethod yX6_termFor, Cond.selects RX6 yX6_termFor yX6_termFor, Cond.initialized RX6, Cond.code yX6_termFor cX6_termFor 4 (some .int), Cond.fieldLink RX6 22 "RecordsOffice$Schedule" "size" "I", Cond.fieldLink RX6 9 "RecordsOffice$Schedule" "firstDays" "[I", Cond.fieldLink RX6 18 "RecordsOffice$Schedule" "forAll" "[Z", Cond.fieldLink RX6 15 "RecordsOffice$Schedule" "terms" "[I", Cond.methodLink RX7 315 yX1_plus, Cond.static yX1_plus, Cond.code yX1_plus cX1_plus 5 (some .int)]
def wsL_draw_r6 : List Cond := [Cond.methodLink RX1 20 Lib.Math.min.name, Cond.static Lib.Math.min.name, Cond.initialized "java/lang/Math", Cond.code Lib.Math.min.name Lib.Math.min.code 2 (some .int), Cond.methodLink RX7 226 yX2_init, Cond.instanceMethod yX2_init, Cond.code yX2_init cX2_init 4 none, Cond.methodLink RX2 3 objectInit, Cond.instanceMethod objectInit, Cond.code objectInit ⟨#[0xb1]⟩ 1 none, Cond.fieldLink RX2 9 "RecordsOffice$DueList" "isOpen" "Z", Cond.fieldLink RX2 15 "RecordsOffice$DueList" "drawnBy" "I", Cond.fieldLink RX2 19 "RecordsOffice$DueList" "members" "J", Cond.methodLink RX7 229 yX2_size, Cond.instanceMethod yX2_size, Cond.selects RX2 yX2_size yX2_size, Cond.code yX2_size cX2_size 1 (some .int), Cond.methodLink RX2 23 yJ13_bitCount_95d88, Cond.static yJ13_bitCount_95d88, Cond.initialized RJ13, Cond.code yJ13_bitCount_95d88 cJ13_bitCount_95d88 2 (some .int), Cond.constantLong RJ13 314 (6148914691236517205), Cond.constantLong RJ13 316 (3689348814741910323), Cond.constantLong RJ13 318 (1085102592571150095)]
def wsL_draw_r7 : List Cond := [Cond.methodLink RX7 98 yX0_write, Cond.instanceMethod yX0_write, Cond.selects RX0 yX0_write yX0_write, Cond.initialized RX0, Cond.code yX0_write cX0_write 8 none, Cond.fieldLink RX0 19 "RecordsOffice$Book" "size" "I", Cond.fieldLink RX0 15 "RecordsOffice$Book" "links" "[J", Cond.methodLink RX0 23 yX0_setNumber, Cond.instanceMethod yX0_setNumber, Cond.selects RX0 yX0_setNumber yX0_setNumber, Cond.code yX0_setNumber cX0_setNumber 4 none, Cond.fieldLink RX0 11 "RecordsOffice$Book" "numbers" "[I", Cond.methodLink RX0 27 yX0_linkFor, Cond.instanceMethod yX0_linkFor, Cond.selects RX0 yX0_linkFor yX0_linkFor, Cond.code yX0_linkFor cX0_linkFor 7 (some .long), Cond.methodLink RX0 31 yX0_number, Cond.instanceMethod yX0_number, Cond.selects RX0 yX0_number yX0_number, Cond.code yX0_number cX0_number 3 (some .int), Cond.methodLink RX0 35 yX0_mix, Cond.static yX0_mix, Cond.code yX0_mix cX0_mix 6 (some .long), Cond.constantLong RX0 39 (7046029254386353131)]
def wsL_draw : List Cond := .codeWith yL_draw cL_draw 5 (some .int) [(0, 10, 13, 13), (0, 10, 17, 15), (0, 10, 21, 21)] :: ((wsL_draw_r1 ++ (wsL_draw_r2 ++ (wsL_draw_r3 ++ (wsL_draw_r4 ++ (wsL_draw_r5 ++ (wsL_draw_r6 ++ wsL_draw_r7)))))) ++ wsX70 ++ wsX20 ++ wsX00 ++ wsX30 ++ wsX50 ++ wsX40 ++ wsX60 ++ (vx_atS RX7 93 "java/lang/IllegalStateException" ["java/lang/RuntimeException", "java/lang/Exception"]).filter goodWord ++ (vx_atS RX7 113 "java/lang/IndexOutOfBoundsException" ["java/lang/RuntimeException", "java/lang/Exception"]).filter goodWord ++ (vx_atS RX7 64 "java/lang/IllegalArgumentException" ["java/lang/RuntimeException", "java/lang/Exception"]).filter goodWord)
def wsL_listed : List Cond := .codeWith yL_listed cL_listed 5 (some .int) [(0, 10, 13, 13)] :: ([.classLink RL 13 "java/lang/IndexOutOfBoundsException", .methodLink RL 69 yX7_listed, .instanceMethod yX7_listed, .selects RX7 yX7_listed yX7_listed, .initialized RX7, .code yX7_listed cX7_listed 4 (some .int), .classLink RX7 109 "java/lang/IndexOutOfBoundsException", .initialized "java/lang/IndexOutOfBoundsException", .methodLink RX7 231 yX7_listAt, .instanceMethod yX7_listAt, .selects RX7 yX7_listAt yX7_listAt, .code yX7_listAt cX7_listAt 2 (some (.object "RecordsOffice$DueList")), .fieldLink RX7 215 "RecordsOffice" "listCount" "I", .fieldLink RX7 39 "RecordsOffice" "lists" "[LRecordsOffice$DueList;", .methodLink RX7 237 yX2_recordAtPlace, .instanceMethod yX2_recordAtPlace, .selects RX2 yX2_recordAtPlace yX2_recordAtPlace, .initialized RX2, .code yX2_recordAtPlace cX2_recordAtPlace 4 (some .int), .methodLink RX2 31 yX2_has, .instanceMethod yX2_has, .selects RX2 yX2_has yX2_has, .code yX2_has cX2_has 2 (some .boolean), .fieldLink RX2 19 "RecordsOffice$DueList" "members" "J"] ++ wsX70 ++ wsX20 ++ (vx_atS RX7 113 "java/lang/IndexOutOfBoundsException" ["java/lang/RuntimeException", "java/lang/Exception"]).filter goodWord)
def wsL_approve_r1 : List Cond := [Cond.classLink RL 13 "java/lang/IndexOutOfBoundsException", Cond.classLink RL 21 "java/lang/IllegalStateException", Cond.methodLink RL 72 yX7_approve, Cond.instanceMethod yX7_approve, Cond.selects RX7 yX7_approve yX7_approve, Cond.initialized RX7, Cond.code yX7_approve cX7_approve 4 (some .int), Cond.classLink RX7 89 "java/lang/IllegalStateException", Cond.initialized "java/lang/IllegalStateException", Cond.fieldLink RX7 245 "RecordsOffice$DueList" "drawnBy" "I", Cond.fieldLink RX7 46 "RecordsOffice" "book" "LRecordsOffice$Book;", Cond.methodLink RX7 231 yX7_listAt, Cond.instanceMethod yX7_listAt, Cond.selects RX7 yX7_listAt yX7_listAt, Cond.code yX7_listAt cX7_listAt 2 (some (.object "RecordsOffice$DueList")), Cond.classLink RX7 109 "java/lang/IndexOutOfBoundsException", Cond.initialized "java/lang/IndexOutOfBoundsException", Cond.fieldLink RX7 215 "RecordsOffice" "listCount" "I", Cond.fieldLink RX7 39 "RecordsOffice" "lists" "[LRecordsOffice$DueList;", Cond.methodLink RX7 56 yX7_needOfficer, Cond.static yX7_needOfficer, Cond.code yX7_needOfficer cX7_needOfficer 1 none, Cond.methodLink RX7 241 yX7_needOpen, Cond.static yX7_needOpen]
def wsL_approve_r2 : List Cond := [Cond.code yX7_needOpen cX7_needOpen 1 none, Cond.fieldLink RX7 282 "RecordsOffice$DueList" "isOpen" "Z", Cond.methodLink RX7 212 yX7_needRight, Cond.instanceMethod yX7_needRight, Cond.selects RX7 yX7_needRight yX7_needRight, Cond.code yX7_needRight cX7_needRight 3 none, Cond.fieldLink RX7 9 "RecordsOffice" "rights" "[I", Cond.methodLink RX7 83 yX7_needRoom, Cond.instanceMethod yX7_needRoom, Cond.selects RX7 yX7_needRoom yX7_needRoom, Cond.code yX7_needRoom cX7_needRoom 2 none, Cond.fieldLink RX7 285 "RecordsOffice$Book" "size" "I", Cond.methodLink RX7 248 yX2_isApprovedBy, Cond.instanceMethod yX2_isApprovedBy, Cond.selects RX2 yX2_isApprovedBy yX2_isApprovedBy, Cond.initialized RX2, Cond.code yX2_isApprovedBy cX2_isApprovedBy 2 (some .boolean), Cond.fieldLink RX2 35 "RecordsOffice$DueList" "approvers" "I", Cond.methodLink RX7 253 yX2_addApproval, Cond.instanceMethod yX2_addApproval, Cond.selects RX2 yX2_addApproval yX2_addApproval, Cond.code yX2_addApproval cX2_addApproval 2 none, Cond.methodLink RX7 98 yX0_write, Cond.instanceMethod yX0_write]
def wsL_approve_r3 : List Cond := [Cond.selects RX0 yX0_write yX0_write, Cond.initialized RX0, Cond.code yX0_write cX0_write 8 none, Cond.fieldLink RX0 19 "RecordsOffice$Book" "size" "I", Cond.fieldLink RX0 15 "RecordsOffice$Book" "links" "[J", Cond.methodLink RX0 23 yX0_setNumber, Cond.instanceMethod yX0_setNumber, Cond.selects RX0 yX0_setNumber yX0_setNumber, Cond.code yX0_setNumber cX0_setNumber 4 none, Cond.fieldLink RX0 11 "RecordsOffice$Book" "numbers" "[I", Cond.methodLink RX0 27 yX0_linkFor, Cond.instanceMethod yX0_linkFor, Cond.selects RX0 yX0_linkFor yX0_linkFor, Cond.code yX0_linkFor cX0_linkFor 7 (some .long), Cond.methodLink RX0 31 yX0_number, Cond.instanceMethod yX0_number, Cond.selects RX0 yX0_number yX0_number, Cond.code yX0_number cX0_number 3 (some .int), Cond.methodLink RX0 35 yX0_mix, Cond.static yX0_mix, Cond.code yX0_mix cX0_mix 6 (some .long), Cond.constantLong RX0 39 (7046029254386353131), Cond.methodLink RX7 256 yX2_approvals, Cond.instanceMethod yX2_approvals]
def wsL_approve_r4 : List Cond := [Cond.selects RX2 yX2_approvals yX2_approvals, Cond.code yX2_approvals cX2_approvals 1 (some .int), Cond.methodLink RX2 38 yJ6_bitCount_0f7a4, Cond.static yJ6_bitCount_0f7a4, Cond.initialized RJ6, Cond.code yJ6_bitCount_0f7a4 cJ6_bitCount_0f7a4 1 (some .int), Cond.constant RJ6 265 (1431655765), Cond.constant RJ6 266 (858993459), Cond.constant RJ6 267 (252645135)]
def wsL_approve : List Cond := .codeWith yL_approve cL_approve 5 (some .int) [(0, 10, 13, 13), (0, 10, 17, 21)] :: ((wsL_approve_r1 ++ (wsL_approve_r2 ++ (wsL_approve_r3 ++ wsL_approve_r4))) ++ wsX20 ++ wsX70 ++ wsX00 ++ (vx_atS RX7 93 "java/lang/IllegalStateException" ["java/lang/RuntimeException", "java/lang/Exception"]).filter goodWord ++ (vx_atS RX7 113 "java/lang/IndexOutOfBoundsException" ["java/lang/RuntimeException", "java/lang/Exception"]).filter goodWord)
def wsL_strike_r1 : List Cond := [Cond.classLink RL 13 "java/lang/IndexOutOfBoundsException", Cond.classLink RL 21 "java/lang/IllegalStateException", Cond.methodLink RL 75 yX7_strike, Cond.instanceMethod yX7_strike, Cond.selects RX7 yX7_strike yX7_strike, Cond.initialized RX7, Cond.code yX7_strike cX7_strike 4 (some .int), Cond.classLink RX7 109 "java/lang/IndexOutOfBoundsException", Cond.initialized "java/lang/IndexOutOfBoundsException", Cond.fieldLink RX7 46 "RecordsOffice" "book" "LRecordsOffice$Book;", Cond.methodLink RX7 231 yX7_listAt, Cond.instanceMethod yX7_listAt, Cond.selects RX7 yX7_listAt yX7_listAt, Cond.code yX7_listAt cX7_listAt 2 (some (.object "RecordsOffice$DueList")), Cond.fieldLink RX7 215 "RecordsOffice" "listCount" "I", Cond.fieldLink RX7 39 "RecordsOffice" "lists" "[LRecordsOffice$DueList;", Cond.methodLink RX7 259 yX2_has, Cond.instanceMethod yX2_has, Cond.selects RX2 yX2_has yX2_has, Cond.initialized RX2, Cond.code yX2_has cX2_has 2 (some .boolean), Cond.fieldLink RX2 19 "RecordsOffice$DueList" "members" "J", Cond.methodLink RX7 241 yX7_needOpen, Cond.static yX7_needOpen]
def wsL_strike_r2 : List Cond := [Cond.code yX7_needOpen cX7_needOpen 1 none, Cond.classLink RX7 89 "java/lang/IllegalStateException", Cond.initialized "java/lang/IllegalStateException", Cond.fieldLink RX7 282 "RecordsOffice$DueList" "isOpen" "Z", Cond.methodLink RX7 83 yX7_needRoom, Cond.instanceMethod yX7_needRoom, Cond.selects RX7 yX7_needRoom yX7_needRoom, Cond.code yX7_needRoom cX7_needRoom 2 none, Cond.fieldLink RX7 285 "RecordsOffice$Book" "size" "I", Cond.methodLink RX7 264 yX2_remove, Cond.instanceMethod yX2_remove, Cond.selects RX2 yX2_remove yX2_remove, Cond.code yX2_remove cX2_remove 2 none, Cond.constantLong RX2 29 (-1), Cond.methodLink RX7 98 yX0_write, Cond.instanceMethod yX0_write, Cond.selects RX0 yX0_write yX0_write, Cond.initialized RX0, Cond.code yX0_write cX0_write 8 none, Cond.fieldLink RX0 19 "RecordsOffice$Book" "size" "I", Cond.fieldLink RX0 15 "RecordsOffice$Book" "links" "[J", Cond.methodLink RX0 23 yX0_setNumber, Cond.instanceMethod yX0_setNumber, Cond.selects RX0 yX0_setNumber yX0_setNumber]
def wsL_strike_r3 : List Cond := [Cond.code yX0_setNumber cX0_setNumber 4 none, Cond.fieldLink RX0 11 "RecordsOffice$Book" "numbers" "[I", Cond.methodLink RX0 27 yX0_linkFor, Cond.instanceMethod yX0_linkFor, Cond.selects RX0 yX0_linkFor yX0_linkFor, Cond.code yX0_linkFor cX0_linkFor 7 (some .long), Cond.methodLink RX0 31 yX0_number, Cond.instanceMethod yX0_number, Cond.selects RX0 yX0_number yX0_number, Cond.code yX0_number cX0_number 3 (some .int), Cond.methodLink RX0 35 yX0_mix, Cond.static yX0_mix, Cond.code yX0_mix cX0_mix 6 (some .long), Cond.constantLong RX0 39 (7046029254386353131), Cond.methodLink RX7 229 yX2_size, Cond.instanceMethod yX2_size, Cond.selects RX2 yX2_size yX2_size, Cond.code yX2_size cX2_size 1 (some .int), Cond.methodLink RX2 23 yJ13_bitCount_95d88, Cond.static yJ13_bitCount_95d88, Cond.initialized RJ13, Cond.code yJ13_bitCount_95d88 cJ13_bitCount_95d88 2 (some .int), Cond.constantLong RJ13 314 (6148914691236517205), Cond.constantLong RJ13 316 (3689348814741910323)]
def wsL_strike_r4 : List Cond := [Cond.constantLong RJ13 318 (1085102592571150095)]
def wsL_strike : List Cond := .codeWith yL_strike cL_strike 5 (some .int) [(0, 10, 13, 13), (0, 10, 17, 21)] :: ((wsL_strike_r1 ++ (wsL_strike_r2 ++ (wsL_strike_r3 ++ wsL_strike_r4))) ++ wsX70 ++ wsX20 ++ wsX00 ++ (vx_atS RX7 113 "java/lang/IndexOutOfBoundsException" ["java/lang/RuntimeException", "java/lang/Exception"]).filter goodWord ++ (vx_atS RX7 93 "java/lang/IllegalStateException" ["java/lang/RuntimeException", "java/lang/Exception"]).filter goodWord)
def wsL_carry_r1 : List Cond := [Cond.classLink RL 13 "java/lang/IndexOutOfBoundsException", Cond.classLink RL 15 "java/lang/IllegalArgumentException", Cond.classLink RL 21 "java/lang/IllegalStateException", Cond.methodLink RL 78 yX7_carry, Cond.instanceMethod yX7_carry, Cond.selects RX7 yX7_carry yX7_carry, Cond.initialized RX7, Cond.code yX7_carry cX7_carry 8 (some .int), Cond.classLink RX7 89 "java/lang/IllegalStateException", Cond.initialized "java/lang/IllegalStateException", Cond.fieldLink RX7 269 "RecordsOffice$DueList" "members" "J", Cond.fieldLink RX7 282 "RecordsOffice$DueList" "isOpen" "Z", Cond.fieldLink RX7 130 "RecordsOffice" "today" "I", Cond.fieldLink RX7 46 "RecordsOffice" "book" "LRecordsOffice$Book;", Cond.methodLink RX7 231 yX7_listAt, Cond.instanceMethod yX7_listAt, Cond.selects RX7 yX7_listAt yX7_listAt, Cond.code yX7_listAt cX7_listAt 2 (some (.object "RecordsOffice$DueList")), Cond.classLink RX7 109 "java/lang/IndexOutOfBoundsException", Cond.initialized "java/lang/IndexOutOfBoundsException", Cond.fieldLink RX7 215 "RecordsOffice" "listCount" "I", Cond.fieldLink RX7 39 "RecordsOffice" "lists" "[LRecordsOffice$DueList;", Cond.methodLink RX7 56 yX7_needOfficer, Cond.static yX7_needOfficer]
def wsL_carry_r2 : List Cond := [Cond.code yX7_needOfficer cX7_needOfficer 1 none, Cond.methodLink RX7 122 yX7_needDayOfAct, Cond.instanceMethod yX7_needDayOfAct, Cond.selects RX7 yX7_needDayOfAct yX7_needDayOfAct, Cond.code yX7_needDayOfAct cX7_needDayOfAct 2 none, Cond.classLink RX7 60 "java/lang/IllegalArgumentException", Cond.initialized "java/lang/IllegalArgumentException", Cond.methodLink RX7 74 yX7_needDay, Cond.static yX7_needDay, Cond.code yX7_needDay cX7_needDay 1 none, Cond.constant RX7 334 (120000), Cond.methodLink RX7 241 yX7_needOpen, Cond.static yX7_needOpen, Cond.code yX7_needOpen cX7_needOpen 1 none, Cond.methodLink RX7 212 yX7_needRight, Cond.instanceMethod yX7_needRight, Cond.selects RX7 yX7_needRight yX7_needRight, Cond.code yX7_needRight cX7_needRight 3 none, Cond.fieldLink RX7 9 "RecordsOffice" "rights" "[I", Cond.methodLink RX7 256 yX2_approvals, Cond.instanceMethod yX2_approvals, Cond.selects RX2 yX2_approvals yX2_approvals, Cond.initialized RX2, Cond.code yX2_approvals cX2_approvals 1 (some .int)]
def wsL_carry_r3 : List Cond := [Cond.fieldLink RX2 35 "RecordsOffice$DueList" "approvers" "I", Cond.methodLink RX2 38 yJ6_bitCount_0f7a4, Cond.static yJ6_bitCount_0f7a4, Cond.initialized RJ6, Cond.code yJ6_bitCount_0f7a4 cJ6_bitCount_0f7a4 1 (some .int), Cond.constant RJ6 265 (1431655765), Cond.constant RJ6 266 (858993459), Cond.constant RJ6 267 (252645135), Cond.methodLink RX7 220 yX7_ripeOn, Cond.instanceMethod yX7_ripeOn, Cond.selects RX7 yX7_ripeOn yX7_ripeOn, Cond.code yX7_ripeOn cX7_ripeOn 7 (some .long), Cond.fieldLink RX7 104 "RecordsOffice" "recordCount" "I", Cond.fieldLink RX7 33 "RecordsOffice" "records" "[LRecordsOffice$Filed;", Cond.fieldLink RX7 188 "RecordsOffice$Filed" "destroyed" "Z", Cond.methodLink RX7 170 yX7_holdsOver, Cond.instanceMethod yX7_holdsOver, Cond.selects RX7 yX7_holdsOver yX7_holdsOver, Cond.code yX7_holdsOver cX7_holdsOver 4 (some .int), Cond.fieldLink RX7 27 "RecordsOffice" "holds" "[LRecordsOffice$Hold;", Cond.methodLink RX7 349 yX5_covers, Cond.instanceMethod yX5_covers, Cond.selects RX5 yX5_covers yX5_covers, Cond.initialized RX5]
def wsL_carry_r4 : List Cond := [Cond.code yX5_covers cX5_covers 2 (some .boolean), Cond.fieldLink RX5 9 "RecordsOffice$Hold" "placed" "Z", Cond.fieldLink RX5 15 "RecordsOffice$Hold" "folder" "I", Cond.fieldLink RX5 31 "RecordsOffice$Filed" "folder" "LRecordsOffice$Folder;", Cond.fieldLink RX5 36 "RecordsOffice$Folder" "number" "I", Cond.fieldLink RX5 19 "RecordsOffice$Hold" "cls" "I", Cond.fieldLink RX5 41 "RecordsOffice$Folder" "cls" "I", Cond.fieldLink RX5 22 "RecordsOffice$Hold" "key" "I", Cond.fieldLink RX5 25 "RecordsOffice$Hold" "first" "I", Cond.fieldLink RX5 28 "RecordsOffice$Hold" "last" "I", Cond.methodLink RX5 42 yX3_hasKey, Cond.instanceMethod yX3_hasKey, Cond.selects RX3 yX3_hasKey yX3_hasKey, Cond.initialized RX3, Cond.code yX3_hasKey cX3_hasKey 2 (some .boolean), Cond.fieldLink RX3 23 "RecordsOffice$Filed" "a" "I", Cond.fieldLink RX3 26 "RecordsOffice$Filed" "b" "I", Cond.fieldLink RX3 29 "RecordsOffice$Filed" "c" "I", Cond.methodLink RX5 46 yX3_isFiledFrom, Cond.instanceMethod yX3_isFiledFrom, Cond.selects RX3 yX3_isFiledFrom yX3_isFiledFrom, Cond.code yX3_isFiledFrom cX3_isFiledFrom 3 (some .boolean), Cond.fieldLink RX3 32 "RecordsOffice$Filed" "day" "I", Cond.methodLink RX7 174 yX7_dueDay]
def wsL_carry_r5 : List Cond := [Cond.instanceMethod yX7_dueDay, Cond.selects RX7 yX7_dueDay yX7_dueDay, Cond.code yX7_dueDay cX7_dueDay 3 (some .int), Cond.fieldLink RX7 15 "RecordsOffice" "schedules" "[LRecordsOffice$Schedule;", Cond.fieldLink RX7 177 "RecordsOffice$Filed" "folder" "LRecordsOffice$Folder;", Cond.fieldLink RX7 353 "RecordsOffice$Folder" "cls" "I", Cond.methodLink RX7 362 yX7_eventDay, Cond.instanceMethod yX7_eventDay, Cond.selects RX7 yX7_eventDay yX7_eventDay, Cond.code yX7_eventDay cX7_eventDay 2 (some .int), Cond.fieldLink RX7 356 "RecordsOffice$Schedule" "event" "I", Cond.fieldLink RX7 125 "RecordsOffice$Folder" "closedDay" "I", Cond.fieldLink RX7 133 "RecordsOffice$Folder" "leftDay" "I", Cond.fieldLink RX7 184 "RecordsOffice$Filed" "day" "I", Cond.fieldLink RX7 50 "RecordsOffice" "fiscalMonth" "I", Cond.methodLink RX7 359 yX1_fiscalEnd, Cond.static yX1_fiscalEnd, Cond.initialized RX1, Cond.code yX1_fiscalEnd cX1_fiscalEnd 4 (some .int), Cond.methodLink RX1 17 yX1_monthOf, Cond.static yX1_monthOf, Cond.code yX1_monthOf cX1_monthOf 2 (some .int), Cond.methodLink RX1 13 yX1_firstOf, Cond.static yX1_firstOf]
def wsL_carry_r6 : List Cond := [Cond.code yX1_firstOf cX1_firstOf 5 (some .int), Cond.fieldLink RX1 9 "RecordsOffice$Days" "BEFORE_MONTH" "[I", Cond.methodLink RX7 365 yX6_termFor, Cond.instanceMethod yX6_termFor, Cond.selects RX6 yX6_termFor yX6_termFor, Cond.initialized RX6, Cond.code yX6_termFor cX6_termFor 4 (some .int), Cond.fieldLink RX6 22 "RecordsOffice$Schedule" "size" "I", Cond.fieldLink RX6 9 "RecordsOffice$Schedule" "firstDays" "[I", Cond.fieldLink RX6 18 "RecordsOffice$Schedule" "forAll" "[Z", Cond.fieldLink RX6 15 "RecordsOffice$Schedule" "terms" "[I", Cond.methodLink RX7 315 yX1_plus, Cond.static yX1_plus, Cond.code yX1_plus cX1_plus 5 (some .int), Cond.methodLink RX1 20 Lib.Math.min.name, Cond.static Lib.Math.min.name, Cond.initialized "java/lang/Math", Cond.code Lib.Math.min.name Lib.Math.min.code 2 (some .int), Cond.methodLink RX7 272 yJ13_bitCount_95d88, Cond.static yJ13_bitCount_95d88, Cond.initialized RJ13, Cond.code yJ13_bitCount_95d88 cJ13_bitCount_95d88 2 (some .int), Cond.constantLong RJ13 314 (6148914691236517205), Cond.constantLong RJ13 316 (3689348814741910323)]
def wsL_carry_r7 : List Cond := [Cond.constantLong RJ13 318 (1085102592571150095), Cond.methodLink RX7 83 yX7_needRoom, Cond.instanceMethod yX7_needRoom, Cond.selects RX7 yX7_needRoom yX7_needRoom, Cond.code yX7_needRoom cX7_needRoom 2 none, Cond.fieldLink RX7 285 "RecordsOffice$Book" "size" "I", Cond.methodLink RX7 278 yX7_destroyAll, Cond.instanceMethod yX7_destroyAll, Cond.selects RX7 yX7_destroyAll yX7_destroyAll, Cond.code yX7_destroyAll cX7_destroyAll 6 none, Cond.fieldLink RX7 199 "RecordsOffice$Filed" "digest" "J", Cond.methodLink RX7 98 yX0_write, Cond.instanceMethod yX0_write, Cond.selects RX0 yX0_write yX0_write, Cond.initialized RX0, Cond.code yX0_write cX0_write 8 none, Cond.fieldLink RX0 19 "RecordsOffice$Book" "size" "I", Cond.fieldLink RX0 15 "RecordsOffice$Book" "links" "[J", Cond.methodLink RX0 23 yX0_setNumber, Cond.instanceMethod yX0_setNumber, Cond.selects RX0 yX0_setNumber yX0_setNumber, Cond.code yX0_setNumber cX0_setNumber 4 none, Cond.fieldLink RX0 11 "RecordsOffice$Book" "numbers" "[I", Cond.methodLink RX0 27 yX0_linkFor]
def wsL_carry_r8 : List Cond := [Cond.instanceMethod yX0_linkFor, Cond.selects RX0 yX0_linkFor yX0_linkFor, Cond.code yX0_linkFor cX0_linkFor 7 (some .long), Cond.methodLink RX0 31 yX0_number, Cond.instanceMethod yX0_number, Cond.selects RX0 yX0_number yX0_number, Cond.code yX0_number cX0_number 3 (some .int), Cond.methodLink RX0 35 yX0_mix, Cond.static yX0_mix, Cond.code yX0_mix cX0_mix 6 (some .long), Cond.constantLong RX0 39 (7046029254386353131), Cond.methodLink RX7 229 yX2_size, Cond.instanceMethod yX2_size, Cond.selects RX2 yX2_size yX2_size, Cond.code yX2_size cX2_size 1 (some .int), Cond.fieldLink RX2 19 "RecordsOffice$DueList" "members" "J", Cond.methodLink RX2 23 yJ13_bitCount_95d88]
def wsL_carry : List Cond := .codeWith yL_carry cL_carry 6 (some .int) [(0, 12, 15, 13), (0, 12, 19, 15), (0, 12, 23, 21)] :: ((wsL_carry_r1 ++ (wsL_carry_r2 ++ (wsL_carry_r3 ++ (wsL_carry_r4 ++ (wsL_carry_r5 ++ (wsL_carry_r6 ++ (wsL_carry_r7 ++ wsL_carry_r8))))))) ++ wsX20 ++ wsX70 ++ wsX30 ++ wsX50 ++ wsX40 ++ wsX60 ++ wsX00 ++ (vx_atS RX7 93 "java/lang/IllegalStateException" ["java/lang/RuntimeException", "java/lang/Exception"]).filter goodWord ++ (vx_atS RX7 113 "java/lang/IndexOutOfBoundsException" ["java/lang/RuntimeException", "java/lang/Exception"]).filter goodWord ++ (vx_atS RX7 64 "java/lang/IllegalArgumentException" ["java/lang/RuntimeException", "java/lang/Exception"]).filter goodWord)
def wsL_count : List Cond := .codeWith yL_count cL_count 4 (some .int) [(0, 9, 12, 15)] :: ([.classLink RL 15 "java/lang/IllegalArgumentException", .methodLink RL 82 yX7_count, .instanceMethod yX7_count, .selects RX7 yX7_count yX7_count, .initialized RX7, .code yX7_count cX7_count 2 (some .int), .classLink RX7 60 "java/lang/IllegalArgumentException", .initialized "java/lang/IllegalArgumentException", .fieldLink RX7 104 "RecordsOffice" "recordCount" "I", .fieldLink RX7 215 "RecordsOffice" "listCount" "I", .fieldLink RX7 46 "RecordsOffice" "book" "LRecordsOffice$Book;", .fieldLink RX7 285 "RecordsOffice$Book" "size" "I", .fieldLink RX7 130 "RecordsOffice" "today" "I", .methodLink RX7 286 yX7_bytesKept, .instanceMethod yX7_bytesKept, .selects RX7 yX7_bytesKept yX7_bytesKept, .code yX7_bytesKept cX7_bytesKept 3 (some .int), .fieldLink RX7 33 "RecordsOffice" "records" "[LRecordsOffice$Filed;", .fieldLink RX7 188 "RecordsOffice$Filed" "destroyed" "Z", .fieldLink RX7 187 "RecordsOffice$Filed" "size" "I"] ++ wsX70 ++ wsX00 ++ wsX30 ++ (vx_atS RX7 64 "java/lang/IllegalArgumentException" ["java/lang/RuntimeException", "java/lang/Exception"]).filter goodWord)
def wsL_act_r1 : List Cond := [Cond.classLink RL 13 "java/lang/IndexOutOfBoundsException", Cond.classLink RL 15 "java/lang/IllegalArgumentException", Cond.methodLink RL 85 yX7_act, Cond.instanceMethod yX7_act, Cond.selects RX7 yX7_act yX7_act, Cond.initialized RX7, Cond.code yX7_act cX7_act 3 (some .int), Cond.fieldLink RX7 46 "RecordsOffice" "book" "LRecordsOffice$Book;", Cond.methodLink RX7 291 yX7_needAct, Cond.instanceMethod yX7_needAct, Cond.selects RX7 yX7_needAct yX7_needAct, Cond.code yX7_needAct cX7_needAct 2 none, Cond.classLink RX7 109 "java/lang/IndexOutOfBoundsException", Cond.initialized "java/lang/IndexOutOfBoundsException", Cond.fieldLink RX7 285 "RecordsOffice$Book" "size" "I", Cond.methodLink RX7 294 yX7_needNumberOfAct, Cond.static yX7_needNumberOfAct, Cond.code yX7_needNumberOfAct cX7_needNumberOfAct 1 none, Cond.classLink RX7 60 "java/lang/IllegalArgumentException", Cond.initialized "java/lang/IllegalArgumentException", Cond.methodLink RX7 297 yX0_number, Cond.instanceMethod yX0_number, Cond.selects RX0 yX0_number yX0_number, Cond.initialized RX0]
def wsL_act_r2 : List Cond := [Cond.code yX0_number cX0_number 3 (some .int), Cond.fieldLink RX0 11 "RecordsOffice$Book" "numbers" "[I"]
def wsL_act : List Cond := .codeWith yL_act cL_act 5 (some .int) [(0, 10, 13, 13), (0, 10, 17, 15)] :: ((wsL_act_r1 ++ wsL_act_r2) ++ wsX70 ++ wsX00 ++ (vx_atS RX7 113 "java/lang/IndexOutOfBoundsException" ["java/lang/RuntimeException", "java/lang/Exception"]).filter goodWord ++ (vx_atS RX7 64 "java/lang/IllegalArgumentException" ["java/lang/RuntimeException", "java/lang/Exception"]).filter goodWord)
def wsL_link : List Cond := .codeWith yL_link cL_link 4 (some .int) [(0, 8, 11, 13)] :: ([.classLink RL 13 "java/lang/IndexOutOfBoundsException", .methodLink RL 88 yX7_link, .instanceMethod yX7_link, .selects RX7 yX7_link yX7_link, .initialized RX7, .code yX7_link cX7_link 2 (some .long), .fieldLink RX7 46 "RecordsOffice" "book" "LRecordsOffice$Book;", .fieldLink RX7 300 "RecordsOffice$Book" "links" "[J", .methodLink RX7 291 yX7_needAct, .instanceMethod yX7_needAct, .selects RX7 yX7_needAct yX7_needAct, .code yX7_needAct cX7_needAct 2 none, .classLink RX7 109 "java/lang/IndexOutOfBoundsException", .initialized "java/lang/IndexOutOfBoundsException", .fieldLink RX7 285 "RecordsOffice$Book" "size" "I"] ++ wsX70 ++ wsX00 ++ (vx_atS RX7 113 "java/lang/IndexOutOfBoundsException" ["java/lang/RuntimeException", "java/lang/Exception"]).filter goodWord)
def wsL_spoil_r1 : List Cond := [Cond.classLink RL 13 "java/lang/IndexOutOfBoundsException", Cond.classLink RL 15 "java/lang/IllegalArgumentException", Cond.methodLink RL 91 yX7_spoil, Cond.instanceMethod yX7_spoil, Cond.selects RX7 yX7_spoil yX7_spoil, Cond.initialized RX7, Cond.code yX7_spoil cX7_spoil 4 none, Cond.fieldLink RX7 46 "RecordsOffice" "book" "LRecordsOffice$Book;", Cond.methodLink RX7 291 yX7_needAct, Cond.instanceMethod yX7_needAct, Cond.selects RX7 yX7_needAct yX7_needAct, Cond.code yX7_needAct cX7_needAct 2 none, Cond.classLink RX7 109 "java/lang/IndexOutOfBoundsException", Cond.initialized "java/lang/IndexOutOfBoundsException", Cond.fieldLink RX7 285 "RecordsOffice$Book" "size" "I", Cond.methodLink RX7 294 yX7_needNumberOfAct, Cond.static yX7_needNumberOfAct, Cond.code yX7_needNumberOfAct cX7_needNumberOfAct 1 none, Cond.classLink RX7 60 "java/lang/IllegalArgumentException", Cond.initialized "java/lang/IllegalArgumentException", Cond.methodLink RX7 304 yX0_setNumber, Cond.instanceMethod yX0_setNumber, Cond.selects RX0 yX0_setNumber yX0_setNumber, Cond.initialized RX0]
def wsL_spoil_r2 : List Cond := [Cond.code yX0_setNumber cX0_setNumber 4 none, Cond.fieldLink RX0 11 "RecordsOffice$Book" "numbers" "[I"]
def wsL_spoil : List Cond := .codeWith yL_spoil cL_spoil 5 (some .int) [(0, 7, 10, 13), (0, 7, 14, 15)] :: ((wsL_spoil_r1 ++ wsL_spoil_r2) ++ wsX70 ++ wsX00 ++ (vx_atS RX7 113 "java/lang/IndexOutOfBoundsException" ["java/lang/RuntimeException", "java/lang/Exception"]).filter goodWord ++ (vx_atS RX7 64 "java/lang/IllegalArgumentException" ["java/lang/RuntimeException", "java/lang/Exception"]).filter goodWord)
def wsL_later_r1 : List Cond := [Cond.classLink RL 15 "java/lang/IllegalArgumentException", Cond.methodLink RL 95 yX7_later, Cond.instanceMethod yX7_later, Cond.selects RX7 yX7_later yX7_later, Cond.initialized RX7, Cond.code yX7_later cX7_later 4 (some .int), Cond.methodLink RX7 74 yX7_needDay, Cond.static yX7_needDay, Cond.code yX7_needDay cX7_needDay 1 none, Cond.classLink RX7 60 "java/lang/IllegalArgumentException", Cond.initialized "java/lang/IllegalArgumentException", Cond.constant RX7 334 (120000), Cond.methodLink RX7 70 yX7_needTerm, Cond.static yX7_needTerm, Cond.code yX7_needTerm cX7_needTerm 2 none, Cond.methodLink RX7 315 yX1_plus, Cond.static yX1_plus, Cond.initialized RX1, Cond.code yX1_plus cX1_plus 5 (some .int), Cond.methodLink RX1 20 Lib.Math.min.name, Cond.static Lib.Math.min.name, Cond.initialized "java/lang/Math", Cond.code Lib.Math.min.name Lib.Math.min.code 2 (some .int), Cond.methodLink RX1 17 yX1_monthOf]
def wsL_later_r2 : List Cond := [Cond.static yX1_monthOf, Cond.code yX1_monthOf cX1_monthOf 2 (some .int), Cond.methodLink RX1 13 yX1_firstOf, Cond.static yX1_firstOf, Cond.code yX1_firstOf cX1_firstOf 5 (some .int), Cond.fieldLink RX1 9 "RecordsOffice$Days" "BEFORE_MONTH" "[I"]
def wsL_later : List Cond := .codeWith yL_later cL_later 6 (some .int) [(0, 12, 15, 15)] :: ((wsL_later_r1 ++ wsL_later_r2) ++ (vx_atS RX7 64 "java/lang/IllegalArgumentException" ["java/lang/RuntimeException", "java/lang/Exception"]).filter goodWord)
def wsL_law0_r1 : List Cond := [Cond.classLink RL 8 RX7, Cond.instantiable RX7 11, Cond.initialized RX7, Cond.classLink RL 99 RX8, Cond.instantiable RX8 34, Cond.initialized RX8, Cond.arrayClass .long, Cond.constantLong RL 129 (4294967295), Cond.methodLink RL 98 yX7_init, Cond.instanceMethod yX7_init, Cond.code yX7_init cX7_init 2 none, Cond.methodLink RX7 1 objectInit, Cond.instanceMethod objectInit, Cond.code objectInit ⟨#[0xb1]⟩ 1 none, Cond.arrayClass .int, Cond.fieldLink RX7 9 "RecordsOffice" "rights" "[I", Cond.classLink RX7 13 RX6, Cond.fieldLink RX7 15 "RecordsOffice" "schedules" "[LRecordsOffice$Schedule;", Cond.classLink RX7 19 RX4, Cond.fieldLink RX7 21 "RecordsOffice" "folders" "[LRecordsOffice$Folder;", Cond.classLink RX7 25 RX5, Cond.fieldLink RX7 27 "RecordsOffice" "holds" "[LRecordsOffice$Hold;", Cond.classLink RX7 31 RX3, Cond.fieldLink RX7 33 "RecordsOffice" "records" "[LRecordsOffice$Filed;"]
def wsL_law0_r2 : List Cond := [Cond.classLink RX7 37 RX2, Cond.fieldLink RX7 39 "RecordsOffice" "lists" "[LRecordsOffice$DueList;", Cond.classLink RX7 43 RX0, Cond.instantiable RX0 3, Cond.initialized RX0, Cond.fieldLink RX7 46 "RecordsOffice" "book" "LRecordsOffice$Book;", Cond.fieldLink RX7 50 "RecordsOffice" "fiscalMonth" "I", Cond.instantiable RX6 5, Cond.initialized RX6, Cond.instantiable RX5 6, Cond.initialized RX5, Cond.instanceMethod yX0_init, Cond.code yX0_init cX0_init 1 none, Cond.methodLink RX0 3 objectInit, Cond.fieldLink RX0 11 "RecordsOffice$Book" "numbers" "[I", Cond.fieldLink RX0 15 "RecordsOffice$Book" "links" "[J", Cond.instanceMethod yX6_init, Cond.code yX6_init cX6_init 1 none, Cond.methodLink RX6 3 objectInit, Cond.fieldLink RX6 9 "RecordsOffice$Schedule" "firstDays" "[I", Cond.fieldLink RX6 15 "RecordsOffice$Schedule" "terms" "[I", Cond.arrayClass .boolean, Cond.fieldLink RX6 18 "RecordsOffice$Schedule" "forAll" "[Z", Cond.instanceMethod yX5_init]
def wsL_law0_r3 : List Cond := [Cond.code yX5_init cX5_init 1 none, Cond.methodLink RX5 3 objectInit, Cond.methodLink RL 101 yX8_init, Cond.instanceMethod yX8_init, Cond.code yX8_init cX8_init 1 none, Cond.methodLink RX8 1 objectInit, Cond.fieldLink RX8 7 "RecordsOfficeModel" "rights" "[I", Cond.fieldLink RX8 13 "RecordsOfficeModel" "fiscal" "I", Cond.fieldLink RX8 17 "RecordsOfficeModel" "events" "[I", Cond.fieldLink RX8 20 "RecordsOfficeModel" "versions" "[I", Cond.fieldLink RX8 23 "RecordsOfficeModel" "terms" "[I", Cond.fieldLink RX8 26 "RecordsOfficeModel" "begins" "[I", Cond.fieldLink RX8 29 "RecordsOfficeModel" "forAll" "[Z", Cond.fieldLink RX8 33 "RecordsOfficeModel" "classes" "[I", Cond.fieldLink RX8 36 "RecordsOfficeModel" "closed" "[I", Cond.fieldLink RX8 39 "RecordsOfficeModel" "gone" "[I", Cond.fieldLink RX8 42 "RecordsOfficeModel" "folders" "[I", Cond.fieldLink RX8 45 "RecordsOfficeModel" "days" "[I", Cond.fieldLink RX8 48 "RecordsOfficeModel" "sizes" "[I", Cond.fieldLink RX8 51 "RecordsOfficeModel" "digests" "[J", Cond.fieldLink RX8 55 "RecordsOfficeModel" "keys" "[I", Cond.fieldLink RX8 58 "RecordsOfficeModel" "destroyed" "[Z", Cond.fieldLink RX8 61 "RecordsOfficeModel" "placed" "[Z", Cond.fieldLink RX8 64 "RecordsOfficeModel" "holdFolders" "[I"]
def wsL_law0_r4 : List Cond := [Cond.fieldLink RX8 67 "RecordsOfficeModel" "holdClasses" "[I", Cond.fieldLink RX8 70 "RecordsOfficeModel" "holdKeys" "[I", Cond.fieldLink RX8 73 "RecordsOfficeModel" "holdFirsts" "[I", Cond.fieldLink RX8 76 "RecordsOfficeModel" "holdLasts" "[I", Cond.fieldLink RX8 79 "RecordsOfficeModel" "listed" "[I", Cond.fieldLink RX8 82 "RecordsOfficeModel" "lengths" "[I", Cond.fieldLink RX8 85 "RecordsOfficeModel" "drawers" "[I", Cond.fieldLink RX8 88 "RecordsOfficeModel" "approved" "[I", Cond.fieldLink RX8 91 "RecordsOfficeModel" "carried" "[Z", Cond.fieldLink RX8 94 "RecordsOfficeModel" "numbers" "[I", Cond.fieldLink RX8 97 "RecordsOfficeModel" "links" "[J", Cond.methodLink RL 102 yL_officer, Cond.static yL_officer, Cond.initialized RL, Cond.codeWith yL_officer cL_officer 4 (some .int) [(0, 6, 9, 13), (0, 6, 12, 15)], Cond.classLink RL 13 "java/lang/IndexOutOfBoundsException", Cond.classLink RL 15 "java/lang/IllegalArgumentException", Cond.methodLink RL 7 yX7_officer, Cond.instanceMethod yX7_officer, Cond.selects RX7 yX7_officer yX7_officer, Cond.code yX7_officer cX7_officer 3 none, Cond.classLink RX7 60 "java/lang/IllegalArgumentException", Cond.initialized "java/lang/IllegalArgumentException", Cond.methodLink RX7 56 yX7_needOfficer]
def wsL_law0_r5 : List Cond := [Cond.static yX7_needOfficer, Cond.code yX7_needOfficer cX7_needOfficer 1 none, Cond.classLink RX7 109 "java/lang/IndexOutOfBoundsException", Cond.initialized "java/lang/IndexOutOfBoundsException", Cond.methodLink RL 107 yX8_officer, Cond.instanceMethod yX8_officer, Cond.selects RX8 yX8_officer yX8_officer, Cond.code yX8_officer cX8_officer 3 none, Cond.fieldLink RX8 100 "RecordsOfficeModel" "thrown" "I", Cond.methodLink RX8 114 yX8_isIn, Cond.static yX8_isIn, Cond.code yX8_isIn cX8_isIn 3 (some .boolean), Cond.methodLink RL 108 yX8_thrown, Cond.instanceMethod yX8_thrown, Cond.selects RX8 yX8_thrown yX8_thrown, Cond.code yX8_thrown cX8_thrown 1 (some .int), Cond.methodLink RL 112 yL_version, Cond.static yL_version, Cond.codeWith yL_version cL_version 9 (some .int) [(0, 18, 21, 13), (0, 18, 25, 15), (0, 18, 29, 21)], Cond.classLink RL 21 "java/lang/IllegalStateException", Cond.methodLink RL 17 yX7_version, Cond.instanceMethod yX7_version, Cond.selects RX7 yX7_version yX7_version, Cond.code yX7_version cX7_version 9 (some .int)]
def wsL_law0_r6 : List Cond := [Cond.classLink RX7 89 "java/lang/IllegalStateException", Cond.initialized "java/lang/IllegalStateException", Cond.fieldLink RX7 86 "RecordsOffice$Schedule" "size" "I", Cond.methodLink RX7 67 yX7_needClass, Cond.static yX7_needClass, Cond.code yX7_needClass cX7_needClass 1 none, Cond.methodLink RX7 70 yX7_needTerm, Cond.static yX7_needTerm, Cond.code yX7_needTerm cX7_needTerm 2 none, Cond.methodLink RX7 74 yX7_needDay, Cond.static yX7_needDay, Cond.code yX7_needDay cX7_needDay 1 none, Cond.constant RX7 334 (120000), Cond.methodLink RX7 77 yX6_goesOnWith, Cond.instanceMethod yX6_goesOnWith, Cond.selects RX6 yX6_goesOnWith yX6_goesOnWith, Cond.code yX6_goesOnWith cX6_goesOnWith 3 (some .boolean), Cond.fieldLink RX6 22 "RecordsOffice$Schedule" "size" "I", Cond.fieldLink RX6 26 "RecordsOffice$Schedule" "event" "I", Cond.methodLink RX7 83 yX7_needRoom, Cond.instanceMethod yX7_needRoom, Cond.selects RX7 yX7_needRoom yX7_needRoom, Cond.code yX7_needRoom cX7_needRoom 2 none, Cond.fieldLink RX7 285 "RecordsOffice$Book" "size" "I"]
def wsL_law0_r7 : List Cond := [Cond.methodLink RX7 94 yX6_add, Cond.instanceMethod yX6_add, Cond.selects RX6 yX6_add yX6_add, Cond.code yX6_add cX6_add 5 none, Cond.methodLink RX7 98 yX0_write, Cond.instanceMethod yX0_write, Cond.selects RX0 yX0_write yX0_write, Cond.code yX0_write cX0_write 8 none, Cond.fieldLink RX0 19 "RecordsOffice$Book" "size" "I", Cond.methodLink RX0 23 yX0_setNumber, Cond.instanceMethod yX0_setNumber, Cond.selects RX0 yX0_setNumber yX0_setNumber, Cond.code yX0_setNumber cX0_setNumber 4 none, Cond.methodLink RX0 27 yX0_linkFor, Cond.instanceMethod yX0_linkFor, Cond.selects RX0 yX0_linkFor yX0_linkFor, Cond.code yX0_linkFor cX0_linkFor 7 (some .long), Cond.methodLink RX0 31 yX0_number, Cond.instanceMethod yX0_number, Cond.selects RX0 yX0_number yX0_number, Cond.code yX0_number cX0_number 3 (some .int), Cond.methodLink RX0 35 yX0_mix, Cond.static yX0_mix, Cond.code yX0_mix cX0_mix 6 (some .long)]
def wsL_law0_r8 : List Cond := [Cond.constantLong RX0 39 (7046029254386353131), Cond.methodLink RL 115 yX8_version, Cond.instanceMethod yX8_version, Cond.selects RX8 yX8_version yX8_version, Cond.code yX8_version cX8_version 8 (some .int), Cond.methodLink RX8 145 yX8_isVersion, Cond.instanceMethod yX8_isVersion, Cond.selects RX8 yX8_isVersion yX8_isVersion, Cond.code yX8_isVersion cX8_isVersion 8 (some .boolean), Cond.constant RX8 118 (120000), Cond.methodLink RX8 119 yX8_isTerm, Cond.static yX8_isTerm, Cond.code yX8_isTerm cX8_isTerm 2 (some .boolean), Cond.methodLink RX8 149 yX8_hasRoom, Cond.instanceMethod yX8_hasRoom, Cond.selects RX8 yX8_hasRoom yX8_hasRoom, Cond.code yX8_hasRoom cX8_hasRoom 2 (some .boolean), Cond.fieldLink RX8 138 "RecordsOfficeModel" "acts" "I", Cond.methodLink RX8 153 yX8_write, Cond.instanceMethod yX8_write, Cond.selects RX8 yX8_write yX8_write, Cond.code yX8_write cX8_write 5 none, Cond.methodLink RX8 141 yX8_linkOf, Cond.instanceMethod yX8_linkOf]
def wsL_law0_r9 : List Cond := [Cond.selects RX8 yX8_linkOf yX8_linkOf, Cond.code yX8_linkOf cX8_linkOf 6 (some .long), Cond.fieldLink RX8 135 "RecordsOfficeModel" "records" "I", Cond.methodLink RX8 131 yX8_linked, Cond.static yX8_linked, Cond.code yX8_linked cX8_linked 6 (some .long), Cond.constantLong RX8 129 (7046029254386353131), Cond.methodLink RL 116 yL_fiscal, Cond.static yL_fiscal, Cond.codeWith yL_fiscal cL_fiscal 3 (some .int) [(0, 5, 8, 15), (0, 5, 11, 21)], Cond.methodLink RL 23 yX7_fiscal, Cond.instanceMethod yX7_fiscal, Cond.selects RX7 yX7_fiscal yX7_fiscal, Cond.code yX7_fiscal cX7_fiscal 2 none, Cond.fieldLink RX7 104 "RecordsOffice" "recordCount" "I", Cond.methodLink RL 119 yX8_fiscal, Cond.instanceMethod yX8_fiscal, Cond.selects RX8 yX8_fiscal yX8_fiscal, Cond.code yX8_fiscal cX8_fiscal 2 none, Cond.methodLink RL 120 yL_open, Cond.static yL_open, Cond.codeWith yL_open cL_open 4 (some .int) [(0, 6, 9, 13), (0, 6, 12, 21)], Cond.methodLink RL 27 yX7_open, Cond.instanceMethod yX7_open]
def wsL_law0_r10 : List Cond := [Cond.selects RX7 yX7_open yX7_open, Cond.code yX7_open cX7_open 3 none, Cond.instantiable RX4 4, Cond.initialized RX4, Cond.methodLink RX7 116 yX4_init, Cond.instanceMethod yX4_init, Cond.code yX4_init cX4_init 3 none, Cond.methodLink RX4 3 objectInit, Cond.fieldLink RX4 9 "RecordsOffice$Folder" "closedDay" "I", Cond.fieldLink RX4 15 "RecordsOffice$Folder" "leftDay" "I", Cond.fieldLink RX4 18 "RecordsOffice$Folder" "number" "I", Cond.fieldLink RX4 21 "RecordsOffice$Folder" "cls" "I", Cond.methodLink RL 122 yX8_open, Cond.instanceMethod yX8_open, Cond.selects RX8 yX8_open yX8_open, Cond.code yX8_open cX8_open 4 none, Cond.methodLink RL 123 yL_close, Cond.static yL_close, Cond.codeWith yL_close cL_close 4 (some .int) [(0, 6, 9, 13), (0, 6, 12, 15), (0, 6, 15, 21)], Cond.methodLink RL 30 yX7_close, Cond.instanceMethod yX7_close, Cond.selects RX7 yX7_close yX7_close, Cond.code yX7_close cX7_close 4 none, Cond.fieldLink RX7 125 "RecordsOffice$Folder" "closedDay" "I"]
def wsL_law0_r11 : List Cond := [Cond.fieldLink RX7 130 "RecordsOffice" "today" "I", Cond.methodLink RX7 118 yX7_folderAt, Cond.instanceMethod yX7_folderAt, Cond.selects RX7 yX7_folderAt yX7_folderAt, Cond.code yX7_folderAt cX7_folderAt 2 (some (.object "RecordsOffice$Folder")), Cond.methodLink RX7 122 yX7_needDayOfAct, Cond.instanceMethod yX7_needDayOfAct, Cond.selects RX7 yX7_needDayOfAct yX7_needDayOfAct, Cond.code yX7_needDayOfAct cX7_needDayOfAct 2 none, Cond.methodLink RL 125 yX8_close, Cond.instanceMethod yX8_close, Cond.selects RX8 yX8_close yX8_close, Cond.code yX8_close cX8_close 3 none, Cond.fieldLink RX8 126 "RecordsOfficeModel" "today" "I", Cond.methodLink RX8 157 yX8_noFolder, Cond.instanceMethod yX8_noFolder, Cond.selects RX8 yX8_noFolder yX8_noFolder, Cond.code yX8_noFolder cX8_noFolder 2 (some .boolean), Cond.methodLink RX8 160 yX8_isDay, Cond.instanceMethod yX8_isDay, Cond.selects RX8 yX8_isDay yX8_isDay, Cond.code yX8_isDay cX8_isDay 2 (some .boolean), Cond.methodLink RL 126 yL_left, Cond.static yL_left]
def wsL_law0_r12 : List Cond := [Cond.codeWith yL_left cL_left 4 (some .int) [(0, 6, 9, 13), (0, 6, 12, 15), (0, 6, 15, 21)], Cond.methodLink RL 33 yX7_left, Cond.instanceMethod yX7_left, Cond.selects RX7 yX7_left yX7_left, Cond.code yX7_left cX7_left 4 none, Cond.fieldLink RX7 133 "RecordsOffice$Folder" "leftDay" "I", Cond.methodLink RL 128 yX8_left, Cond.instanceMethod yX8_left, Cond.selects RX8 yX8_left yX8_left, Cond.code yX8_left cX8_left 3 none, Cond.methodLink RL 131 yL_file, Cond.static yL_file, Cond.codeWith yL_file cL_file 11 (some .int) [(0, 20, 23, 13), (0, 20, 27, 15), (0, 20, 31, 21)], Cond.methodLink RL 36 yX7_file, Cond.instanceMethod yX7_file, Cond.selects RX7 yX7_file yX7_file, Cond.code yX7_file cX7_file 11 (some .int), Cond.constant RX7 141 (65536), Cond.instantiable RX3 8, Cond.initialized RX3, Cond.methodLink RX7 138 yX7_needKeyOrNone, Cond.static yX7_needKeyOrNone, Cond.code yX7_needKeyOrNone cX7_needKeyOrNone 1 none, Cond.methodLink RX7 146 yX3_init]
def wsL_law0_r13 : List Cond := [Cond.instanceMethod yX3_init, Cond.code yX3_init cX3_init 9 none, Cond.methodLink RX3 3 objectInit, Cond.fieldLink RX3 9 "RecordsOffice$Filed" "folder" "LRecordsOffice$Folder;", Cond.fieldLink RX3 15 "RecordsOffice$Filed" "size" "I", Cond.fieldLink RX3 19 "RecordsOffice$Filed" "digest" "J", Cond.fieldLink RX3 23 "RecordsOffice$Filed" "a" "I", Cond.fieldLink RX3 26 "RecordsOffice$Filed" "b" "I", Cond.fieldLink RX3 29 "RecordsOffice$Filed" "c" "I", Cond.fieldLink RX3 32 "RecordsOffice$Filed" "day" "I", Cond.methodLink RL 134 yX8_file, Cond.instanceMethod yX8_file, Cond.selects RX8 yX8_file yX8_file, Cond.code yX8_file cX8_file 11 (some .int), Cond.constant RX8 163 (65536), Cond.methodLink RL 135 yL_hold, Cond.static yL_hold, Cond.codeWith yL_hold cL_hold 8 (some .int) [(0, 13, 16, 13), (0, 13, 20, 15), (0, 13, 24, 21)], Cond.methodLink RL 40 yX7_hold, Cond.instanceMethod yX7_hold, Cond.selects RX7 yX7_hold yX7_hold, Cond.code yX7_hold cX7_hold 7 none, Cond.fieldLink RX7 154 "RecordsOffice$Hold" "placed" "Z", Cond.methodLink RX7 149 yX7_needHold]
def wsL_law0_r14 : List Cond := [Cond.static yX7_needHold, Cond.code yX7_needHold cX7_needHold 1 none, Cond.methodLink RX7 160 yX5_place, Cond.instanceMethod yX5_place, Cond.selects RX5 yX5_place yX5_place, Cond.code yX5_place cX5_place 6 none, Cond.fieldLink RX5 9 "RecordsOffice$Hold" "placed" "Z", Cond.fieldLink RX5 15 "RecordsOffice$Hold" "folder" "I", Cond.fieldLink RX5 19 "RecordsOffice$Hold" "cls" "I", Cond.fieldLink RX5 22 "RecordsOffice$Hold" "key" "I", Cond.fieldLink RX5 25 "RecordsOffice$Hold" "first" "I", Cond.fieldLink RX5 28 "RecordsOffice$Hold" "last" "I", Cond.methodLink RL 138 yX8_hold, Cond.instanceMethod yX8_hold, Cond.selects RX8 yX8_hold yX8_hold, Cond.code yX8_hold cX8_hold 9 none, Cond.methodLink RL 139 yL_lift, Cond.static yL_lift, Cond.codeWith yL_lift cL_lift 3 (some .int) [(0, 5, 8, 13), (0, 5, 11, 21)], Cond.methodLink RL 44 yX7_lift, Cond.instanceMethod yX7_lift, Cond.selects RX7 yX7_lift yX7_lift, Cond.code yX7_lift cX7_lift 2 none, Cond.methodLink RL 141 yX8_lift]
def wsL_law0_r15 : List Cond := [Cond.instanceMethod yX8_lift, Cond.selects RX8 yX8_lift yX8_lift, Cond.code yX8_lift cX8_lift 2 none, Cond.methodLink RL 142 yL_covered, Cond.static yL_covered, Cond.codeWith yL_covered cL_covered 4 (some .int) [(0, 9, 12, 13)], Cond.methodLink RL 47 yX7_covered, Cond.instanceMethod yX7_covered, Cond.selects RX7 yX7_covered yX7_covered, Cond.code yX7_covered cX7_covered 2 (some .int), Cond.methodLink RX7 166 yX7_recordAt, Cond.instanceMethod yX7_recordAt, Cond.selects RX7 yX7_recordAt yX7_recordAt, Cond.code yX7_recordAt cX7_recordAt 2 (some (.object "RecordsOffice$Filed")), Cond.methodLink RX7 170 yX7_holdsOver, Cond.instanceMethod yX7_holdsOver, Cond.selects RX7 yX7_holdsOver yX7_holdsOver, Cond.code yX7_holdsOver cX7_holdsOver 4 (some .int), Cond.methodLink RX7 349 yX5_covers, Cond.instanceMethod yX5_covers, Cond.selects RX5 yX5_covers yX5_covers, Cond.code yX5_covers cX5_covers 2 (some .boolean), Cond.fieldLink RX5 31 "RecordsOffice$Filed" "folder" "LRecordsOffice$Folder;", Cond.fieldLink RX5 36 "RecordsOffice$Folder" "number" "I"]
def wsL_law0_r16 : List Cond := [Cond.fieldLink RX5 41 "RecordsOffice$Folder" "cls" "I", Cond.methodLink RX5 42 yX3_hasKey, Cond.instanceMethod yX3_hasKey, Cond.selects RX3 yX3_hasKey yX3_hasKey, Cond.code yX3_hasKey cX3_hasKey 2 (some .boolean), Cond.methodLink RX5 46 yX3_isFiledFrom, Cond.instanceMethod yX3_isFiledFrom, Cond.selects RX3 yX3_isFiledFrom yX3_isFiledFrom, Cond.code yX3_isFiledFrom cX3_isFiledFrom 3 (some .boolean), Cond.methodLink RL 145 yX8_covered, Cond.instanceMethod yX8_covered, Cond.selects RX8 yX8_covered yX8_covered, Cond.code yX8_covered cX8_covered 2 (some .int), Cond.methodLink RX8 179 yX8_noRecord, Cond.instanceMethod yX8_noRecord, Cond.selects RX8 yX8_noRecord yX8_noRecord, Cond.code yX8_noRecord cX8_noRecord 2 (some .boolean), Cond.methodLink RX8 176 yX8_holds, Cond.instanceMethod yX8_holds, Cond.selects RX8 yX8_holds yX8_holds, Cond.code yX8_holds cX8_holds 7 (some .int), Cond.methodLink RX8 164 yX8_hasKey, Cond.instanceMethod yX8_hasKey, Cond.selects RX8 yX8_hasKey yX8_hasKey]
def wsL_law0_r17 : List Cond := [Cond.code yX8_hasKey cX8_hasKey 3 (some .boolean), Cond.methodLink RL 146 yL_due, Cond.static yL_due, Cond.codeWith yL_due cL_due 4 (some .int) [(0, 9, 12, 13)], Cond.methodLink RL 51 yX7_due, Cond.instanceMethod yX7_due, Cond.selects RX7 yX7_due yX7_due, Cond.code yX7_due cX7_due 2 (some .int), Cond.methodLink RX7 174 yX7_dueDay, Cond.instanceMethod yX7_dueDay, Cond.selects RX7 yX7_dueDay yX7_dueDay, Cond.code yX7_dueDay cX7_dueDay 3 (some .int), Cond.fieldLink RX7 177 "RecordsOffice$Filed" "folder" "LRecordsOffice$Folder;", Cond.fieldLink RX7 353 "RecordsOffice$Folder" "cls" "I", Cond.methodLink RX7 362 yX7_eventDay, Cond.instanceMethod yX7_eventDay, Cond.selects RX7 yX7_eventDay yX7_eventDay, Cond.code yX7_eventDay cX7_eventDay 2 (some .int), Cond.fieldLink RX7 356 "RecordsOffice$Schedule" "event" "I", Cond.fieldLink RX7 184 "RecordsOffice$Filed" "day" "I", Cond.methodLink RX7 359 yX1_fiscalEnd, Cond.static yX1_fiscalEnd, Cond.initialized RX1, Cond.code yX1_fiscalEnd cX1_fiscalEnd 4 (some .int)]
def wsL_law0_r18 : List Cond := [Cond.methodLink RX1 17 yX1_monthOf, Cond.static yX1_monthOf, Cond.code yX1_monthOf cX1_monthOf 2 (some .int), Cond.methodLink RX1 13 yX1_firstOf, Cond.static yX1_firstOf, Cond.code yX1_firstOf cX1_firstOf 5 (some .int), Cond.fieldLink RX1 9 "RecordsOffice$Days" "BEFORE_MONTH" "[I", Cond.methodLink RX7 365 yX6_termFor, Cond.instanceMethod yX6_termFor, Cond.selects RX6 yX6_termFor yX6_termFor, Cond.code yX6_termFor cX6_termFor 4 (some .int), Cond.methodLink RX7 315 yX1_plus, Cond.static yX1_plus, Cond.code yX1_plus cX1_plus 5 (some .int), Cond.methodLink RX1 20 Lib.Math.min.name, Cond.static Lib.Math.min.name, Cond.initialized "java/lang/Math", Cond.code Lib.Math.min.name Lib.Math.min.code 2 (some .int), Cond.methodLink RL 148 yX8_due, Cond.instanceMethod yX8_due, Cond.selects RX8 yX8_due yX8_due, Cond.code yX8_due cX8_due 2 (some .int), Cond.methodLink RX8 173 yX8_dueOf, Cond.instanceMethod yX8_dueOf]
def wsL_law0_r19 : List Cond := [Cond.selects RX8 yX8_dueOf yX8_dueOf, Cond.code yX8_dueOf cX8_dueOf 5 (some .int), Cond.methodLink RX8 167 yX8_fiscalEnd, Cond.instanceMethod yX8_fiscalEnd, Cond.selects RX8 yX8_fiscalEnd yX8_fiscalEnd, Cond.code yX8_fiscalEnd cX8_fiscalEnd 3 (some .int), Cond.methodLink RX8 107 yX8_monthOf, Cond.static yX8_monthOf, Cond.code yX8_monthOf cX8_monthOf 3 (some .int), Cond.methodLink RX8 103 yX8_inMonth, Cond.static yX8_inMonth, Cond.code yX8_inMonth cX8_inMonth 3 (some .int), Cond.methodLink RX8 111 yX8_begin, Cond.static yX8_begin, Cond.code yX8_begin cX8_begin 3 (some .int), Cond.methodLink RX8 170 yX8_termFor, Cond.instanceMethod yX8_termFor, Cond.selects RX8 yX8_termFor yX8_termFor, Cond.code yX8_termFor cX8_termFor 6 (some .int), Cond.methodLink RX8 123 yX8_add, Cond.static yX8_add, Cond.code yX8_add cX8_add 6 (some .int), Cond.methodLink RL 149 yL_record, Cond.static yL_record]
def wsL_law0_r20 : List Cond := [Cond.codeWith yL_record cL_record 5 (some .int) [(0, 10, 13, 13), (0, 10, 17, 15)], Cond.methodLink RL 54 yX7_record, Cond.instanceMethod yX7_record, Cond.selects RX7 yX7_record yX7_record, Cond.code yX7_record cX7_record 4 (some .int), Cond.fieldLink RX7 181 "RecordsOffice$Folder" "number" "I", Cond.fieldLink RX7 187 "RecordsOffice$Filed" "size" "I", Cond.fieldLink RX7 188 "RecordsOffice$Filed" "destroyed" "Z", Cond.methodLink RX7 191 yX3_keyCount, Cond.instanceMethod yX3_keyCount, Cond.selects RX3 yX3_keyCount yX3_keyCount, Cond.code yX3_keyCount cX3_keyCount 2 (some .int), Cond.methodLink RL 152 yX8_record, Cond.instanceMethod yX8_record, Cond.selects RX8 yX8_record yX8_record, Cond.code yX8_record cX8_record 3 (some .int), Cond.methodLink RX8 182 yX8_keyCount, Cond.instanceMethod yX8_keyCount, Cond.selects RX8 yX8_keyCount yX8_keyCount, Cond.code yX8_keyCount cX8_keyCount 4 (some .int), Cond.methodLink RL 153 yL_read, Cond.static yL_read, Cond.codeWith yL_read cL_read 4 (some .int) [(0, 8, 11, 13), (0, 8, 14, 21)], Cond.methodLink RL 58 yX7_read]
def wsL_law0_r21 : List Cond := [Cond.instanceMethod yX7_read, Cond.selects RX7 yX7_read yX7_read, Cond.code yX7_read cX7_read 3 (some .long), Cond.fieldLink RX7 199 "RecordsOffice$Filed" "digest" "J", Cond.methodLink RL 155 yX8_read, Cond.instanceMethod yX8_read, Cond.selects RX8 yX8_read yX8_read, Cond.code yX8_read cX8_read 2 (some .long), Cond.methodLink RL 156 yL_find, Cond.static yL_find, Cond.codeWith yL_find cL_find 7 (some .int) [(0, 14, 17, 15)], Cond.methodLink RL 62 yX7_find, Cond.instanceMethod yX7_find, Cond.selects RX7 yX7_find yX7_find, Cond.code yX7_find cX7_find 8 (some .int), Cond.methodLink RX7 205 yX3_hasKey, Cond.methodLink RX7 209 yX3_isFiledFrom, Cond.methodLink RL 159 yX8_find, Cond.instanceMethod yX8_find, Cond.selects RX8 yX8_find yX8_find, Cond.code yX8_find cX8_find 7 (some .int), Cond.methodLink RL 160 yL_draw, Cond.static yL_draw, Cond.codeWith yL_draw cL_draw 5 (some .int) [(0, 10, 13, 13), (0, 10, 17, 15), (0, 10, 21, 21)]]
def wsL_law0_r22 : List Cond := [Cond.methodLink RL 66 yX7_draw, Cond.instanceMethod yX7_draw, Cond.selects RX7 yX7_draw yX7_draw, Cond.code yX7_draw cX7_draw 6 (some .int), Cond.fieldLink RX7 215 "RecordsOffice" "listCount" "I", Cond.instantiable RX2 4, Cond.initialized RX2, Cond.methodLink RX7 212 yX7_needRight, Cond.instanceMethod yX7_needRight, Cond.selects RX7 yX7_needRight yX7_needRight, Cond.code yX7_needRight cX7_needRight 3 none, Cond.methodLink RX7 220 yX7_ripeOn, Cond.instanceMethod yX7_ripeOn, Cond.selects RX7 yX7_ripeOn yX7_ripeOn, Cond.code yX7_ripeOn cX7_ripeOn 7 (some .long), Cond.methodLink RX7 226 yX2_init, Cond.instanceMethod yX2_init, Cond.code yX2_init cX2_init 4 none, Cond.methodLink RX2 3 objectInit, Cond.fieldLink RX2 9 "RecordsOffice$DueList" "isOpen" "Z", Cond.fieldLink RX2 15 "RecordsOffice$DueList" "drawnBy" "I", Cond.fieldLink RX2 19 "RecordsOffice$DueList" "members" "J", Cond.methodLink RX7 229 yX2_size, Cond.instanceMethod yX2_size]
def wsL_law0_r23 : List Cond := [Cond.selects RX2 yX2_size yX2_size, Cond.code yX2_size cX2_size 1 (some .int), Cond.methodLink RX2 23 yJ13_bitCount_95d88, Cond.static yJ13_bitCount_95d88, Cond.initialized RJ13, Cond.code yJ13_bitCount_95d88 cJ13_bitCount_95d88 2 (some .int), Cond.constantLong RJ13 314 (6148914691236517205), Cond.constantLong RJ13 316 (3689348814741910323), Cond.constantLong RJ13 318 (1085102592571150095), Cond.methodLink RL 162 yX8_draw, Cond.instanceMethod yX8_draw, Cond.selects RX8 yX8_draw yX8_draw, Cond.code yX8_draw cX8_draw 6 (some .int), Cond.fieldLink RX8 185 "RecordsOfficeModel" "lists" "I", Cond.methodLink RX8 188 yX8_mayGo, Cond.instanceMethod yX8_mayGo, Cond.selects RX8 yX8_mayGo yX8_mayGo, Cond.code yX8_mayGo cX8_mayGo 4 (some .boolean), Cond.methodLink RX8 191 yX8_noOfficer, Cond.instanceMethod yX8_noOfficer, Cond.selects RX8 yX8_noOfficer yX8_noOfficer, Cond.code yX8_noOfficer cX8_noOfficer 2 (some .boolean), Cond.methodLink RX8 194 yX8_hasRight, Cond.instanceMethod yX8_hasRight]
def wsL_law0_r24 : List Cond := [Cond.selects RX8 yX8_hasRight yX8_hasRight, Cond.code yX8_hasRight cX8_hasRight 3 (some .boolean), Cond.methodLink RL 163 yL_listed, Cond.static yL_listed, Cond.codeWith yL_listed cL_listed 5 (some .int) [(0, 10, 13, 13)], Cond.methodLink RL 69 yX7_listed, Cond.instanceMethod yX7_listed, Cond.selects RX7 yX7_listed yX7_listed, Cond.code yX7_listed cX7_listed 4 (some .int), Cond.methodLink RX7 231 yX7_listAt, Cond.instanceMethod yX7_listAt, Cond.selects RX7 yX7_listAt yX7_listAt, Cond.code yX7_listAt cX7_listAt 2 (some (.object "RecordsOffice$DueList")), Cond.methodLink RX7 237 yX2_recordAtPlace, Cond.instanceMethod yX2_recordAtPlace, Cond.selects RX2 yX2_recordAtPlace yX2_recordAtPlace, Cond.code yX2_recordAtPlace cX2_recordAtPlace 4 (some .int), Cond.methodLink RX2 31 yX2_has, Cond.instanceMethod yX2_has, Cond.selects RX2 yX2_has yX2_has, Cond.code yX2_has cX2_has 2 (some .boolean), Cond.methodLink RL 165 yX8_listed, Cond.instanceMethod yX8_listed, Cond.selects RX8 yX8_listed yX8_listed]
def wsL_law0_r25 : List Cond := [Cond.code yX8_listed cX8_listed 3 (some .int), Cond.methodLink RX8 197 yX8_noList, Cond.instanceMethod yX8_noList, Cond.selects RX8 yX8_noList yX8_noList, Cond.code yX8_noList cX8_noList 2 (some .boolean), Cond.methodLink RL 166 yL_approve, Cond.static yL_approve, Cond.codeWith yL_approve cL_approve 5 (some .int) [(0, 10, 13, 13), (0, 10, 17, 21)], Cond.methodLink RL 72 yX7_approve, Cond.instanceMethod yX7_approve, Cond.selects RX7 yX7_approve yX7_approve, Cond.code yX7_approve cX7_approve 4 (some .int), Cond.fieldLink RX7 245 "RecordsOffice$DueList" "drawnBy" "I", Cond.methodLink RX7 241 yX7_needOpen, Cond.static yX7_needOpen, Cond.code yX7_needOpen cX7_needOpen 1 none, Cond.fieldLink RX7 282 "RecordsOffice$DueList" "isOpen" "Z", Cond.methodLink RX7 248 yX2_isApprovedBy, Cond.instanceMethod yX2_isApprovedBy, Cond.selects RX2 yX2_isApprovedBy yX2_isApprovedBy, Cond.code yX2_isApprovedBy cX2_isApprovedBy 2 (some .boolean), Cond.fieldLink RX2 35 "RecordsOffice$DueList" "approvers" "I", Cond.methodLink RX7 253 yX2_addApproval, Cond.instanceMethod yX2_addApproval]
def wsL_law0_r26 : List Cond := [Cond.selects RX2 yX2_addApproval yX2_addApproval, Cond.code yX2_addApproval cX2_addApproval 2 none, Cond.methodLink RX7 256 yX2_approvals, Cond.instanceMethod yX2_approvals, Cond.selects RX2 yX2_approvals yX2_approvals, Cond.code yX2_approvals cX2_approvals 1 (some .int), Cond.methodLink RX2 38 yJ6_bitCount_0f7a4, Cond.static yJ6_bitCount_0f7a4, Cond.initialized RJ6, Cond.code yJ6_bitCount_0f7a4 cJ6_bitCount_0f7a4 1 (some .int), Cond.constant RJ6 265 (1431655765), Cond.constant RJ6 266 (858993459), Cond.constant RJ6 267 (252645135), Cond.methodLink RL 168 yX8_approve, Cond.instanceMethod yX8_approve, Cond.selects RX8 yX8_approve yX8_approve, Cond.code yX8_approve cX8_approve 3 (some .int), Cond.methodLink RX8 200 yX8_bits, Cond.static yX8_bits, Cond.code yX8_bits cX8_bits 3 (some .int), Cond.methodLink RL 169 yL_strike, Cond.static yL_strike, Cond.codeWith yL_strike cL_strike 5 (some .int) [(0, 10, 13, 13), (0, 10, 17, 21)], Cond.methodLink RL 75 yX7_strike]
def wsL_law0_r27 : List Cond := [Cond.instanceMethod yX7_strike, Cond.selects RX7 yX7_strike yX7_strike, Cond.code yX7_strike cX7_strike 4 (some .int), Cond.methodLink RX7 259 yX2_has, Cond.methodLink RX7 264 yX2_remove, Cond.instanceMethod yX2_remove, Cond.selects RX2 yX2_remove yX2_remove, Cond.code yX2_remove cX2_remove 2 none, Cond.constantLong RX2 29 (-1), Cond.methodLink RL 171 yX8_strike, Cond.instanceMethod yX8_strike, Cond.selects RX8 yX8_strike yX8_strike, Cond.code yX8_strike cX8_strike 5 (some .int), Cond.methodLink RX8 203 yX8_placeOn, Cond.instanceMethod yX8_placeOn, Cond.selects RX8 yX8_placeOn yX8_placeOn, Cond.code yX8_placeOn cX8_placeOn 5 (some .int), Cond.methodLink RL 172 yL_carry, Cond.static yL_carry, Cond.codeWith yL_carry cL_carry 6 (some .int) [(0, 12, 15, 13), (0, 12, 19, 15), (0, 12, 23, 21)], Cond.methodLink RL 78 yX7_carry, Cond.instanceMethod yX7_carry, Cond.selects RX7 yX7_carry yX7_carry, Cond.code yX7_carry cX7_carry 8 (some .int)]
def wsL_law0_r28 : List Cond := [Cond.fieldLink RX7 269 "RecordsOffice$DueList" "members" "J", Cond.methodLink RX7 272 yJ13_bitCount_95d88, Cond.methodLink RX7 278 yX7_destroyAll, Cond.instanceMethod yX7_destroyAll, Cond.selects RX7 yX7_destroyAll yX7_destroyAll, Cond.code yX7_destroyAll cX7_destroyAll 6 none, Cond.methodLink RL 175 yX8_carry, Cond.instanceMethod yX8_carry, Cond.selects RX8 yX8_carry yX8_carry, Cond.code yX8_carry cX8_carry 8 (some .int), Cond.methodLink RL 176 yL_count, Cond.static yL_count, Cond.codeWith yL_count cL_count 4 (some .int) [(0, 9, 12, 15)], Cond.methodLink RL 82 yX7_count, Cond.instanceMethod yX7_count, Cond.selects RX7 yX7_count yX7_count, Cond.code yX7_count cX7_count 2 (some .int), Cond.methodLink RX7 286 yX7_bytesKept, Cond.instanceMethod yX7_bytesKept, Cond.selects RX7 yX7_bytesKept yX7_bytesKept, Cond.code yX7_bytesKept cX7_bytesKept 3 (some .int), Cond.methodLink RL 178 yX8_count, Cond.instanceMethod yX8_count, Cond.selects RX8 yX8_count yX8_count]
def wsL_law0_r29 : List Cond := [Cond.code yX8_count cX8_count 4 (some .int), Cond.methodLink RL 179 yL_act, Cond.static yL_act, Cond.codeWith yL_act cL_act 5 (some .int) [(0, 10, 13, 13), (0, 10, 17, 15)], Cond.methodLink RL 85 yX7_act, Cond.instanceMethod yX7_act, Cond.selects RX7 yX7_act yX7_act, Cond.code yX7_act cX7_act 3 (some .int), Cond.methodLink RX7 291 yX7_needAct, Cond.instanceMethod yX7_needAct, Cond.selects RX7 yX7_needAct yX7_needAct, Cond.code yX7_needAct cX7_needAct 2 none, Cond.methodLink RX7 294 yX7_needNumberOfAct, Cond.static yX7_needNumberOfAct, Cond.code yX7_needNumberOfAct cX7_needNumberOfAct 1 none, Cond.methodLink RX7 297 yX0_number, Cond.methodLink RL 181 yX8_act, Cond.instanceMethod yX8_act, Cond.selects RX8 yX8_act yX8_act, Cond.code yX8_act cX8_act 3 (some .int), Cond.methodLink RX8 206 yX8_noAct, Cond.instanceMethod yX8_noAct, Cond.selects RX8 yX8_noAct yX8_noAct, Cond.code yX8_noAct cX8_noAct 2 (some .boolean)]
def wsL_law0_r30 : List Cond := [Cond.methodLink RL 182 yL_link, Cond.static yL_link, Cond.codeWith yL_link cL_link 4 (some .int) [(0, 8, 11, 13)], Cond.methodLink RL 88 yX7_link, Cond.instanceMethod yX7_link, Cond.selects RX7 yX7_link yX7_link, Cond.code yX7_link cX7_link 2 (some .long), Cond.fieldLink RX7 300 "RecordsOffice$Book" "links" "[J", Cond.methodLink RL 184 yX8_link, Cond.instanceMethod yX8_link, Cond.selects RX8 yX8_link yX8_link, Cond.code yX8_link cX8_link 2 (some .long), Cond.methodLink RL 185 yL_spoil, Cond.static yL_spoil, Cond.codeWith yL_spoil cL_spoil 5 (some .int) [(0, 7, 10, 13), (0, 7, 14, 15)], Cond.methodLink RL 91 yX7_spoil, Cond.instanceMethod yX7_spoil, Cond.selects RX7 yX7_spoil yX7_spoil, Cond.code yX7_spoil cX7_spoil 4 none, Cond.methodLink RX7 304 yX0_setNumber, Cond.methodLink RL 188 yX8_spoil, Cond.instanceMethod yX8_spoil, Cond.selects RX8 yX8_spoil yX8_spoil, Cond.code yX8_spoil cX8_spoil 4 none]
def wsL_law0_r31 : List Cond := [Cond.methodLink RL 189 yX7_broken, Cond.instanceMethod yX7_broken, Cond.selects RX7 yX7_broken yX7_broken, Cond.code yX7_broken cX7_broken 2 (some .int), Cond.methodLink RX7 308 yX7_digestOf, Cond.instanceMethod yX7_digestOf, Cond.selects RX7 yX7_digestOf yX7_digestOf, Cond.code yX7_digestOf cX7_digestOf 2 (some .long), Cond.methodLink RX7 311 yX0_linkFor, Cond.methodLink RL 192 yX8_broken, Cond.instanceMethod yX8_broken, Cond.selects RX8 yX8_broken yX8_broken, Cond.code yX8_broken cX8_broken 2 (some .int), Cond.methodLink RL 193 yL_later, Cond.static yL_later, Cond.codeWith yL_later cL_later 6 (some .int) [(0, 12, 15, 15)], Cond.methodLink RL 95 yX7_later, Cond.instanceMethod yX7_later, Cond.selects RX7 yX7_later yX7_later, Cond.code yX7_later cX7_later 4 (some .int), Cond.methodLink RL 195 yX8_later, Cond.instanceMethod yX8_later, Cond.selects RX8 yX8_later yX8_later, Cond.code yX8_later cX8_later 4 (some .int)]
def wsL_law0 : List Cond := (wsL_law0_r1 ++ (wsL_law0_r2 ++ (wsL_law0_r3 ++ (wsL_law0_r4 ++ (wsL_law0_r5 ++ (wsL_law0_r6 ++ (wsL_law0_r7 ++ (wsL_law0_r8 ++ (wsL_law0_r9 ++ (wsL_law0_r10 ++ (wsL_law0_r11 ++ (wsL_law0_r12 ++ (wsL_law0_r13 ++ (wsL_law0_r14 ++ (wsL_law0_r15 ++ (wsL_law0_r16 ++ (wsL_law0_r17 ++ (wsL_law0_r18 ++ (wsL_law0_r19 ++ (wsL_law0_r20 ++ (wsL_law0_r21 ++ (wsL_law0_r22 ++ (wsL_law0_r23 ++ (wsL_law0_r24 ++ (wsL_law0_r25 ++ (wsL_law0_r26 ++ (wsL_law0_r27 ++ (wsL_law0_r28 ++ (wsL_law0_r29 ++ (wsL_law0_r30 ++ wsL_law0_r31)))))))))))))))))))))))))))))) ++ wsX70 ++ wsX80 ++ wsX00 ++ wsX60 ++ wsX50 ++ wsX40 ++ wsX30 ++ wsX20 ++ ([] : List Cond)
def wsL_law : List Cond := wsL_law0 ++ (vx_atS RX7 64 "java/lang/IllegalArgumentException" ["java/lang/RuntimeException", "java/lang/Exception"]).filter goodWord ++ (vx_atS RX7 113 "java/lang/IndexOutOfBoundsException" ["java/lang/RuntimeException", "java/lang/Exception"]).filter goodWord ++ (vx_atS RX7 93 "java/lang/IllegalStateException" ["java/lang/RuntimeException", "java/lang/Exception"]).filter goodWord
set_option maxRecDepth 20000 in
theorem wsL_law_in0 : ∀ w ∈ wsL_law0, w ∈ lw_tbl := fun w h => (goodIn_p wsL_law0 [57, 60, 75, 94, 118, 767, 203, 206, 902, 883, 875, 298, 301, 305, 309, 315, 320, 341, 345, 349, 189, 181, 193, 906, 910, 886, 914, 918, 922, 925, 357, 930, 366, 372, 934, 399, 403, 407, 938, 942, 946, 416, 950, 424, 427, 435, 954, 473, 476, 483, 1007, 490, 1011, 498, 502, 507, 511, 515, 519, 959, 963, 967, 971, 526, 530, 534, 537, 540, 543, 549, 552, 555, 975, 979, 983, 892, 895, 898, 987, 889, 562, 566, 991, 995, 574, 999, 582, 1003, 592, 596, 602, 607, 628, 631, 1015, 1019, 1023, 1027, 641, 645, 651, 655, 1031, 1035, 662, 665, 670, 675, 679, 682, 1039, 1042, 692, 698, 1046, 1050, 706, 712, 1054, 719, 723, 1058, 731, 735, 739, 1062, 1066, 747, 1070, 754, 1074, 177, 185, 1078, 762, 879] (by decide +kernel) (by decide +kernel) w h).1
theorem wsL_law_x0 : ∀ w ∈ (vx_atS RX7 64 "java/lang/IllegalArgumentException" ["java/lang/RuntimeException", "java/lang/Exception"]).filter goodWord, w ∈ lw_tbl := by decide +kernel
theorem wsL_law_x1 : ∀ w ∈ (vx_atS RX7 113 "java/lang/IndexOutOfBoundsException" ["java/lang/RuntimeException", "java/lang/Exception"]).filter goodWord, w ∈ lw_tbl := by decide +kernel
theorem wsL_law_x2 : ∀ w ∈ (vx_atS RX7 93 "java/lang/IllegalStateException" ["java/lang/RuntimeException", "java/lang/Exception"]).filter goodWord, w ∈ lw_tbl := by decide +kernel
theorem wsL_law_in : ∀ w ∈ wsL_law, w ∈ lw_tbl := fun w h => (List.mem_append.mp h).elim (fun h => (List.mem_append.mp h).elim (fun h => (List.mem_append.mp h).elim (fun h => wsL_law_in0 w h) (fun h => wsL_law_x0 w h)) (fun h => wsL_law_x1 w h)) (fun h => wsL_law_x2 w h)
set_option maxRecDepth 20000 in
theorem ggL_officer_X7_officer : GoodIn wsL_officer wsX7_officer := goodIn_ca (goodIn_ca (goodIn_r _ [7, 8, 9, 10, 11, 12, 6, 13, 14, 15, 16, 17, 18, 19, 20, 21, 22, 23, 24, 25, 26] (by decide +kernel) (by decide +kernel)) (goodIn_sub (fun _ h => List.mem_cons_of_mem _ (List.mem_append_left _ (List.mem_append_right _ h))) (by decide +kernel))) (goodIn_sub (fun _ h => List.mem_cons_of_mem _ (List.mem_append_right _ h)) (by decide +kernel))
set_option maxRecDepth 20000 in
theorem gL_officer_X7_officer : GoodIn wsL_officer (wsV RL 7 RX7 yX7_officer wsX7_officer) := goodIn_app (goodIn_of _ (by decide +kernel)) ggL_officer_X7_officer
theorem dL_officer_0 : decode cL_officer 0 = .ok (.aload_n 0, 1) := by decide +kernel
theorem dL_officer_1 : decode cL_officer 1 = .ok (.iload_n 1, 1) := by decide +kernel
theorem dL_officer_2 : decode cL_officer 2 = .ok (.iload_n 2, 1) := by decide +kernel
theorem dL_officer_3 : decode cL_officer 3 = .ok (.invokevirtual 7, 3) := by decide +kernel
theorem dL_officer_6 : decode cL_officer 6 = .ok (.goto 9, 3) := by decide +kernel
theorem dL_officer_9 : decode cL_officer 9 = .ok (.astore_n 3, 1) := by decide +kernel
theorem dL_officer_10 : decode cL_officer 10 = .ok (.iconst 1, 1) := by decide +kernel
theorem dL_officer_11 : decode cL_officer 11 = .ok (.ireturn, 1) := by decide +kernel
theorem dL_officer_12 : decode cL_officer 12 = .ok (.astore_n 3, 1) := by decide +kernel
theorem dL_officer_13 : decode cL_officer 13 = .ok (.iconst 2, 1) := by decide +kernel
theorem dL_officer_14 : decode cL_officer 14 = .ok (.ireturn, 1) := by decide +kernel
theorem dL_officer_15 : decode cL_officer 15 = .ok (.iconst 0, 1) := by decide +kernel
theorem dL_officer_16 : decode cL_officer 16 = .ok (.ireturn, 1) := by decide +kernel
set_option maxRecDepth 20000 in
theorem ggL_version_X7_version : GoodIn wsL_version wsX7_version := goodIn_ca (goodIn_ca (goodIn_ca (goodIn_r _ [8, 9, 10, 11, 12, 13, 14, 15, 16, 17, 7, 18, 19, 20, 21, 22, 23, 24, 25, 26, 27, 28, 29, 30, 31, 32, 33, 34, 35, 36, 37, 38, 39, 40, 41, 42, 43, 44, 45, 46, 47, 48, 49, 50, 51, 52, 53, 54, 55, 56, 57, 58, 59, 60, 61, 62, 63, 64, 65, 66, 67, 68, 69, 70, 71, 72, 73, 74, 75, 76, 77, 78, 79, 80, 81, 82, 83, 84, 85, 86, 87, 88, 89] (by decide +kernel) (by decide +kernel)) (goodIn_sub (fun _ h => List.mem_cons_of_mem _ (List.mem_append_left _ (List.mem_append_left _ (List.mem_append_right _ h)))) (by decide +kernel))) (goodIn_sub (fun _ h => List.mem_cons_of_mem _ (List.mem_append_left _ (List.mem_append_right _ h))) (by decide +kernel))) (goodIn_sub (fun _ h => List.mem_cons_of_mem _ (List.mem_append_right _ h)) (by decide +kernel))
set_option maxRecDepth 20000 in
theorem gL_version_X7_version : GoodIn wsL_version (wsV RL 17 RX7 yX7_version wsX7_version) := goodIn_app (goodIn_of _ (by decide +kernel)) ggL_version_X7_version
theorem dL_version_0 : decode cL_version 0 = .ok (.aload 7, 2) := by decide +kernel
theorem dL_version_2 : decode cL_version 2 = .ok (.iconst 0, 1) := by decide +kernel
theorem dL_version_3 : decode cL_version 3 = .ok (.aload_n 0, 1) := by decide +kernel
theorem dL_version_4 : decode cL_version 4 = .ok (.iload_n 1, 1) := by decide +kernel
theorem dL_version_5 : decode cL_version 5 = .ok (.iload_n 2, 1) := by decide +kernel
theorem dL_version_6 : decode cL_version 6 = .ok (.iload_n 3, 1) := by decide +kernel
theorem dL_version_7 : decode cL_version 7 = .ok (.iload 4, 2) := by decide +kernel
theorem dL_version_9 : decode cL_version 9 = .ok (.iload 5, 2) := by decide +kernel
theorem dL_version_11 : decode cL_version 11 = .ok (.iload 6, 2) := by decide +kernel
theorem dL_version_13 : decode cL_version 13 = .ok (.invokevirtual 17, 3) := by decide +kernel
theorem dL_version_16 : decode cL_version 16 = .ok (.i2l, 1) := by decide +kernel
theorem dL_version_17 : decode cL_version 17 = .ok (.lastore, 1) := by decide +kernel
theorem dL_version_18 : decode cL_version 18 = .ok (.goto 15, 3) := by decide +kernel
theorem dL_version_21 : decode cL_version 21 = .ok (.astore 8, 2) := by decide +kernel
theorem dL_version_23 : decode cL_version 23 = .ok (.iconst 1, 1) := by decide +kernel
theorem dL_version_24 : decode cL_version 24 = .ok (.ireturn, 1) := by decide +kernel
theorem dL_version_25 : decode cL_version 25 = .ok (.astore 8, 2) := by decide +kernel
theorem dL_version_27 : decode cL_version 27 = .ok (.iconst 2, 1) := by decide +kernel
theorem dL_version_28 : decode cL_version 28 = .ok (.ireturn, 1) := by decide +kernel
theorem dL_version_29 : decode cL_version 29 = .ok (.astore 8, 2) := by decide +kernel
theorem dL_version_31 : decode cL_version 31 = .ok (.iconst 3, 1) := by decide +kernel
theorem dL_version_32 : decode cL_version 32 = .ok (.ireturn, 1) := by decide +kernel
theorem dL_version_33 : decode cL_version 33 = .ok (.iconst 0, 1) := by decide +kernel
theorem dL_version_34 : decode cL_version 34 = .ok (.ireturn, 1) := by decide +kernel
set_option maxRecDepth 20000 in
theorem ggL_fiscal_X7_fiscal : GoodIn wsL_fiscal wsX7_fiscal := goodIn_ca (goodIn_ca (goodIn_r _ [7, 8, 9, 10, 11, 12, 13, 14, 15, 16, 17, 18, 19, 20, 21, 22, 23, 24] (by decide +kernel) (by decide +kernel)) (goodIn_sub (fun _ h => List.mem_cons_of_mem _ (List.mem_append_left _ (List.mem_append_right _ h))) (by decide +kernel))) (goodIn_sub (fun _ h => List.mem_cons_of_mem _ (List.mem_append_right _ h)) (by decide +kernel))
set_option maxRecDepth 20000 in
theorem gL_fiscal_X7_fiscal : GoodIn wsL_fiscal (wsV RL 23 RX7 yX7_fiscal wsX7_fiscal) := goodIn_app (goodIn_of _ (by decide +kernel)) ggL_fiscal_X7_fiscal
theorem dL_fiscal_0 : decode cL_fiscal 0 = .ok (.aload_n 0, 1) := by decide +kernel
theorem dL_fiscal_1 : decode cL_fiscal 1 = .ok (.iload_n 1, 1) := by decide +kernel
theorem dL_fiscal_2 : decode cL_fiscal 2 = .ok (.invokevirtual 23, 3) := by decide +kernel
theorem dL_fiscal_5 : decode cL_fiscal 5 = .ok (.goto 9, 3) := by decide +kernel
theorem dL_fiscal_8 : decode cL_fiscal 8 = .ok (.astore_n 2, 1) := by decide +kernel
theorem dL_fiscal_9 : decode cL_fiscal 9 = .ok (.iconst 1, 1) := by decide +kernel
theorem dL_fiscal_10 : decode cL_fiscal 10 = .ok (.ireturn, 1) := by decide +kernel
theorem dL_fiscal_11 : decode cL_fiscal 11 = .ok (.astore_n 2, 1) := by decide +kernel
theorem dL_fiscal_12 : decode cL_fiscal 12 = .ok (.iconst 2, 1) := by decide +kernel
theorem dL_fiscal_13 : decode cL_fiscal 13 = .ok (.ireturn, 1) := by decide +kernel
theorem dL_fiscal_14 : decode cL_fiscal 14 = .ok (.iconst 0, 1) := by decide +kernel
theorem dL_fiscal_15 : decode cL_fiscal 15 = .ok (.ireturn, 1) := by decide +kernel
set_option maxRecDepth 20000 in
theorem ggL_open_X7_open : GoodIn wsL_open wsX7_open := goodIn_ca (goodIn_ca (goodIn_r _ [7, 8, 9, 10, 11, 12, 13, 14, 15, 16, 17, 18, 19, 20, 6, 21, 22, 23, 24, 25, 26, 27, 28, 29, 30, 31, 32, 33, 34, 35, 36, 37, 38, 39, 40, 41, 42, 43, 44, 45, 46, 47, 48, 49, 50, 51, 52, 53, 54, 55, 56, 57, 58, 59, 60, 61, 62, 63, 64, 65, 66, 67, 68, 69, 70, 71, 72, 73, 74, 75, 76, 77, 78, 79, 80, 81, 82, 83] (by decide +kernel) (by decide +kernel)) (goodIn_sub (fun _ h => List.mem_cons_of_mem _ (List.mem_append_left _ (List.mem_append_right _ h))) (by decide +kernel))) (goodIn_sub (fun _ h => List.mem_cons_of_mem _ (List.mem_append_right _ h)) (by decide +kernel))
set_option maxRecDepth 20000 in
theorem gL_open_X7_open : GoodIn wsL_open (wsV RL 27 RX7 yX7_open wsX7_open) := goodIn_app (goodIn_of _ (by decide +kernel)) ggL_open_X7_open
theorem dL_open_0 : decode cL_open 0 = .ok (.aload_n 0, 1) := by decide +kernel
theorem dL_open_1 : decode cL_open 1 = .ok (.iload_n 1, 1) := by decide +kernel
theorem dL_open_2 : decode cL_open 2 = .ok (.iload_n 2, 1) := by decide +kernel
theorem dL_open_3 : decode cL_open 3 = .ok (.invokevirtual 27, 3) := by decide +kernel
theorem dL_open_6 : decode cL_open 6 = .ok (.goto 9, 3) := by decide +kernel
theorem dL_open_9 : decode cL_open 9 = .ok (.astore_n 3, 1) := by decide +kernel
theorem dL_open_10 : decode cL_open 10 = .ok (.iconst 1, 1) := by decide +kernel
theorem dL_open_11 : decode cL_open 11 = .ok (.ireturn, 1) := by decide +kernel
theorem dL_open_12 : decode cL_open 12 = .ok (.astore_n 3, 1) := by decide +kernel
theorem dL_open_13 : decode cL_open 13 = .ok (.iconst 2, 1) := by decide +kernel
theorem dL_open_14 : decode cL_open 14 = .ok (.ireturn, 1) := by decide +kernel
theorem dL_open_15 : decode cL_open 15 = .ok (.iconst 0, 1) := by decide +kernel
theorem dL_open_16 : decode cL_open 16 = .ok (.ireturn, 1) := by decide +kernel
set_option maxRecDepth 20000 in
theorem ggL_close_X7_close : GoodIn wsL_close wsX7_close := goodIn_ca (goodIn_ca (goodIn_ca (goodIn_r _ [8, 9, 10, 11, 12, 13, 14, 15, 16, 7, 17, 18, 19, 20, 21, 22, 23, 24, 25, 26, 27, 28, 29, 30, 31, 32, 33, 34, 35, 36, 37, 38, 39, 40, 41, 42, 43, 44, 45, 46, 47, 48, 49, 50, 51, 52, 53, 54, 55, 56, 57, 58, 59, 60, 61, 62, 63, 64, 65, 66, 67, 68, 69, 70, 71, 72, 73, 74, 75, 76, 77] (by decide +kernel) (by decide +kernel)) (goodIn_sub (fun _ h => List.mem_cons_of_mem _ (List.mem_append_left _ (List.mem_append_left _ (List.mem_append_right _ h)))) (by decide +kernel))) (goodIn_sub (fun _ h => List.mem_cons_of_mem _ (List.mem_append_left _ (List.mem_append_right _ h))) (by decide +kernel))) (goodIn_sub (fun _ h => List.mem_cons_of_mem _ (List.mem_append_right _ h)) (by decide +kernel))
set_option maxRecDepth 20000 in
theorem gL_close_X7_close : GoodIn wsL_close (wsV RL 30 RX7 yX7_close wsX7_close) := goodIn_app (goodIn_of _ (by decide +kernel)) ggL_close_X7_close
theorem dL_close_0 : decode cL_close 0 = .ok (.aload_n 0, 1) := by decide +kernel
theorem dL_close_1 : decode cL_close 1 = .ok (.iload_n 1, 1) := by decide +kernel
theorem dL_close_2 : decode cL_close 2 = .ok (.iload_n 2, 1) := by decide +kernel
theorem dL_close_3 : decode cL_close 3 = .ok (.invokevirtual 30, 3) := by decide +kernel
theorem dL_close_6 : decode cL_close 6 = .ok (.goto 12, 3) := by decide +kernel
theorem dL_close_9 : decode cL_close 9 = .ok (.astore_n 3, 1) := by decide +kernel
theorem dL_close_10 : decode cL_close 10 = .ok (.iconst 1, 1) := by decide +kernel
theorem dL_close_11 : decode cL_close 11 = .ok (.ireturn, 1) := by decide +kernel
theorem dL_close_12 : decode cL_close 12 = .ok (.astore_n 3, 1) := by decide +kernel
theorem dL_close_13 : decode cL_close 13 = .ok (.iconst 2, 1) := by decide +kernel
theorem dL_close_14 : decode cL_close 14 = .ok (.ireturn, 1) := by decide +kernel
theorem dL_close_15 : decode cL_close 15 = .ok (.astore_n 3, 1) := by decide +kernel
theorem dL_close_16 : decode cL_close 16 = .ok (.iconst 3, 1) := by decide +kernel
theorem dL_close_17 : decode cL_close 17 = .ok (.ireturn, 1) := by decide +kernel
theorem dL_close_18 : decode cL_close 18 = .ok (.iconst 0, 1) := by decide +kernel
theorem dL_close_19 : decode cL_close 19 = .ok (.ireturn, 1) := by decide +kernel
set_option maxRecDepth 20000 in
theorem ggL_left_X7_left : GoodIn wsL_left wsX7_left := goodIn_ca (goodIn_ca (goodIn_ca (goodIn_r _ [8, 9, 10, 11, 12, 13, 14, 15, 16, 7, 17, 18, 19, 20, 21, 22, 23, 24, 25, 26, 27, 28, 29, 30, 31, 32, 33, 34, 35, 36, 37, 38, 39, 40, 41, 42, 43, 44, 45, 46, 47, 48, 49, 50, 51, 52, 53, 54, 55, 56, 57, 58, 59, 60, 61, 62, 63, 64, 65, 66, 67, 68, 69, 70, 71, 72, 73, 74, 75, 76, 77] (by decide +kernel) (by decide +kernel)) (goodIn_sub (fun _ h => List.mem_cons_of_mem _ (List.mem_append_left _ (List.mem_append_left _ (List.mem_append_right _ h)))) (by decide +kernel))) (goodIn_sub (fun _ h => List.mem_cons_of_mem _ (List.mem_append_left _ (List.mem_append_right _ h))) (by decide +kernel))) (goodIn_sub (fun _ h => List.mem_cons_of_mem _ (List.mem_append_right _ h)) (by decide +kernel))
set_option maxRecDepth 20000 in
theorem gL_left_X7_left : GoodIn wsL_left (wsV RL 33 RX7 yX7_left wsX7_left) := goodIn_app (goodIn_of _ (by decide +kernel)) ggL_left_X7_left
theorem dL_left_0 : decode cL_left 0 = .ok (.aload_n 0, 1) := by decide +kernel
theorem dL_left_1 : decode cL_left 1 = .ok (.iload_n 1, 1) := by decide +kernel
theorem dL_left_2 : decode cL_left 2 = .ok (.iload_n 2, 1) := by decide +kernel
theorem dL_left_3 : decode cL_left 3 = .ok (.invokevirtual 33, 3) := by decide +kernel
theorem dL_left_6 : decode cL_left 6 = .ok (.goto 12, 3) := by decide +kernel
theorem dL_left_9 : decode cL_left 9 = .ok (.astore_n 3, 1) := by decide +kernel
theorem dL_left_10 : decode cL_left 10 = .ok (.iconst 1, 1) := by decide +kernel
theorem dL_left_11 : decode cL_left 11 = .ok (.ireturn, 1) := by decide +kernel
theorem dL_left_12 : decode cL_left 12 = .ok (.astore_n 3, 1) := by decide +kernel
theorem dL_left_13 : decode cL_left 13 = .ok (.iconst 2, 1) := by decide +kernel
theorem dL_left_14 : decode cL_left 14 = .ok (.ireturn, 1) := by decide +kernel
theorem dL_left_15 : decode cL_left 15 = .ok (.astore_n 3, 1) := by decide +kernel
theorem dL_left_16 : decode cL_left 16 = .ok (.iconst 3, 1) := by decide +kernel
theorem dL_left_17 : decode cL_left 17 = .ok (.ireturn, 1) := by decide +kernel
theorem dL_left_18 : decode cL_left 18 = .ok (.iconst 0, 1) := by decide +kernel
theorem dL_left_19 : decode cL_left 19 = .ok (.ireturn, 1) := by decide +kernel
set_option maxRecDepth 20000 in
theorem ggL_file_X7_file : GoodIn wsL_file wsX7_file := goodIn_ca (goodIn_ca (goodIn_ca (goodIn_r _ [8, 9, 10, 11, 12, 13, 14, 15, 16, 17, 18, 19, 20, 21, 22, 23, 24, 7, 25, 26, 27, 28, 29, 30, 31, 32, 33, 34, 35, 36, 37, 38, 39, 40, 41, 42, 43, 44, 45, 46, 47, 48, 49, 50, 51, 52, 53, 54, 55, 56, 57, 58, 59, 60, 61, 62, 63, 64, 65, 66, 67, 68, 69, 70, 71, 72, 73, 74, 75, 76, 77, 78, 79, 80, 81, 82, 83, 84, 85, 86, 87, 88, 89, 90, 91, 92, 93, 94, 95, 96, 97, 98, 99, 100, 101, 102, 103, 104, 105, 106, 107] (by decide +kernel) (by decide +kernel)) (goodIn_sub (fun _ h => List.mem_cons_of_mem _ (List.mem_append_left _ (List.mem_append_left _ (List.mem_append_right _ h)))) (by decide +kernel))) (goodIn_sub (fun _ h => List.mem_cons_of_mem _ (List.mem_append_left _ (List.mem_append_right _ h))) (by decide +kernel))) (goodIn_sub (fun _ h => List.mem_cons_of_mem _ (List.mem_append_right _ h)) (by decide +kernel))
set_option maxRecDepth 20000 in
theorem gL_file_X7_file : GoodIn wsL_file (wsV RL 36 RX7 yX7_file wsX7_file) := goodIn_app (goodIn_of _ (by decide +kernel)) ggL_file_X7_file
theorem dL_file_0 : decode cL_file 0 = .ok (.aload 9, 2) := by decide +kernel
theorem dL_file_2 : decode cL_file 2 = .ok (.iconst 0, 1) := by decide +kernel
theorem dL_file_3 : decode cL_file 3 = .ok (.aload_n 0, 1) := by decide +kernel
theorem dL_file_4 : decode cL_file 4 = .ok (.iload_n 1, 1) := by decide +kernel
theorem dL_file_5 : decode cL_file 5 = .ok (.iload_n 2, 1) := by decide +kernel
theorem dL_file_6 : decode cL_file 6 = .ok (.lload_n 3, 1) := by decide +kernel
theorem dL_file_7 : decode cL_file 7 = .ok (.iload 5, 2) := by decide +kernel
theorem dL_file_9 : decode cL_file 9 = .ok (.iload 6, 2) := by decide +kernel
theorem dL_file_11 : decode cL_file 11 = .ok (.iload 7, 2) := by decide +kernel
theorem dL_file_13 : decode cL_file 13 = .ok (.iload 8, 2) := by decide +kernel
theorem dL_file_15 : decode cL_file 15 = .ok (.invokevirtual 36, 3) := by decide +kernel
theorem dL_file_18 : decode cL_file 18 = .ok (.i2l, 1) := by decide +kernel
theorem dL_file_19 : decode cL_file 19 = .ok (.lastore, 1) := by decide +kernel
theorem dL_file_20 : decode cL_file 20 = .ok (.goto 15, 3) := by decide +kernel
theorem dL_file_23 : decode cL_file 23 = .ok (.astore 10, 2) := by decide +kernel
theorem dL_file_25 : decode cL_file 25 = .ok (.iconst 1, 1) := by decide +kernel
theorem dL_file_26 : decode cL_file 26 = .ok (.ireturn, 1) := by decide +kernel
theorem dL_file_27 : decode cL_file 27 = .ok (.astore 10, 2) := by decide +kernel
theorem dL_file_29 : decode cL_file 29 = .ok (.iconst 2, 1) := by decide +kernel
theorem dL_file_30 : decode cL_file 30 = .ok (.ireturn, 1) := by decide +kernel
theorem dL_file_31 : decode cL_file 31 = .ok (.astore 10, 2) := by decide +kernel
theorem dL_file_33 : decode cL_file 33 = .ok (.iconst 3, 1) := by decide +kernel
theorem dL_file_34 : decode cL_file 34 = .ok (.ireturn, 1) := by decide +kernel
theorem dL_file_35 : decode cL_file 35 = .ok (.iconst 0, 1) := by decide +kernel
theorem dL_file_36 : decode cL_file 36 = .ok (.ireturn, 1) := by decide +kernel
set_option maxRecDepth 20000 in
theorem ggL_hold_X7_hold : GoodIn wsL_hold wsX7_hold := goodIn_ca (goodIn_ca (goodIn_ca (goodIn_r _ [8, 9, 10, 11, 12, 13, 14, 15, 16, 17, 18, 19, 7, 20, 21, 22, 23, 24, 25, 26, 27, 28, 29, 30, 31, 32, 33, 34, 35, 36, 37, 38, 39, 40, 41, 42, 43, 44, 45, 46, 47, 48, 49, 50, 51, 52, 53, 54, 55, 56, 57, 58, 59, 60, 61, 62, 63, 64, 65, 66, 67, 68, 69, 70, 71, 72, 73, 74, 75, 76, 77, 78, 79, 80, 81, 82, 83, 84, 85, 86, 87, 88, 89, 90] (by decide +kernel) (by decide +kernel)) (goodIn_sub (fun _ h => List.mem_cons_of_mem _ (List.mem_append_left _ (List.mem_append_left _ (List.mem_append_right _ h)))) (by decide +kernel))) (goodIn_sub (fun _ h => List.mem_cons_of_mem _ (List.mem_append_left _ (List.mem_append_right _ h))) (by decide +kernel))) (goodIn_sub (fun _ h => List.mem_cons_of_mem _ (List.mem_append_right _ h)) (by decide +kernel))
set_option maxRecDepth 20000 in
theorem gL_hold_X7_hold : GoodIn wsL_hold (wsV RL 40 RX7 yX7_hold wsX7_hold) := goodIn_app (goodIn_of _ (by decide +kernel)) ggL_hold_X7_hold
theorem dL_hold_0 : decode cL_hold 0 = .ok (.aload_n 0, 1) := by decide +kernel
theorem dL_hold_1 : decode cL_hold 1 = .ok (.iload_n 1, 1) := by decide +kernel
theorem dL_hold_2 : decode cL_hold 2 = .ok (.iload_n 2, 1) := by decide +kernel
theorem dL_hold_3 : decode cL_hold 3 = .ok (.iload_n 3, 1) := by decide +kernel
theorem dL_hold_4 : decode cL_hold 4 = .ok (.iload 4, 2) := by decide +kernel
theorem dL_hold_6 : decode cL_hold 6 = .ok (.iload 5, 2) := by decide +kernel
theorem dL_hold_8 : decode cL_hold 8 = .ok (.iload 6, 2) := by decide +kernel
theorem dL_hold_10 : decode cL_hold 10 = .ok (.invokevirtual 40, 3) := by decide +kernel
theorem dL_hold_13 : decode cL_hold 13 = .ok (.goto 15, 3) := by decide +kernel
theorem dL_hold_16 : decode cL_hold 16 = .ok (.astore 7, 2) := by decide +kernel
theorem dL_hold_18 : decode cL_hold 18 = .ok (.iconst 1, 1) := by decide +kernel
theorem dL_hold_19 : decode cL_hold 19 = .ok (.ireturn, 1) := by decide +kernel
theorem dL_hold_20 : decode cL_hold 20 = .ok (.astore 7, 2) := by decide +kernel
theorem dL_hold_22 : decode cL_hold 22 = .ok (.iconst 2, 1) := by decide +kernel
theorem dL_hold_23 : decode cL_hold 23 = .ok (.ireturn, 1) := by decide +kernel
theorem dL_hold_24 : decode cL_hold 24 = .ok (.astore 7, 2) := by decide +kernel
theorem dL_hold_26 : decode cL_hold 26 = .ok (.iconst 3, 1) := by decide +kernel
theorem dL_hold_27 : decode cL_hold 27 = .ok (.ireturn, 1) := by decide +kernel
theorem dL_hold_28 : decode cL_hold 28 = .ok (.iconst 0, 1) := by decide +kernel
theorem dL_hold_29 : decode cL_hold 29 = .ok (.ireturn, 1) := by decide +kernel
set_option maxRecDepth 20000 in
theorem ggL_lift_X7_lift : GoodIn wsL_lift wsX7_lift := goodIn_ca (goodIn_ca (goodIn_r _ [7, 8, 9, 10, 11, 12, 13, 14, 6, 15, 16, 17, 18, 19, 20, 21, 22, 23, 24, 25, 26, 27, 28, 29, 30, 31, 32, 33, 34, 35, 36, 37, 38, 39, 40, 41, 42, 43, 44, 45, 46, 47, 48, 49, 50, 51, 52, 53, 54, 55, 56, 57, 58, 59, 60, 61, 62, 63, 64, 65, 66] (by decide +kernel) (by decide +kernel)) (goodIn_sub (fun _ h => List.mem_cons_of_mem _ (List.mem_append_left _ (List.mem_append_right _ h))) (by decide +kernel))) (goodIn_sub (fun _ h => List.mem_cons_of_mem _ (List.mem_append_right _ h)) (by decide +kernel))
set_option maxRecDepth 20000 in
theorem gL_lift_X7_lift : GoodIn wsL_lift (wsV RL 44 RX7 yX7_lift wsX7_lift) := goodIn_app (goodIn_of _ (by decide +kernel)) ggL_lift_X7_lift
theorem dL_lift_0 : decode cL_lift 0 = .ok (.aload_n 0, 1) := by decide +kernel
theorem dL_lift_1 : decode cL_lift 1 = .ok (.iload_n 1, 1) := by decide +kernel
theorem dL_lift_2 : decode cL_lift 2 = .ok (.invokevirtual 44, 3) := by decide +kernel
theorem dL_lift_5 : decode cL_lift 5 = .ok (.goto 9, 3) := by decide +kernel
theorem dL_lift_8 : decode cL_lift 8 = .ok (.astore_n 2, 1) := by decide +kernel
theorem dL_lift_9 : decode cL_lift 9 = .ok (.iconst 1, 1) := by decide +kernel
theorem dL_lift_10 : decode cL_lift 10 = .ok (.ireturn, 1) := by decide +kernel
theorem dL_lift_11 : decode cL_lift 11 = .ok (.astore_n 2, 1) := by decide +kernel
theorem dL_lift_12 : decode cL_lift 12 = .ok (.iconst 2, 1) := by decide +kernel
theorem dL_lift_13 : decode cL_lift 13 = .ok (.ireturn, 1) := by decide +kernel
theorem dL_lift_14 : decode cL_lift 14 = .ok (.iconst 0, 1) := by decide +kernel
theorem dL_lift_15 : decode cL_lift 15 = .ok (.ireturn, 1) := by decide +kernel
set_option maxRecDepth 20000 in
theorem ggL_covered_X7_covered : GoodIn wsL_covered wsX7_covered := goodIn_ca (goodIn_r _ [6, 7, 8, 9, 5, 10, 11, 12, 13, 14, 15, 16, 17, 18, 19, 20, 21, 22, 23, 24, 25, 26, 27, 28, 29, 30, 31, 32, 33, 34, 35, 36, 37, 38, 39, 40, 41, 42, 43, 44, 45, 46, 47, 48, 49, 50, 51, 52, 53, 54, 55, 56, 57, 58, 59, 60, 61, 62, 63, 64, 65, 66, 67, 68, 69, 70, 71, 72, 73, 74, 75] (by decide +kernel) (by decide +kernel)) (goodIn_sub (fun _ h => List.mem_cons_of_mem _ (List.mem_append_right _ h)) (by decide +kernel))
set_option maxRecDepth 20000 in
theorem gL_covered_X7_covered : GoodIn wsL_covered (wsV RL 47 RX7 yX7_covered wsX7_covered) := goodIn_app (goodIn_of _ (by decide +kernel)) ggL_covered_X7_covered
theorem dL_covered_0 : decode cL_covered 0 = .ok (.aload_n 2, 1) := by decide +kernel
theorem dL_covered_1 : decode cL_covered 1 = .ok (.iconst 0, 1) := by decide +kernel
theorem dL_covered_2 : decode cL_covered 2 = .ok (.aload_n 0, 1) := by decide +kernel
theorem dL_covered_3 : decode cL_covered 3 = .ok (.iload_n 1, 1) := by decide +kernel
theorem dL_covered_4 : decode cL_covered 4 = .ok (.invokevirtual 47, 3) := by decide +kernel
theorem dL_covered_7 : decode cL_covered 7 = .ok (.i2l, 1) := by decide +kernel
theorem dL_covered_8 : decode cL_covered 8 = .ok (.lastore, 1) := by decide +kernel
theorem dL_covered_9 : decode cL_covered 9 = .ok (.goto 6, 3) := by decide +kernel
theorem dL_covered_12 : decode cL_covered 12 = .ok (.astore_n 3, 1) := by decide +kernel
theorem dL_covered_13 : decode cL_covered 13 = .ok (.iconst 1, 1) := by decide +kernel
theorem dL_covered_14 : decode cL_covered 14 = .ok (.ireturn, 1) := by decide +kernel
theorem dL_covered_15 : decode cL_covered 15 = .ok (.iconst 0, 1) := by decide +kernel
theorem dL_covered_16 : decode cL_covered 16 = .ok (.ireturn, 1) := by decide +kernel
set_option maxRecDepth 20000 in
theorem ggL_due_X7_due : GoodIn wsL_due wsX7_due := goodIn_ca (goodIn_r _ [6, 7, 8, 9, 5, 10, 11, 12, 13, 14, 15, 16, 17, 18, 19, 20, 21, 22, 23, 24, 25, 26, 27, 28, 29, 30, 31, 32, 33, 34, 35, 36, 37, 38, 39, 40, 41, 42, 43, 44, 45, 46, 47, 48, 49, 50, 51, 52, 53, 54, 55, 56, 57, 58, 59, 60, 61, 62, 63, 64, 65, 66, 67, 68, 69, 70, 71, 72, 73, 74, 75, 76, 77, 78, 79, 80, 81, 82, 83, 84, 85] (by decide +kernel) (by decide +kernel)) (goodIn_sub (fun _ h => List.mem_cons_of_mem _ (List.mem_append_right _ h)) (by decide +kernel))
set_option maxRecDepth 20000 in
theorem gL_due_X7_due : GoodIn wsL_due (wsV RL 51 RX7 yX7_due wsX7_due) := goodIn_app (goodIn_of _ (by decide +kernel)) ggL_due_X7_due
theorem dL_due_0 : decode cL_due 0 = .ok (.aload_n 2, 1) := by decide +kernel
theorem dL_due_1 : decode cL_due 1 = .ok (.iconst 0, 1) := by decide +kernel
theorem dL_due_2 : decode cL_due 2 = .ok (.aload_n 0, 1) := by decide +kernel
theorem dL_due_3 : decode cL_due 3 = .ok (.iload_n 1, 1) := by decide +kernel
theorem dL_due_4 : decode cL_due 4 = .ok (.invokevirtual 51, 3) := by decide +kernel
theorem dL_due_7 : decode cL_due 7 = .ok (.i2l, 1) := by decide +kernel
theorem dL_due_8 : decode cL_due 8 = .ok (.lastore, 1) := by decide +kernel
theorem dL_due_9 : decode cL_due 9 = .ok (.goto 6, 3) := by decide +kernel
theorem dL_due_12 : decode cL_due 12 = .ok (.astore_n 3, 1) := by decide +kernel
theorem dL_due_13 : decode cL_due 13 = .ok (.iconst 1, 1) := by decide +kernel
theorem dL_due_14 : decode cL_due 14 = .ok (.ireturn, 1) := by decide +kernel
theorem dL_due_15 : decode cL_due 15 = .ok (.iconst 0, 1) := by decide +kernel
theorem dL_due_16 : decode cL_due 16 = .ok (.ireturn, 1) := by decide +kernel
set_option maxRecDepth 20000 in
theorem ggL_record_X7_record : GoodIn wsL_record wsX7_record := goodIn_ca (goodIn_ca (goodIn_r _ [7, 8, 9, 10, 11, 12, 13, 14, 15, 16, 17, 6, 18, 19, 20, 21, 22, 23, 24, 25, 26, 27, 28, 29, 30, 31, 32, 33, 34, 35, 36, 37, 38, 39, 40, 41, 42, 43, 44, 45, 46, 47, 48, 49, 50, 51, 52, 53] (by decide +kernel) (by decide +kernel)) (goodIn_sub (fun _ h => List.mem_cons_of_mem _ (List.mem_append_left _ (List.mem_append_right _ h))) (by decide +kernel))) (goodIn_sub (fun _ h => List.mem_cons_of_mem _ (List.mem_append_right _ h)) (by decide +kernel))
set_option maxRecDepth 20000 in
theorem gL_record_X7_record : GoodIn wsL_record (wsV RL 54 RX7 yX7_record wsX7_record) := goodIn_app (goodIn_of _ (by decide +kernel)) ggL_record_X7_record
theorem dL_record_0 : decode cL_record 0 = .ok (.aload_n 3, 1) := by decide +kernel
theorem dL_record_1 : decode cL_record 1 = .ok (.iconst 0, 1) := by decide +kernel
theorem dL_record_2 : decode cL_record 2 = .ok (.aload_n 0, 1) := by decide +kernel
theorem dL_record_3 : decode cL_record 3 = .ok (.iload_n 1, 1) := by decide +kernel
theorem dL_record_4 : decode cL_record 4 = .ok (.iload_n 2, 1) := by decide +kernel
theorem dL_record_5 : decode cL_record 5 = .ok (.invokevirtual 54, 3) := by decide +kernel
theorem dL_record_8 : decode cL_record 8 = .ok (.i2l, 1) := by decide +kernel
theorem dL_record_9 : decode cL_record 9 = .ok (.lastore, 1) := by decide +kernel
theorem dL_record_10 : decode cL_record 10 = .ok (.goto 11, 3) := by decide +kernel
theorem dL_record_13 : decode cL_record 13 = .ok (.astore 4, 2) := by decide +kernel
theorem dL_record_15 : decode cL_record 15 = .ok (.iconst 1, 1) := by decide +kernel
theorem dL_record_16 : decode cL_record 16 = .ok (.ireturn, 1) := by decide +kernel
theorem dL_record_17 : decode cL_record 17 = .ok (.astore 4, 2) := by decide +kernel
theorem dL_record_19 : decode cL_record 19 = .ok (.iconst 2, 1) := by decide +kernel
theorem dL_record_20 : decode cL_record 20 = .ok (.ireturn, 1) := by decide +kernel
theorem dL_record_21 : decode cL_record 21 = .ok (.iconst 0, 1) := by decide +kernel
theorem dL_record_22 : decode cL_record 22 = .ok (.ireturn, 1) := by decide +kernel
set_option maxRecDepth 20000 in
theorem ggL_read_X7_read : GoodIn wsL_read wsX7_read := goodIn_ca (goodIn_ca (goodIn_r _ [7, 8, 9, 10, 11, 12, 13, 14, 6, 15, 16, 17, 18, 19, 20, 21, 22, 23, 24, 25, 26, 27, 28, 29, 30, 31, 32, 33, 34, 35, 36, 37, 38] (by decide +kernel) (by decide +kernel)) (goodIn_sub (fun _ h => List.mem_cons_of_mem _ (List.mem_append_left _ (List.mem_append_right _ h))) (by decide +kernel))) (goodIn_sub (fun _ h => List.mem_cons_of_mem _ (List.mem_append_right _ h)) (by decide +kernel))
set_option maxRecDepth 20000 in
theorem gL_read_X7_read : GoodIn wsL_read (wsV RL 58 RX7 yX7_read wsX7_read) := goodIn_app (goodIn_of _ (by decide +kernel)) ggL_read_X7_read
theorem dL_read_0 : decode cL_read 0 = .ok (.aload_n 2, 1) := by decide +kernel
theorem dL_read_1 : decode cL_read 1 = .ok (.iconst 0, 1) := by decide +kernel
theorem dL_read_2 : decode cL_read 2 = .ok (.aload_n 0, 1) := by decide +kernel
theorem dL_read_3 : decode cL_read 3 = .ok (.iload_n 1, 1) := by decide +kernel
theorem dL_read_4 : decode cL_read 4 = .ok (.invokevirtual 58, 3) := by decide +kernel
theorem dL_read_7 : decode cL_read 7 = .ok (.lastore, 1) := by decide +kernel
theorem dL_read_8 : decode cL_read 8 = .ok (.goto 9, 3) := by decide +kernel
theorem dL_read_11 : decode cL_read 11 = .ok (.astore_n 3, 1) := by decide +kernel
theorem dL_read_12 : decode cL_read 12 = .ok (.iconst 1, 1) := by decide +kernel
theorem dL_read_13 : decode cL_read 13 = .ok (.ireturn, 1) := by decide +kernel
theorem dL_read_14 : decode cL_read 14 = .ok (.astore_n 3, 1) := by decide +kernel
theorem dL_read_15 : decode cL_read 15 = .ok (.iconst 2, 1) := by decide +kernel
theorem dL_read_16 : decode cL_read 16 = .ok (.ireturn, 1) := by decide +kernel
theorem dL_read_17 : decode cL_read 17 = .ok (.iconst 0, 1) := by decide +kernel
theorem dL_read_18 : decode cL_read 18 = .ok (.ireturn, 1) := by decide +kernel
set_option maxRecDepth 20000 in
theorem ggL_find_X7_find : GoodIn wsL_find wsX7_find := goodIn_ca (goodIn_r _ [6, 7, 8, 9, 10, 11, 12, 13, 14, 15, 16, 17, 18, 19, 20, 21, 22, 23, 24, 25, 26, 27, 28, 29, 30, 31, 32, 33, 34, 35, 36, 37, 38, 39, 40, 41, 42, 43] (by decide +kernel) (by decide +kernel)) (goodIn_sub (fun _ h => List.mem_cons_of_mem _ (List.mem_append_right _ h)) (by decide +kernel))
set_option maxRecDepth 20000 in
theorem gL_find_X7_find : GoodIn wsL_find (wsV RL 62 RX7 yX7_find wsX7_find) := goodIn_app (goodIn_of _ (by decide +kernel)) ggL_find_X7_find
theorem dL_find_0 : decode cL_find 0 = .ok (.aload 5, 2) := by decide +kernel
theorem dL_find_2 : decode cL_find 2 = .ok (.iconst 0, 1) := by decide +kernel
theorem dL_find_3 : decode cL_find 3 = .ok (.aload_n 0, 1) := by decide +kernel
theorem dL_find_4 : decode cL_find 4 = .ok (.iload_n 1, 1) := by decide +kernel
theorem dL_find_5 : decode cL_find 5 = .ok (.iload_n 2, 1) := by decide +kernel
theorem dL_find_6 : decode cL_find 6 = .ok (.iload_n 3, 1) := by decide +kernel
theorem dL_find_7 : decode cL_find 7 = .ok (.iload 4, 2) := by decide +kernel
theorem dL_find_9 : decode cL_find 9 = .ok (.invokevirtual 62, 3) := by decide +kernel
theorem dL_find_12 : decode cL_find 12 = .ok (.i2l, 1) := by decide +kernel
theorem dL_find_13 : decode cL_find 13 = .ok (.lastore, 1) := by decide +kernel
theorem dL_find_14 : decode cL_find 14 = .ok (.goto 7, 3) := by decide +kernel
theorem dL_find_17 : decode cL_find 17 = .ok (.astore 6, 2) := by decide +kernel
theorem dL_find_19 : decode cL_find 19 = .ok (.iconst 1, 1) := by decide +kernel
theorem dL_find_20 : decode cL_find 20 = .ok (.ireturn, 1) := by decide +kernel
theorem dL_find_21 : decode cL_find 21 = .ok (.iconst 0, 1) := by decide +kernel
theorem dL_find_22 : decode cL_find 22 = .ok (.ireturn, 1) := by decide +kernel
set_option maxRecDepth 20000 in
theorem ggL_draw_X7_draw : GoodIn wsL_draw wsX7_draw := goodIn_ca (goodIn_ca (goodIn_ca (goodIn_r _ [8, 9, 10, 11, 12, 13, 14, 15, 16, 17, 18, 19, 7, 20, 21, 22, 23, 24, 25, 26, 27, 28, 29, 30, 31, 32, 33, 34, 35, 36, 37, 38, 39, 40, 41, 42, 43, 44, 45, 46, 47, 48, 49, 50, 51, 52, 53, 54, 55, 56, 57, 58, 59, 60, 61, 62, 63, 64, 65, 66, 67, 68, 69, 70, 71, 72, 73, 74, 75, 76, 77, 78, 79, 80, 81, 82, 83, 84, 85, 86, 87, 88, 89, 90, 91, 92, 93, 94, 95, 96, 97, 98, 99, 100, 101, 102, 103, 104, 105, 106, 107, 108, 109, 110, 111, 112, 113, 114, 115, 116, 117, 118, 119, 120, 121, 122, 123, 124, 125, 126, 127, 128, 129, 130, 131, 132, 133, 134, 135, 136, 137, 138, 139, 140, 141, 142, 143, 144, 145, 146, 147, 148, 149, 150, 151, 152, 153, 154, 155, 156, 157, 158, 159, 160, 161, 162, 163, 164, 165, 166, 167, 168, 169, 170, 171, 172, 173, 174, 175, 176, 177, 178, 179, 180, 181, 182, 183, 184, 185, 186, 187, 188, 189, 190, 191, 192, 193, 194, 195, 196, 197, 198, 199, 200, 201, 202, 203, 204, 205, 206, 207, 208, 209] (by decide +kernel) (by decide +kernel)) (goodIn_sub (fun _ h => List.mem_cons_of_mem _ (List.mem_append_left _ (List.mem_append_left _ (List.mem_append_right _ h)))) (by decide +kernel))) (goodIn_sub (fun _ h => List.mem_cons_of_mem _ (List.mem_append_left _ (List.mem_append_right _ h))) (by decide +kernel))) (goodIn_sub (fun _ h => List.mem_cons_of_mem _ (List.mem_append_right _ h)) (by decide +kernel))
set_option maxRecDepth 20000 in
theorem gL_draw_X7_draw : GoodIn wsL_draw (wsV RL 66 RX7 yX7_draw wsX7_draw) := goodIn_app (goodIn_of _ (by decide +kernel)) ggL_draw_X7_draw
theorem dL_draw_0 : decode cL_draw 0 = .ok (.aload_n 3, 1) := by decide +kernel
theorem dL_draw_1 : decode cL_draw 1 = .ok (.iconst 0, 1) := by decide +kernel
theorem dL_draw_2 : decode cL_draw 2 = .ok (.aload_n 0, 1) := by decide +kernel
theorem dL_draw_3 : decode cL_draw 3 = .ok (.iload_n 1, 1) := by decide +kernel
theorem dL_draw_4 : decode cL_draw 4 = .ok (.iload_n 2, 1) := by decide +kernel
theorem dL_draw_5 : decode cL_draw 5 = .ok (.invokevirtual 66, 3) := by decide +kernel
theorem dL_draw_8 : decode cL_draw 8 = .ok (.i2l, 1) := by decide +kernel
theorem dL_draw_9 : decode cL_draw 9 = .ok (.lastore, 1) := by decide +kernel
theorem dL_draw_10 : decode cL_draw 10 = .ok (.goto 15, 3) := by decide +kernel
theorem dL_draw_13 : decode cL_draw 13 = .ok (.astore 4, 2) := by decide +kernel
theorem dL_draw_15 : decode cL_draw 15 = .ok (.iconst 1, 1) := by decide +kernel
theorem dL_draw_16 : decode cL_draw 16 = .ok (.ireturn, 1) := by decide +kernel
theorem dL_draw_17 : decode cL_draw 17 = .ok (.astore 4, 2) := by decide +kernel
theorem dL_draw_19 : decode cL_draw 19 = .ok (.iconst 2, 1) := by decide +kernel
theorem dL_draw_20 : decode cL_draw 20 = .ok (.ireturn, 1) := by decide +kernel
theorem dL_draw_21 : decode cL_draw 21 = .ok (.astore 4, 2) := by decide +kernel
theorem dL_draw_23 : decode cL_draw 23 = .ok (.iconst 3, 1) := by decide +kernel
theorem dL_draw_24 : decode cL_draw 24 = .ok (.ireturn, 1) := by decide +kernel
theorem dL_draw_25 : decode cL_draw 25 = .ok (.iconst 0, 1) := by decide +kernel
theorem dL_draw_26 : decode cL_draw 26 = .ok (.ireturn, 1) := by decide +kernel
set_option maxRecDepth 20000 in
theorem ggL_listed_X7_listed : GoodIn wsL_listed wsX7_listed := goodIn_ca (goodIn_r _ [6, 7, 8, 9, 10, 11, 5, 12, 13, 14, 15, 16, 17, 18, 19, 20, 21, 22, 23, 24, 25, 26, 27, 28, 29, 30, 31, 32, 33, 34, 35, 36, 37, 38, 39] (by decide +kernel) (by decide +kernel)) (goodIn_sub (fun _ h => List.mem_cons_of_mem _ (List.mem_append_right _ h)) (by decide +kernel))
set_option maxRecDepth 20000 in
theorem gL_listed_X7_listed : GoodIn wsL_listed (wsV RL 69 RX7 yX7_listed wsX7_listed) := goodIn_app (goodIn_of _ (by decide +kernel)) ggL_listed_X7_listed
theorem dL_listed_0 : decode cL_listed 0 = .ok (.aload_n 3, 1) := by decide +kernel
theorem dL_listed_1 : decode cL_listed 1 = .ok (.iconst 0, 1) := by decide +kernel
theorem dL_listed_2 : decode cL_listed 2 = .ok (.aload_n 0, 1) := by decide +kernel
theorem dL_listed_3 : decode cL_listed 3 = .ok (.iload_n 1, 1) := by decide +kernel
theorem dL_listed_4 : decode cL_listed 4 = .ok (.iload_n 2, 1) := by decide +kernel
theorem dL_listed_5 : decode cL_listed 5 = .ok (.invokevirtual 69, 3) := by decide +kernel
theorem dL_listed_8 : decode cL_listed 8 = .ok (.i2l, 1) := by decide +kernel
theorem dL_listed_9 : decode cL_listed 9 = .ok (.lastore, 1) := by decide +kernel
theorem dL_listed_10 : decode cL_listed 10 = .ok (.goto 7, 3) := by decide +kernel
theorem dL_listed_13 : decode cL_listed 13 = .ok (.astore 4, 2) := by decide +kernel
theorem dL_listed_15 : decode cL_listed 15 = .ok (.iconst 1, 1) := by decide +kernel
theorem dL_listed_16 : decode cL_listed 16 = .ok (.ireturn, 1) := by decide +kernel
theorem dL_listed_17 : decode cL_listed 17 = .ok (.iconst 0, 1) := by decide +kernel
theorem dL_listed_18 : decode cL_listed 18 = .ok (.ireturn, 1) := by decide +kernel
set_option maxRecDepth 20000 in
theorem ggL_approve_X7_approve : GoodIn wsL_approve wsX7_approve := goodIn_ca (goodIn_ca (goodIn_r _ [7, 8, 9, 10, 11, 12, 13, 14, 6, 15, 16, 17, 18, 19, 20, 21, 22, 23, 24, 25, 26, 27, 28, 29, 30, 31, 32, 33, 34, 35, 36, 37, 38, 39, 40, 41, 42, 43, 44, 45, 46, 47, 48, 49, 50, 51, 52, 53, 54, 55, 56, 57, 58, 59, 60, 61, 62, 63, 64, 65, 66, 67, 68, 69, 70, 71, 72, 73, 74, 75, 76, 77, 78, 79, 80, 81, 82, 83, 84, 85, 86, 87, 88, 89, 90, 91, 92, 93, 94, 95, 96, 97, 98, 99] (by decide +kernel) (by decide +kernel)) (goodIn_sub (fun _ h => List.mem_cons_of_mem _ (List.mem_append_left _ (List.mem_append_right _ h))) (by decide +kernel))) (goodIn_sub (fun _ h => List.mem_cons_of_mem _ (List.mem_append_right _ h)) (by decide +kernel))
set_option maxRecDepth 20000 in
theorem gL_approve_X7_approve : GoodIn wsL_approve (wsV RL 72 RX7 yX7_approve wsX7_approve) := goodIn_app (goodIn_of _ (by decide +kernel)) ggL_approve_X7_approve
theorem dL_approve_0 : decode cL_approve 0 = .ok (.aload_n 3, 1) := by decide +kernel
theorem dL_approve_1 : decode cL_approve 1 = .ok (.iconst 0, 1) := by decide +kernel
theorem dL_approve_2 : decode cL_approve 2 = .ok (.aload_n 0, 1) := by decide +kernel
theorem dL_approve_3 : decode cL_approve 3 = .ok (.iload_n 1, 1) := by decide +kernel
theorem dL_approve_4 : decode cL_approve 4 = .ok (.iload_n 2, 1) := by decide +kernel
theorem dL_approve_5 : decode cL_approve 5 = .ok (.invokevirtual 72, 3) := by decide +kernel
theorem dL_approve_8 : decode cL_approve 8 = .ok (.i2l, 1) := by decide +kernel
theorem dL_approve_9 : decode cL_approve 9 = .ok (.lastore, 1) := by decide +kernel
theorem dL_approve_10 : decode cL_approve 10 = .ok (.goto 11, 3) := by decide +kernel
theorem dL_approve_13 : decode cL_approve 13 = .ok (.astore 4, 2) := by decide +kernel
theorem dL_approve_15 : decode cL_approve 15 = .ok (.iconst 1, 1) := by decide +kernel
theorem dL_approve_16 : decode cL_approve 16 = .ok (.ireturn, 1) := by decide +kernel
theorem dL_approve_17 : decode cL_approve 17 = .ok (.astore 4, 2) := by decide +kernel
theorem dL_approve_19 : decode cL_approve 19 = .ok (.iconst 2, 1) := by decide +kernel
theorem dL_approve_20 : decode cL_approve 20 = .ok (.ireturn, 1) := by decide +kernel
theorem dL_approve_21 : decode cL_approve 21 = .ok (.iconst 0, 1) := by decide +kernel
theorem dL_approve_22 : decode cL_approve 22 = .ok (.ireturn, 1) := by decide +kernel
set_option maxRecDepth 20000 in
theorem ggL_strike_X7_strike : GoodIn wsL_strike wsX7_strike := goodIn_ca (goodIn_ca (goodIn_r _ [7, 8, 9, 10, 11, 12, 13, 6, 14, 15, 16, 17, 18, 19, 20, 21, 22, 23, 24, 25, 26, 27, 28, 29, 30, 31, 32, 33, 34, 35, 36, 37, 38, 39, 40, 41, 42, 43, 44, 45, 46, 47, 48, 49, 50, 51, 52, 53, 54, 55, 56, 57, 58, 59, 60, 61, 62, 63, 64, 65, 66, 67, 68, 69, 70, 71, 72, 73, 74, 75, 76, 77, 78, 79, 80, 81, 82, 83, 84, 85, 86, 87, 88, 89, 90, 91] (by decide +kernel) (by decide +kernel)) (goodIn_sub (fun _ h => List.mem_cons_of_mem _ (List.mem_append_left _ (List.mem_append_right _ h))) (by decide +kernel))) (goodIn_sub (fun _ h => List.mem_cons_of_mem _ (List.mem_append_right _ h)) (by decide +kernel))
set_option maxRecDepth 20000 in
theorem gL_strike_X7_strike : GoodIn wsL_strike (wsV RL 75 RX7 yX7_strike wsX7_strike) := goodIn_app (goodIn_of _ (by decide +kernel)) ggL_strike_X7_strike
theorem dL_strike_0 : decode cL_strike 0 = .ok (.aload_n 3, 1) := by decide +kernel
theorem dL_strike_1 : decode cL_strike 1 = .ok (.iconst 0, 1) := by decide +kernel
theorem dL_strike_2 : decode cL_strike 2 = .ok (.aload_n 0, 1) := by decide +kernel
theorem dL_strike_3 : decode cL_strike 3 = .ok (.iload_n 1, 1) := by decide +kernel
theorem dL_strike_4 : decode cL_strike 4 = .ok (.iload_n 2, 1) := by decide +kernel
theorem dL_strike_5 : decode cL_strike 5 = .ok (.invokevirtual 75, 3) := by decide +kernel
theorem dL_strike_8 : decode cL_strike 8 = .ok (.i2l, 1) := by decide +kernel
theorem dL_strike_9 : decode cL_strike 9 = .ok (.lastore, 1) := by decide +kernel
theorem dL_strike_10 : decode cL_strike 10 = .ok (.goto 11, 3) := by decide +kernel
theorem dL_strike_13 : decode cL_strike 13 = .ok (.astore 4, 2) := by decide +kernel
theorem dL_strike_15 : decode cL_strike 15 = .ok (.iconst 1, 1) := by decide +kernel
theorem dL_strike_16 : decode cL_strike 16 = .ok (.ireturn, 1) := by decide +kernel
theorem dL_strike_17 : decode cL_strike 17 = .ok (.astore 4, 2) := by decide +kernel
theorem dL_strike_19 : decode cL_strike 19 = .ok (.iconst 2, 1) := by decide +kernel
theorem dL_strike_20 : decode cL_strike 20 = .ok (.ireturn, 1) := by decide +kernel
theorem dL_strike_21 : decode cL_strike 21 = .ok (.iconst 0, 1) := by decide +kernel
theorem dL_strike_22 : decode cL_strike 22 = .ok (.ireturn, 1) := by decide +kernel
set_option maxRecDepth 20000 in
theorem ggL_carry_X7_carry : GoodIn wsL_carry wsX7_carry := goodIn_ca (goodIn_ca (goodIn_ca (goodIn_r _ [8, 9, 10, 11, 12, 13, 14, 15, 16, 17, 7, 18, 19, 20, 21, 22, 23, 24, 25, 26, 27, 28, 29, 30, 31, 32, 33, 34, 35, 36, 37, 38, 39, 40, 41, 42, 43, 44, 45, 46, 47, 48, 49, 50, 51, 52, 53, 54, 55, 56, 57, 58, 59, 60, 61, 62, 63, 64, 65, 66, 67, 68, 69, 70, 71, 72, 73, 74, 75, 76, 77, 78, 79, 80, 81, 82, 83, 84, 85, 86, 87, 88, 89, 90, 91, 92, 93, 94, 95, 96, 97, 98, 99, 100, 101, 102, 103, 104, 105, 106, 107, 108, 109, 110, 111, 112, 113, 114, 115, 116, 117, 118, 119, 120, 121, 122, 123, 124, 125, 126, 127, 128, 129, 130, 131, 132, 133, 134, 135, 136, 137, 138, 139, 140, 141, 142, 143, 144, 145, 146, 147, 148, 149, 150, 151, 152, 153, 154, 155, 156, 157, 158, 159, 160, 161, 162, 163, 164, 165, 166, 167, 168, 169, 170, 171, 172, 173, 174, 175, 176, 177, 178, 179, 180, 181, 182, 183, 184, 185, 186, 187, 188, 189, 190, 191, 192, 193, 194, 195, 196, 197, 198, 199, 200, 201, 202, 203, 204, 205, 206, 207, 208, 209, 210, 211, 212, 213, 214, 215, 216, 217, 218, 219, 220, 221, 222, 223, 224, 225, 226] (by decide +kernel) (by decide +kernel)) (goodIn_sub (fun _ h => List.mem_cons_of_mem _ (List.mem_append_left _ (List.mem_append_left _ (List.mem_append_right _ h)))) (by decide +kernel))) (goodIn_sub (fun _ h => List.mem_cons_of_mem _ (List.mem_append_left _ (List.mem_append_right _ h))) (by decide +kernel))) (goodIn_sub (fun _ h => List.mem_cons_of_mem _ (List.mem_append_right _ h)) (by decide +kernel))
set_option maxRecDepth 20000 in
theorem gL_carry_X7_carry : GoodIn wsL_carry (wsV RL 78 RX7 yX7_carry wsX7_carry) := goodIn_app (goodIn_of _ (by decide +kernel)) ggL_carry_X7_carry
theorem dL_carry_0 : decode cL_carry 0 = .ok (.aload 4, 2) := by decide +kernel
theorem dL_carry_2 : decode cL_carry 2 = .ok (.iconst 0, 1) := by decide +kernel
theorem dL_carry_3 : decode cL_carry 3 = .ok (.aload_n 0, 1) := by decide +kernel
theorem dL_carry_4 : decode cL_carry 4 = .ok (.iload_n 1, 1) := by decide +kernel
theorem dL_carry_5 : decode cL_carry 5 = .ok (.iload_n 2, 1) := by decide +kernel
theorem dL_carry_6 : decode cL_carry 6 = .ok (.iload_n 3, 1) := by decide +kernel
theorem dL_carry_7 : decode cL_carry 7 = .ok (.invokevirtual 78, 3) := by decide +kernel
theorem dL_carry_10 : decode cL_carry 10 = .ok (.i2l, 1) := by decide +kernel
theorem dL_carry_11 : decode cL_carry 11 = .ok (.lastore, 1) := by decide +kernel
theorem dL_carry_12 : decode cL_carry 12 = .ok (.goto 15, 3) := by decide +kernel
theorem dL_carry_15 : decode cL_carry 15 = .ok (.astore 5, 2) := by decide +kernel
theorem dL_carry_17 : decode cL_carry 17 = .ok (.iconst 1, 1) := by decide +kernel
theorem dL_carry_18 : decode cL_carry 18 = .ok (.ireturn, 1) := by decide +kernel
theorem dL_carry_19 : decode cL_carry 19 = .ok (.astore 5, 2) := by decide +kernel
theorem dL_carry_21 : decode cL_carry 21 = .ok (.iconst 2, 1) := by decide +kernel
theorem dL_carry_22 : decode cL_carry 22 = .ok (.ireturn, 1) := by decide +kernel
theorem dL_carry_23 : decode cL_carry 23 = .ok (.astore 5, 2) := by decide +kernel
theorem dL_carry_25 : decode cL_carry 25 = .ok (.iconst 3, 1) := by decide +kernel
theorem dL_carry_26 : decode cL_carry 26 = .ok (.ireturn, 1) := by decide +kernel
theorem dL_carry_27 : decode cL_carry 27 = .ok (.iconst 0, 1) := by decide +kernel
theorem dL_carry_28 : decode cL_carry 28 = .ok (.ireturn, 1) := by decide +kernel
set_option maxRecDepth 20000 in
theorem ggL_count_X7_count : GoodIn wsL_count wsX7_count := goodIn_ca (goodIn_r _ [6, 7, 8, 9, 10, 11, 12, 13, 14, 15, 16, 5, 17, 18, 19, 20, 21, 22, 23, 24, 25, 26, 27, 28, 29, 30, 31, 32, 33, 34, 35, 36, 37, 38, 39, 40, 41, 42] (by decide +kernel) (by decide +kernel)) (goodIn_sub (fun _ h => List.mem_cons_of_mem _ (List.mem_append_right _ h)) (by decide +kernel))
set_option maxRecDepth 20000 in
theorem gL_count_X7_count : GoodIn wsL_count (wsV RL 82 RX7 yX7_count wsX7_count) := goodIn_app (goodIn_of _ (by decide +kernel)) ggL_count_X7_count
theorem dL_count_0 : decode cL_count 0 = .ok (.aload_n 2, 1) := by decide +kernel
theorem dL_count_1 : decode cL_count 1 = .ok (.iconst 0, 1) := by decide +kernel
theorem dL_count_2 : decode cL_count 2 = .ok (.aload_n 0, 1) := by decide +kernel
theorem dL_count_3 : decode cL_count 3 = .ok (.iload_n 1, 1) := by decide +kernel
theorem dL_count_4 : decode cL_count 4 = .ok (.invokevirtual 82, 3) := by decide +kernel
theorem dL_count_7 : decode cL_count 7 = .ok (.i2l, 1) := by decide +kernel
theorem dL_count_8 : decode cL_count 8 = .ok (.lastore, 1) := by decide +kernel
theorem dL_count_9 : decode cL_count 9 = .ok (.goto 6, 3) := by decide +kernel
theorem dL_count_12 : decode cL_count 12 = .ok (.astore_n 3, 1) := by decide +kernel
theorem dL_count_13 : decode cL_count 13 = .ok (.iconst 1, 1) := by decide +kernel
theorem dL_count_14 : decode cL_count 14 = .ok (.ireturn, 1) := by decide +kernel
theorem dL_count_15 : decode cL_count 15 = .ok (.iconst 0, 1) := by decide +kernel
theorem dL_count_16 : decode cL_count 16 = .ok (.ireturn, 1) := by decide +kernel
set_option maxRecDepth 20000 in
theorem ggL_act_X7_act : GoodIn wsL_act wsX7_act := goodIn_ca (goodIn_ca (goodIn_r _ [7, 8, 9, 10, 11, 6, 12, 13, 14, 15, 16, 17, 18, 19, 20, 21, 22, 23, 24, 25, 26, 27, 28, 29, 30, 31, 32, 33, 34, 35, 36, 37, 38, 39, 40] (by decide +kernel) (by decide +kernel)) (goodIn_sub (fun _ h => List.mem_cons_of_mem _ (List.mem_append_left _ (List.mem_append_right _ h))) (by decide +kernel))) (goodIn_sub (fun _ h => List.mem_cons_of_mem _ (List.mem_append_right _ h)) (by decide +kernel))
set_option maxRecDepth 20000 in
theorem gL_act_X7_act : GoodIn wsL_act (wsV RL 85 RX7 yX7_act wsX7_act) := goodIn_app (goodIn_of _ (by decide +kernel)) ggL_act_X7_act
theorem dL_act_0 : decode cL_act 0 = .ok (.aload_n 3, 1) := by decide +kernel
theorem dL_act_1 : decode cL_act 1 = .ok (.iconst 0, 1) := by decide +kernel
theorem dL_act_2 : decode cL_act 2 = .ok (.aload_n 0, 1) := by decide +kernel
theorem dL_act_3 : decode cL_act 3 = .ok (.iload_n 1, 1) := by decide +kernel
theorem dL_act_4 : decode cL_act 4 = .ok (.iload_n 2, 1) := by decide +kernel
theorem dL_act_5 : decode cL_act 5 = .ok (.invokevirtual 85, 3) := by decide +kernel
theorem dL_act_8 : decode cL_act 8 = .ok (.i2l, 1) := by decide +kernel
theorem dL_act_9 : decode cL_act 9 = .ok (.lastore, 1) := by decide +kernel
theorem dL_act_10 : decode cL_act 10 = .ok (.goto 11, 3) := by decide +kernel
theorem dL_act_13 : decode cL_act 13 = .ok (.astore 4, 2) := by decide +kernel
theorem dL_act_15 : decode cL_act 15 = .ok (.iconst 1, 1) := by decide +kernel
theorem dL_act_16 : decode cL_act 16 = .ok (.ireturn, 1) := by decide +kernel
theorem dL_act_17 : decode cL_act 17 = .ok (.astore 4, 2) := by decide +kernel
theorem dL_act_19 : decode cL_act 19 = .ok (.iconst 2, 1) := by decide +kernel
theorem dL_act_20 : decode cL_act 20 = .ok (.ireturn, 1) := by decide +kernel
theorem dL_act_21 : decode cL_act 21 = .ok (.iconst 0, 1) := by decide +kernel
theorem dL_act_22 : decode cL_act 22 = .ok (.ireturn, 1) := by decide +kernel
set_option maxRecDepth 20000 in
theorem ggL_link_X7_link : GoodIn wsL_link wsX7_link := goodIn_ca (goodIn_r _ [6, 7, 8, 9, 10, 11, 5, 12, 13, 14, 15, 16, 17, 18, 19, 20, 21, 22, 23, 24, 25, 26, 27, 28, 29] (by decide +kernel) (by decide +kernel)) (goodIn_sub (fun _ h => List.mem_cons_of_mem _ (List.mem_append_right _ h)) (by decide +kernel))
set_option maxRecDepth 20000 in
theorem gL_link_X7_link : GoodIn wsL_link (wsV RL 88 RX7 yX7_link wsX7_link) := goodIn_app (goodIn_of _ (by decide +kernel)) ggL_link_X7_link
theorem dL_link_0 : decode cL_link 0 = .ok (.aload_n 2, 1) := by decide +kernel
theorem dL_link_1 : decode cL_link 1 = .ok (.iconst 0, 1) := by decide +kernel
theorem dL_link_2 : decode cL_link 2 = .ok (.aload_n 0, 1) := by decide +kernel
theorem dL_link_3 : decode cL_link 3 = .ok (.iload_n 1, 1) := by decide +kernel
theorem dL_link_4 : decode cL_link 4 = .ok (.invokevirtual 88, 3) := by decide +kernel
theorem dL_link_7 : decode cL_link 7 = .ok (.lastore, 1) := by decide +kernel
theorem dL_link_8 : decode cL_link 8 = .ok (.goto 6, 3) := by decide +kernel
theorem dL_link_11 : decode cL_link 11 = .ok (.astore_n 3, 1) := by decide +kernel
theorem dL_link_12 : decode cL_link 12 = .ok (.iconst 1, 1) := by decide +kernel
theorem dL_link_13 : decode cL_link 13 = .ok (.ireturn, 1) := by decide +kernel
theorem dL_link_14 : decode cL_link 14 = .ok (.iconst 0, 1) := by decide +kernel
theorem dL_link_15 : decode cL_link 15 = .ok (.ireturn, 1) := by decide +kernel
set_option maxRecDepth 20000 in
theorem ggL_spoil_X7_spoil : GoodIn wsL_spoil wsX7_spoil := goodIn_ca (goodIn_ca (goodIn_r _ [7, 8, 9, 10, 11, 6, 12, 13, 14, 15, 16, 17, 18, 19, 20, 21, 22, 23, 24, 25, 26, 27, 28, 29, 30, 31, 32, 33, 34, 35, 36, 37, 38, 39, 40] (by decide +kernel) (by decide +kernel)) (goodIn_sub (fun _ h => List.mem_cons_of_mem _ (List.mem_append_left _ (List.mem_append_right _ h))) (by decide +kernel))) (goodIn_sub (fun _ h => List.mem_cons_of_mem _ (List.mem_append_right _ h)) (by decide +kernel))
set_option maxRecDepth 20000 in
theorem gL_spoil_X7_spoil : GoodIn wsL_spoil (wsV RL 91 RX7 yX7_spoil wsX7_spoil) := goodIn_app (goodIn_of _ (by decide +kernel)) ggL_spoil_X7_spoil
theorem dL_spoil_0 : decode cL_spoil 0 = .ok (.aload_n 0, 1) := by decide +kernel
theorem dL_spoil_1 : decode cL_spoil 1 = .ok (.iload_n 1, 1) := by decide +kernel
theorem dL_spoil_2 : decode cL_spoil 2 = .ok (.iload_n 2, 1) := by decide +kernel
theorem dL_spoil_3 : decode cL_spoil 3 = .ok (.iload_n 3, 1) := by decide +kernel
theorem dL_spoil_4 : decode cL_spoil 4 = .ok (.invokevirtual 91, 3) := by decide +kernel
theorem dL_spoil_7 : decode cL_spoil 7 = .ok (.goto 11, 3) := by decide +kernel
theorem dL_spoil_10 : decode cL_spoil 10 = .ok (.astore 4, 2) := by decide +kernel
theorem dL_spoil_12 : decode cL_spoil 12 = .ok (.iconst 1, 1) := by decide +kernel
theorem dL_spoil_13 : decode cL_spoil 13 = .ok (.ireturn, 1) := by decide +kernel
theorem dL_spoil_14 : decode cL_spoil 14 = .ok (.astore 4, 2) := by decide +kernel
theorem dL_spoil_16 : decode cL_spoil 16 = .ok (.iconst 2, 1) := by decide +kernel
theorem dL_spoil_17 : decode cL_spoil 17 = .ok (.ireturn, 1) := by decide +kernel
theorem dL_spoil_18 : decode cL_spoil 18 = .ok (.iconst 0, 1) := by decide +kernel
theorem dL_spoil_19 : decode cL_spoil 19 = .ok (.ireturn, 1) := by decide +kernel
set_option maxRecDepth 20000 in
theorem ggL_later_X7_later : GoodIn wsL_later wsX7_later := goodIn_ca (goodIn_r _ [6, 7, 8, 5, 9, 10, 11, 12, 13, 14, 15, 16, 17, 18, 19, 20, 21, 22, 23, 24, 25, 26, 27, 28, 29, 30] (by decide +kernel) (by decide +kernel)) (goodIn_sub (fun _ h => List.mem_cons_of_mem _ (List.mem_append_right _ h)) (by decide +kernel))
set_option maxRecDepth 20000 in
theorem gL_later_X7_later : GoodIn wsL_later (wsV RL 95 RX7 yX7_later wsX7_later) := goodIn_app (goodIn_of _ (by decide +kernel)) ggL_later_X7_later
theorem dL_later_0 : decode cL_later 0 = .ok (.aload 4, 2) := by decide +kernel
theorem dL_later_2 : decode cL_later 2 = .ok (.iconst 0, 1) := by decide +kernel
theorem dL_later_3 : decode cL_later 3 = .ok (.aload_n 0, 1) := by decide +kernel
theorem dL_later_4 : decode cL_later 4 = .ok (.iload_n 1, 1) := by decide +kernel
theorem dL_later_5 : decode cL_later 5 = .ok (.iload_n 2, 1) := by decide +kernel
theorem dL_later_6 : decode cL_later 6 = .ok (.iload_n 3, 1) := by decide +kernel
theorem dL_later_7 : decode cL_later 7 = .ok (.invokevirtual 95, 3) := by decide +kernel
theorem dL_later_10 : decode cL_later 10 = .ok (.i2l, 1) := by decide +kernel
theorem dL_later_11 : decode cL_later 11 = .ok (.lastore, 1) := by decide +kernel
theorem dL_later_12 : decode cL_later 12 = .ok (.goto 7, 3) := by decide +kernel
theorem dL_later_15 : decode cL_later 15 = .ok (.astore 5, 2) := by decide +kernel
theorem dL_later_17 : decode cL_later 17 = .ok (.iconst 1, 1) := by decide +kernel
theorem dL_later_18 : decode cL_later 18 = .ok (.ireturn, 1) := by decide +kernel
theorem dL_later_19 : decode cL_later 19 = .ok (.iconst 0, 1) := by decide +kernel
theorem dL_later_20 : decode cL_later 20 = .ok (.ireturn, 1) := by decide +kernel
set_option maxRecDepth 20000 in
theorem ggL_law_X7_init : GoodIn wsL_law wsX7_init := goodIn_r _ [10, 11, 12, 13, 14, 15, 16, 17, 18, 19, 20, 21, 22, 23, 24, 25, 26, 27, 28, 29, 30, 31, 32, 33, 34, 35, 36, 37, 38, 6, 39, 40, 41, 42, 43, 44, 45, 46, 47, 48, 49, 744, 745, 746, 747, 748, 749, 750, 751, 752, 753, 754, 789, 790, 791, 792, 793, 794, 795, 796, 797, 798, 799, 800, 801, 802] (by decide +kernel) (by decide +kernel)
set_option maxRecDepth 20000 in
theorem gL_law_X7_init : GoodIn wsL_law (wsX7_init) := ggL_law_X7_init
set_option maxRecDepth 20000 in
theorem ggL_law_X8_init : GoodIn wsL_law wsX8_init := goodIn_r _ [52, 53, 12, 13, 14, 54, 55, 56, 57, 58, 59, 45, 60, 61, 62, 63, 64, 65, 66, 6, 67, 68, 69, 70, 71, 72, 73, 74, 75, 76, 77, 78, 79, 80, 81, 82, 755, 756, 757, 758, 759, 760, 761, 762, 763, 764, 765, 766, 767, 768, 769, 770, 771, 772, 773, 774, 775, 776, 777, 778, 779, 780, 781, 782, 783, 784, 785, 786, 787, 788] (by decide +kernel) (by decide +kernel)
set_option maxRecDepth 20000 in
theorem gL_law_X8_init : GoodIn wsL_law (wsX8_init) := ggL_law_X8_init
set_option maxRecDepth 20000 in
theorem ggL_law_L_officer : GoodIn wsL_law wsL_officer := goodIn_ca (goodIn_ca (goodIn_r _ [86, 87, 88, 89, 90, 91, 2, 92, 93, 94, 15, 95, 96, 97, 98, 99, 744, 745, 746, 747, 748, 749, 750, 751, 752, 753, 754] (by decide +kernel) (by decide +kernel)) (goodIn_sub (fun _ h => List.mem_append_left _ (List.mem_append_left _ (List.mem_append_right _ h))) (by decide +kernel))) (goodIn_sub (fun _ h => List.mem_append_left _ (List.mem_append_right _ h)) (by decide +kernel))
set_option maxRecDepth 20000 in
theorem gL_law_L_officer : GoodIn wsL_law (va_wsS RL 102 yL_officer wsL_officer) := goodIn_app (goodIn_of _ (by decide +kernel)) ggL_law_L_officer
set_option maxRecDepth 20000 in
theorem ggL_law_X8_officer : GoodIn wsL_law wsX8_officer := goodIn_r _ [103, 104, 54, 105, 106, 5, 107, 755, 756, 757, 758, 759, 760, 761, 762, 763, 764, 765, 766, 767, 768, 769, 770, 771, 772, 773, 774, 775, 776, 777, 778, 779, 780, 781, 782, 783, 784, 785, 786, 787, 788] (by decide +kernel) (by decide +kernel)
set_option maxRecDepth 20000 in
theorem gL_law_X8_officer : GoodIn wsL_law (wsV RL 107 RX8 yX8_officer wsX8_officer) := goodIn_app (goodIn_of _ (by decide +kernel)) ggL_law_X8_officer
set_option maxRecDepth 20000 in
theorem ggL_law_X8_thrown : GoodIn wsL_law wsX8_thrown := goodIn_r _ [111, 104, 755, 756, 757, 758, 759, 760, 761, 762, 763, 764, 765, 766, 767, 768, 769, 770, 771, 772, 773, 774, 775, 776, 777, 778, 779, 780, 781, 782, 783, 784, 785, 786, 787, 788] (by decide +kernel) (by decide +kernel)
set_option maxRecDepth 20000 in
theorem gL_law_X8_thrown : GoodIn wsL_law (wsV RL 108 RX8 yX8_thrown wsX8_thrown) := goodIn_app (goodIn_of _ (by decide +kernel)) ggL_law_X8_thrown
set_option maxRecDepth 20000 in
theorem ggL_law_L_version : GoodIn wsL_law wsL_version := goodIn_ca (goodIn_ca (goodIn_ca (goodIn_r _ [114, 87, 88, 115, 116, 117, 118, 2, 119, 93, 94, 120, 121, 17, 122, 29, 123, 124, 125, 98, 99, 126, 127, 128, 129, 130, 131, 132, 133, 134, 135, 32, 136, 137, 138, 43, 139, 140, 141, 142, 143, 144, 145, 146, 147, 44, 46, 148, 149, 150, 28, 151, 152, 39, 153, 154, 155, 156, 38, 157, 158, 159, 160, 161, 162, 163, 164, 165, 166, 167, 168, 744, 745, 746, 747, 748, 749, 750, 751, 752, 753, 754, 792, 793, 794, 795, 796, 789, 790, 791] (by decide +kernel) (by decide +kernel)) (goodIn_sub (fun _ h => List.mem_append_left _ (List.mem_append_left _ (List.mem_append_right _ h))) (by decide +kernel))) (goodIn_sub (fun _ h => List.mem_append_right _ h) (by decide +kernel))) (goodIn_sub (fun _ h => List.mem_append_left _ (List.mem_append_right _ h)) (by decide +kernel))
set_option maxRecDepth 20000 in
theorem gL_law_L_version : GoodIn wsL_law (va_wsS RL 112 yL_version wsL_version) := goodIn_app (goodIn_of _ (by decide +kernel)) ggL_law_L_version
set_option maxRecDepth 20000 in
theorem ggL_law_X8_version : GoodIn wsL_law wsX8_version := goodIn_r _ [172, 57, 104, 56, 58, 59, 60, 105, 106, 5, 107, 173, 174, 175, 176, 177, 178, 179, 180, 181, 182, 183, 184, 185, 186, 187, 188, 189, 81, 82, 190, 191, 192, 193, 194, 67, 195, 196, 197, 198, 755, 756, 757, 758, 759, 760, 761, 762, 763, 764, 765, 766, 767, 768, 769, 770, 771, 772, 773, 774, 775, 776, 777, 778, 779, 780, 781, 782, 783, 784, 785, 786, 787, 788] (by decide +kernel) (by decide +kernel)
set_option maxRecDepth 20000 in
theorem gL_law_X8_version : GoodIn wsL_law (wsV RL 115 RX8 yX8_version wsX8_version) := goodIn_app (goodIn_of _ (by decide +kernel)) ggL_law_X8_version
set_option maxRecDepth 20000 in
theorem ggL_law_L_fiscal : GoodIn wsL_law wsL_fiscal := goodIn_ca (goodIn_ca (goodIn_r _ [201, 88, 115, 202, 203, 204, 2, 205, 93, 94, 120, 121, 206, 30, 744, 745, 746, 747, 748, 749, 750, 751, 752, 753, 754] (by decide +kernel) (by decide +kernel)) (goodIn_sub (fun _ h => List.mem_append_left _ (List.mem_append_left _ (List.mem_append_right _ h))) (by decide +kernel))) (goodIn_sub (fun _ h => List.mem_append_right _ h) (by decide +kernel))
set_option maxRecDepth 20000 in
theorem gL_law_L_fiscal : GoodIn wsL_law (va_wsS RL 116 yL_fiscal wsL_fiscal) := goodIn_app (goodIn_of _ (by decide +kernel)) ggL_law_L_fiscal
set_option maxRecDepth 20000 in
theorem ggL_law_X8_fiscal : GoodIn wsL_law wsX8_fiscal := goodIn_r _ [210, 194, 104, 55, 105, 106, 5, 107, 755, 756, 757, 758, 759, 760, 761, 762, 763, 764, 765, 766, 767, 768, 769, 770, 771, 772, 773, 774, 775, 776, 777, 778, 779, 780, 781, 782, 783, 784, 785, 786, 787, 788] (by decide +kernel) (by decide +kernel)
set_option maxRecDepth 20000 in
theorem gL_law_X8_fiscal : GoodIn wsL_law (wsV RL 119 RX8 yX8_fiscal wsX8_fiscal) := goodIn_app (goodIn_of _ (by decide +kernel)) ggL_law_X8_fiscal
set_option maxRecDepth 20000 in
theorem ggL_law_L_open : GoodIn wsL_law wsL_open := goodIn_ca (goodIn_ca (goodIn_r _ [213, 87, 115, 214, 215, 216, 2, 217, 98, 99, 120, 121, 19, 17, 122, 18, 218, 219, 29, 123, 124, 125, 139, 140, 141, 142, 143, 220, 221, 222, 223, 12, 13, 224, 225, 226, 227, 148, 149, 150, 28, 151, 152, 39, 153, 154, 155, 156, 38, 157, 158, 159, 160, 161, 162, 163, 164, 165, 166, 167, 168, 744, 745, 746, 747, 748, 749, 750, 751, 752, 753, 754, 792, 793, 794, 795, 796, 803, 804, 805, 806, 789, 790, 791] (by decide +kernel) (by decide +kernel)) (goodIn_sub (fun _ h => List.mem_append_left _ (List.mem_append_right _ h)) (by decide +kernel))) (goodIn_sub (fun _ h => List.mem_append_right _ h) (by decide +kernel))
set_option maxRecDepth 20000 in
theorem gL_law_L_open : GoodIn wsL_law (va_wsS RL 120 yL_open wsL_open) := goodIn_app (goodIn_of _ (by decide +kernel)) ggL_law_L_open
set_option maxRecDepth 20000 in
theorem ggL_law_X8_open : GoodIn wsL_law wsX8_open := goodIn_r _ [231, 61, 57, 104, 105, 106, 5, 107, 181, 182, 183, 184, 185, 186, 187, 188, 189, 81, 82, 190, 191, 192, 193, 194, 67, 195, 196, 197, 198, 755, 756, 757, 758, 759, 760, 761, 762, 763, 764, 765, 766, 767, 768, 769, 770, 771, 772, 773, 774, 775, 776, 777, 778, 779, 780, 781, 782, 783, 784, 785, 786, 787, 788] (by decide +kernel) (by decide +kernel)
set_option maxRecDepth 20000 in
theorem gL_law_X8_open : GoodIn wsL_law (wsV RL 122 RX8 yX8_open wsX8_open) := goodIn_app (goodIn_of _ (by decide +kernel)) ggL_law_X8_open
set_option maxRecDepth 20000 in
theorem ggL_law_L_close : GoodIn wsL_law wsL_close := goodIn_ca (goodIn_ca (goodIn_ca (goodIn_r _ [234, 87, 88, 115, 235, 236, 237, 2, 238, 120, 121, 239, 240, 29, 241, 242, 243, 244, 98, 99, 19, 245, 246, 247, 248, 93, 94, 129, 130, 131, 132, 139, 140, 141, 142, 143, 148, 149, 150, 28, 151, 152, 39, 153, 154, 155, 156, 38, 157, 158, 159, 160, 161, 162, 163, 164, 165, 166, 167, 168, 803, 804, 805, 806, 744, 745, 746, 747, 748, 749, 750, 751, 752, 753, 754, 789, 790, 791] (by decide +kernel) (by decide +kernel)) (goodIn_sub (fun _ h => List.mem_append_right _ h) (by decide +kernel))) (goodIn_sub (fun _ h => List.mem_append_left _ (List.mem_append_right _ h)) (by decide +kernel))) (goodIn_sub (fun _ h => List.mem_append_left _ (List.mem_append_left _ (List.mem_append_right _ h))) (by decide +kernel))
set_option maxRecDepth 20000 in
theorem gL_law_L_close : GoodIn wsL_law (va_wsS RL 123 yL_close wsL_close) := goodIn_app (goodIn_of _ (by decide +kernel)) ggL_law_L_close
set_option maxRecDepth 20000 in
theorem ggL_law_X8_close : GoodIn wsL_law wsX8_close := goodIn_r _ [252, 62, 104, 253, 254, 255, 256, 5, 257, 61, 105, 106, 107, 258, 259, 260, 261, 177, 181, 182, 183, 184, 185, 186, 187, 188, 189, 81, 82, 190, 191, 192, 193, 194, 67, 195, 196, 197, 198, 755, 756, 757, 758, 759, 760, 761, 762, 763, 764, 765, 766, 767, 768, 769, 770, 771, 772, 773, 774, 775, 776, 777, 778, 779, 780, 781, 782, 783, 784, 785, 786, 787, 788] (by decide +kernel) (by decide +kernel)
set_option maxRecDepth 20000 in
theorem gL_law_X8_close : GoodIn wsL_law (wsV RL 125 RX8 yX8_close wsX8_close) := goodIn_app (goodIn_of _ (by decide +kernel)) ggL_law_X8_close
set_option maxRecDepth 20000 in
theorem ggL_law_L_left : GoodIn wsL_law wsL_left := goodIn_ca (goodIn_ca (goodIn_ca (goodIn_r _ [264, 87, 88, 115, 265, 266, 267, 2, 268, 120, 121, 269, 240, 29, 241, 242, 243, 244, 98, 99, 19, 245, 246, 247, 248, 93, 94, 129, 130, 131, 132, 139, 140, 141, 142, 143, 148, 149, 150, 28, 151, 152, 39, 153, 154, 155, 156, 38, 157, 158, 159, 160, 161, 162, 163, 164, 165, 166, 167, 168, 803, 804, 805, 806, 744, 745, 746, 747, 748, 749, 750, 751, 752, 753, 754, 789, 790, 791] (by decide +kernel) (by decide +kernel)) (goodIn_sub (fun _ h => List.mem_append_right _ h) (by decide +kernel))) (goodIn_sub (fun _ h => List.mem_append_left _ (List.mem_append_right _ h)) (by decide +kernel))) (goodIn_sub (fun _ h => List.mem_append_left _ (List.mem_append_left _ (List.mem_append_right _ h))) (by decide +kernel))
set_option maxRecDepth 20000 in
theorem gL_law_L_left : GoodIn wsL_law (va_wsS RL 126 yL_left wsL_left) := goodIn_app (goodIn_of _ (by decide +kernel)) ggL_law_L_left
set_option maxRecDepth 20000 in
theorem ggL_law_X8_left : GoodIn wsL_law wsX8_left := goodIn_r _ [273, 63, 104, 253, 254, 255, 256, 5, 257, 61, 105, 106, 107, 258, 259, 260, 261, 177, 181, 182, 183, 184, 185, 186, 187, 188, 189, 81, 82, 190, 191, 192, 193, 194, 67, 195, 196, 197, 198, 755, 756, 757, 758, 759, 760, 761, 762, 763, 764, 765, 766, 767, 768, 769, 770, 771, 772, 773, 774, 775, 776, 777, 778, 779, 780, 781, 782, 783, 784, 785, 786, 787, 788] (by decide +kernel) (by decide +kernel)
set_option maxRecDepth 20000 in
theorem gL_law_X8_left : GoodIn wsL_law (wsV RL 128 RX8 yX8_left wsX8_left) := goodIn_app (goodIn_of _ (by decide +kernel)) ggL_law_X8_left
set_option maxRecDepth 20000 in
theorem ggL_law_L_file : GoodIn wsL_law wsL_file := goodIn_ca (goodIn_ca (goodIn_ca (goodIn_r _ [276, 87, 88, 115, 277, 278, 279, 2, 280, 93, 94, 120, 121, 281, 239, 206, 23, 22, 282, 283, 240, 29, 241, 242, 243, 244, 98, 99, 19, 284, 285, 286, 245, 246, 247, 248, 129, 130, 131, 132, 139, 140, 141, 142, 143, 287, 288, 289, 290, 12, 13, 291, 292, 293, 294, 295, 296, 297, 148, 149, 150, 28, 151, 152, 39, 153, 154, 155, 156, 38, 157, 158, 159, 160, 161, 162, 163, 164, 165, 166, 167, 168, 803, 804, 805, 806, 744, 745, 746, 747, 748, 749, 750, 751, 752, 753, 754, 807, 808, 809, 810, 811, 812, 813, 814, 789, 790, 791] (by decide +kernel) (by decide +kernel)) (goodIn_sub (fun _ h => List.mem_append_left _ (List.mem_append_left _ (List.mem_append_right _ h))) (by decide +kernel))) (goodIn_sub (fun _ h => List.mem_append_right _ h) (by decide +kernel))) (goodIn_sub (fun _ h => List.mem_append_left _ (List.mem_append_right _ h)) (by decide +kernel))
set_option maxRecDepth 20000 in
theorem gL_law_L_file : GoodIn wsL_law (va_wsS RL 131 yL_file wsL_file) := goodIn_app (goodIn_of _ (by decide +kernel)) ggL_law_L_file
set_option maxRecDepth 20000 in
theorem ggL_law_X8_file : GoodIn wsL_law wsX8_file := goodIn_r _ [301, 302, 62, 194, 104, 64, 65, 66, 67, 68, 253, 105, 106, 5, 107, 258, 259, 260, 261, 177, 254, 255, 256, 257, 61, 181, 182, 183, 184, 185, 186, 187, 188, 189, 81, 82, 190, 191, 192, 193, 195, 196, 197, 198, 755, 756, 757, 758, 759, 760, 761, 762, 763, 764, 765, 766, 767, 768, 769, 770, 771, 772, 773, 774, 775, 776, 777, 778, 779, 780, 781, 782, 783, 784, 785, 786, 787, 788] (by decide +kernel) (by decide +kernel)
set_option maxRecDepth 20000 in
theorem gL_law_X8_file : GoodIn wsL_law (wsV RL 134 RX8 yX8_file wsX8_file) := goodIn_app (goodIn_of _ (by decide +kernel)) ggL_law_X8_file
set_option maxRecDepth 20000 in
theorem ggL_law_L_hold : GoodIn wsL_law wsL_hold := goodIn_ca (goodIn_ca (goodIn_ca (goodIn_r _ [305, 87, 88, 115, 306, 307, 308, 2, 309, 98, 99, 93, 94, 120, 121, 21, 310, 29, 311, 312, 313, 123, 124, 125, 284, 285, 286, 129, 130, 131, 132, 139, 140, 141, 142, 143, 314, 315, 316, 34, 317, 318, 319, 320, 321, 322, 323, 148, 149, 150, 28, 151, 152, 39, 153, 154, 155, 156, 38, 157, 158, 159, 160, 161, 162, 163, 164, 165, 166, 167, 168, 744, 745, 746, 747, 748, 749, 750, 751, 752, 753, 754, 797, 798, 799, 800, 801, 802, 789, 790, 791] (by decide +kernel) (by decide +kernel)) (goodIn_sub (fun _ h => List.mem_append_left _ (List.mem_append_right _ h)) (by decide +kernel))) (goodIn_sub (fun _ h => List.mem_append_left _ (List.mem_append_left _ (List.mem_append_right _ h))) (by decide +kernel))) (goodIn_sub (fun _ h => List.mem_append_right _ h) (by decide +kernel))
set_option maxRecDepth 20000 in
theorem gL_law_L_hold : GoodIn wsL_law (va_wsS RL 135 yL_hold wsL_hold) := goodIn_app (goodIn_of _ (by decide +kernel)) ggL_law_L_hold
set_option maxRecDepth 20000 in
theorem ggL_law_X8_hold : GoodIn wsL_law wsX8_hold := goodIn_r _ [327, 177, 70, 104, 71, 72, 73, 74, 75, 105, 106, 5, 107, 181, 182, 183, 184, 185, 186, 187, 188, 189, 81, 82, 190, 191, 192, 193, 194, 67, 195, 196, 197, 198, 755, 756, 757, 758, 759, 760, 761, 762, 763, 764, 765, 766, 767, 768, 769, 770, 771, 772, 773, 774, 775, 776, 777, 778, 779, 780, 781, 782, 783, 784, 785, 786, 787, 788] (by decide +kernel) (by decide +kernel)
set_option maxRecDepth 20000 in
theorem gL_law_X8_hold : GoodIn wsL_law (wsV RL 138 RX8 yX8_hold wsX8_hold) := goodIn_app (goodIn_of _ (by decide +kernel)) ggL_law_X8_hold
set_option maxRecDepth 20000 in
theorem ggL_law_L_lift : GoodIn wsL_law wsL_lift := goodIn_ca (goodIn_ca (goodIn_r _ [330, 87, 115, 331, 332, 333, 2, 334, 120, 121, 21, 310, 29, 311, 312, 313, 98, 99, 139, 140, 141, 142, 143, 148, 149, 150, 28, 151, 152, 39, 153, 154, 155, 156, 38, 157, 158, 159, 160, 161, 162, 163, 164, 165, 166, 167, 168, 744, 745, 746, 747, 748, 749, 750, 751, 752, 753, 754, 797, 798, 799, 800, 801, 802, 789, 790, 791] (by decide +kernel) (by decide +kernel)) (goodIn_sub (fun _ h => List.mem_append_right _ h) (by decide +kernel))) (goodIn_sub (fun _ h => List.mem_append_left _ (List.mem_append_right _ h)) (by decide +kernel))
set_option maxRecDepth 20000 in
theorem gL_law_L_lift : GoodIn wsL_law (va_wsS RL 139 yL_lift wsL_lift) := goodIn_app (goodIn_of _ (by decide +kernel)) ggL_law_L_lift
set_option maxRecDepth 20000 in
theorem ggL_law_X8_lift : GoodIn wsL_law wsX8_lift := goodIn_r _ [338, 70, 104, 105, 106, 5, 107, 181, 182, 183, 184, 185, 186, 187, 188, 189, 81, 82, 190, 191, 192, 193, 194, 67, 195, 196, 197, 198, 755, 756, 757, 758, 759, 760, 761, 762, 763, 764, 765, 766, 767, 768, 769, 770, 771, 772, 773, 774, 775, 776, 777, 778, 779, 780, 781, 782, 783, 784, 785, 786, 787, 788] (by decide +kernel) (by decide +kernel)
set_option maxRecDepth 20000 in
theorem gL_law_X8_lift : GoodIn wsL_law (wsV RL 141 RX8 yX8_lift wsX8_lift) := goodIn_app (goodIn_of _ (by decide +kernel)) ggL_law_X8_lift
set_option maxRecDepth 20000 in
theorem ggL_law_L_covered : GoodIn wsL_law wsL_covered := goodIn_ca (goodIn_r _ [341, 87, 342, 343, 344, 2, 345, 346, 347, 348, 349, 98, 99, 206, 23, 350, 351, 352, 353, 21, 354, 355, 356, 34, 357, 318, 319, 358, 359, 320, 360, 321, 322, 323, 361, 362, 363, 283, 364, 294, 295, 296, 365, 366, 367, 368, 297, 744, 745, 746, 747, 748, 749, 750, 751, 752, 753, 754, 797, 798, 799, 800, 801, 802, 807, 808, 809, 810, 811, 812, 813, 814, 803, 804, 805, 806] (by decide +kernel) (by decide +kernel)) (goodIn_sub (fun _ h => List.mem_append_left _ (List.mem_append_right _ h)) (by decide +kernel))
set_option maxRecDepth 20000 in
theorem gL_law_L_covered : GoodIn wsL_law (va_wsS RL 142 yL_covered wsL_covered) := goodIn_app (goodIn_of _ (by decide +kernel)) ggL_law_L_covered
set_option maxRecDepth 20000 in
theorem ggL_law_X8_covered : GoodIn wsL_law wsX8_covered := goodIn_r _ [372, 104, 373, 374, 375, 5, 376, 194, 105, 106, 107, 377, 378, 379, 380, 71, 64, 72, 61, 73, 70, 65, 74, 75, 381, 382, 383, 384, 68, 755, 756, 757, 758, 759, 760, 761, 762, 763, 764, 765, 766, 767, 768, 769, 770, 771, 772, 773, 774, 775, 776, 777, 778, 779, 780, 781, 782, 783, 784, 785, 786, 787, 788] (by decide +kernel) (by decide +kernel)
set_option maxRecDepth 20000 in
theorem gL_law_X8_covered : GoodIn wsL_law (wsV RL 145 RX8 yX8_covered wsX8_covered) := goodIn_app (goodIn_of _ (by decide +kernel)) ggL_law_X8_covered
set_option maxRecDepth 20000 in
theorem ggL_law_L_due : GoodIn wsL_law wsL_due := goodIn_ca (goodIn_r _ [387, 87, 388, 389, 390, 2, 391, 346, 347, 348, 349, 98, 99, 206, 23, 392, 393, 394, 395, 17, 396, 397, 398, 399, 400, 401, 402, 239, 269, 403, 30, 404, 405, 406, 407, 408, 409, 410, 411, 412, 413, 414, 415, 416, 417, 32, 418, 137, 43, 46, 44, 419, 420, 421, 422, 423, 424, 425, 744, 745, 746, 747, 748, 749, 750, 751, 752, 753, 754, 807, 808, 809, 810, 811, 812, 813, 814, 803, 804, 805, 806, 792, 793, 794, 795, 796] (by decide +kernel) (by decide +kernel)) (goodIn_sub (fun _ h => List.mem_append_left _ (List.mem_append_right _ h)) (by decide +kernel))
set_option maxRecDepth 20000 in
theorem gL_law_L_due : GoodIn wsL_law (va_wsS RL 146 yL_due wsL_due) := goodIn_app (goodIn_of _ (by decide +kernel)) ggL_law_L_due
set_option maxRecDepth 20000 in
theorem ggL_law_X8_due : GoodIn wsL_law wsX8_due := goodIn_r _ [429, 104, 373, 374, 375, 5, 376, 194, 105, 106, 107, 430, 431, 432, 433, 64, 61, 56, 65, 62, 63, 434, 435, 436, 437, 55, 438, 439, 440, 441, 442, 443, 444, 445, 446, 447, 448, 449, 450, 57, 59, 60, 58, 451, 452, 453, 755, 756, 757, 758, 759, 760, 761, 762, 763, 764, 765, 766, 767, 768, 769, 770, 771, 772, 773, 774, 775, 776, 777, 778, 779, 780, 781, 782, 783, 784, 785, 786, 787, 788] (by decide +kernel) (by decide +kernel)
set_option maxRecDepth 20000 in
theorem gL_law_X8_due : GoodIn wsL_law (wsV RL 148 RX8 yX8_due wsX8_due) := goodIn_app (goodIn_of _ (by decide +kernel)) ggL_law_X8_due
set_option maxRecDepth 20000 in
theorem ggL_law_L_record : GoodIn wsL_law wsL_record := goodIn_ca (goodIn_ca (goodIn_r _ [456, 87, 88, 457, 458, 459, 2, 460, 93, 94, 396, 461, 403, 462, 463, 346, 347, 348, 349, 98, 99, 206, 23, 464, 465, 466, 283, 467, 294, 295, 296, 807, 808, 809, 810, 811, 812, 813, 814, 803, 804, 805, 806, 744, 745, 746, 747, 748, 749, 750, 751, 752, 753, 754] (by decide +kernel) (by decide +kernel)) (goodIn_sub (fun _ h => List.mem_append_left _ (List.mem_append_left _ (List.mem_append_right _ h))) (by decide +kernel))) (goodIn_sub (fun _ h => List.mem_append_left _ (List.mem_append_right _ h)) (by decide +kernel))
set_option maxRecDepth 20000 in
theorem gL_law_L_record : GoodIn wsL_law (va_wsS RL 149 yL_record wsL_record) := goodIn_app (goodIn_of _ (by decide +kernel)) ggL_law_L_record
set_option maxRecDepth 20000 in
theorem ggL_law_X8_record : GoodIn wsL_law wsX8_record := goodIn_r _ [471, 104, 64, 65, 66, 69, 373, 374, 375, 5, 376, 194, 105, 106, 107, 472, 473, 474, 475, 381, 382, 383, 384, 68, 755, 756, 757, 758, 759, 760, 761, 762, 763, 764, 765, 766, 767, 768, 769, 770, 771, 772, 773, 774, 775, 776, 777, 778, 779, 780, 781, 782, 783, 784, 785, 786, 787, 788] (by decide +kernel) (by decide +kernel)
set_option maxRecDepth 20000 in
theorem gL_law_X8_record : GoodIn wsL_law (wsV RL 152 RX8 yX8_record wsX8_record) := goodIn_app (goodIn_of _ (by decide +kernel)) ggL_law_X8_record
set_option maxRecDepth 20000 in
theorem ggL_law_L_read : GoodIn wsL_law wsL_read := goodIn_ca (goodIn_ca (goodIn_r _ [478, 87, 115, 479, 480, 481, 2, 482, 120, 121, 463, 483, 346, 347, 348, 349, 98, 99, 206, 23, 807, 808, 809, 810, 811, 812, 813, 814, 744, 745, 746, 747, 748, 749, 750, 751, 752, 753, 754] (by decide +kernel) (by decide +kernel)) (goodIn_sub (fun _ h => List.mem_append_right _ h) (by decide +kernel))) (goodIn_sub (fun _ h => List.mem_append_left _ (List.mem_append_right _ h)) (by decide +kernel))
set_option maxRecDepth 20000 in
theorem gL_law_L_read : GoodIn wsL_law (va_wsS RL 153 yL_read wsL_read) := goodIn_app (goodIn_of _ (by decide +kernel)) ggL_law_L_read
set_option maxRecDepth 20000 in
theorem ggL_law_X8_read : GoodIn wsL_law wsX8_read := goodIn_r _ [487, 69, 104, 67, 373, 374, 375, 5, 376, 194, 105, 106, 107, 755, 756, 757, 758, 759, 760, 761, 762, 763, 764, 765, 766, 767, 768, 769, 770, 771, 772, 773, 774, 775, 776, 777, 778, 779, 780, 781, 782, 783, 784, 785, 786, 787, 788] (by decide +kernel) (by decide +kernel)
set_option maxRecDepth 20000 in
theorem gL_law_X8_read : GoodIn wsL_law (wsV RL 155 RX8 yX8_read wsX8_read) := goodIn_app (goodIn_of _ (by decide +kernel)) ggL_law_X8_read
set_option maxRecDepth 20000 in
theorem ggL_law_L_find : GoodIn wsL_law wsL_find := goodIn_ca (goodIn_r _ [490, 88, 491, 492, 493, 2, 494, 93, 94, 206, 23, 463, 495, 362, 363, 283, 364, 294, 295, 296, 496, 366, 367, 368, 297, 744, 745, 746, 747, 748, 749, 750, 751, 752, 753, 754, 807, 808, 809, 810, 811, 812, 813, 814] (by decide +kernel) (by decide +kernel)) (goodIn_sub (fun _ h => List.mem_append_left _ (List.mem_append_left _ (List.mem_append_right _ h))) (by decide +kernel))
set_option maxRecDepth 20000 in
theorem gL_law_L_find : GoodIn wsL_law (va_wsS RL 156 yL_find wsL_find) := goodIn_app (goodIn_of _ (by decide +kernel)) ggL_law_L_find
set_option maxRecDepth 20000 in
theorem ggL_law_X8_find : GoodIn wsL_law wsX8_find := goodIn_r _ [500, 104, 194, 69, 65, 105, 106, 5, 107, 381, 382, 383, 384, 68, 755, 756, 757, 758, 759, 760, 761, 762, 763, 764, 765, 766, 767, 768, 769, 770, 771, 772, 773, 774, 775, 776, 777, 778, 779, 780, 781, 782, 783, 784, 785, 786, 787, 788] (by decide +kernel) (by decide +kernel)
set_option maxRecDepth 20000 in
theorem gL_law_X8_find : GoodIn wsL_law (wsV RL 159 RX8 yX8_find wsX8_find) := goodIn_app (goodIn_of _ (by decide +kernel)) ggL_law_X8_find
set_option maxRecDepth 20000 in
theorem ggL_law_L_draw : GoodIn wsL_law wsL_draw := goodIn_ca (goodIn_ca (goodIn_ca (goodIn_r _ [503, 87, 88, 115, 504, 505, 506, 2, 507, 120, 121, 508, 25, 24, 509, 510, 240, 29, 95, 96, 97, 98, 99, 245, 246, 247, 248, 93, 94, 129, 130, 131, 132, 511, 512, 513, 514, 15, 139, 140, 141, 142, 143, 515, 516, 517, 518, 206, 23, 463, 350, 351, 352, 353, 21, 354, 355, 356, 34, 357, 318, 319, 358, 359, 320, 360, 321, 322, 323, 361, 362, 363, 283, 364, 294, 295, 296, 365, 366, 367, 368, 297, 392, 393, 394, 395, 17, 396, 397, 398, 399, 400, 401, 402, 239, 269, 403, 30, 404, 405, 406, 407, 408, 409, 410, 411, 412, 413, 414, 415, 416, 417, 32, 418, 137, 43, 46, 44, 419, 420, 421, 422, 423, 424, 425, 519, 520, 521, 522, 12, 13, 523, 524, 525, 526, 527, 528, 529, 530, 531, 532, 533, 534, 535, 536, 148, 149, 150, 28, 151, 152, 39, 153, 154, 155, 156, 38, 157, 158, 159, 160, 161, 162, 163, 164, 165, 166, 167, 168, 744, 745, 746, 747, 748, 749, 750, 751, 752, 753, 754, 815, 816, 817, 818, 789, 790, 791, 807, 808, 809, 810, 811, 812, 813, 814, 797, 798, 799, 800, 801, 802, 803, 804, 805, 806, 792, 793, 794, 795, 796] (by decide +kernel) (by decide +kernel)) (goodIn_sub (fun _ h => List.mem_append_right _ h) (by decide +kernel))) (goodIn_sub (fun _ h => List.mem_append_left _ (List.mem_append_right _ h)) (by decide +kernel))) (goodIn_sub (fun _ h => List.mem_append_left _ (List.mem_append_left _ (List.mem_append_right _ h))) (by decide +kernel))
set_option maxRecDepth 20000 in
theorem gL_law_L_draw : GoodIn wsL_law (va_wsS RL 160 yL_draw wsL_draw) := goodIn_app (goodIn_of _ (by decide +kernel)) ggL_law_L_draw
set_option maxRecDepth 20000 in
theorem ggL_law_X8_draw : GoodIn wsL_law wsX8_draw := goodIn_r _ [540, 194, 541, 104, 78, 76, 77, 253, 542, 543, 544, 5, 545, 69, 430, 431, 432, 433, 64, 61, 56, 65, 62, 63, 434, 435, 436, 437, 55, 438, 439, 440, 441, 442, 443, 444, 445, 446, 447, 448, 449, 450, 57, 59, 60, 58, 451, 452, 453, 377, 378, 379, 380, 71, 72, 73, 70, 74, 75, 381, 382, 383, 384, 68, 105, 106, 107, 546, 547, 548, 549, 258, 259, 260, 261, 177, 550, 551, 552, 553, 54, 181, 182, 183, 184, 185, 186, 187, 188, 189, 81, 82, 190, 191, 192, 193, 67, 195, 196, 197, 198, 755, 756, 757, 758, 759, 760, 761, 762, 763, 764, 765, 766, 767, 768, 769, 770, 771, 772, 773, 774, 775, 776, 777, 778, 779, 780, 781, 782, 783, 784, 785, 786, 787, 788] (by decide +kernel) (by decide +kernel)
set_option maxRecDepth 20000 in
theorem gL_law_X8_draw : GoodIn wsL_law (wsV RL 162 RX8 yX8_draw wsX8_draw) := goodIn_app (goodIn_of _ (by decide +kernel)) ggL_law_X8_draw
set_option maxRecDepth 20000 in
theorem ggL_law_L_listed : GoodIn wsL_law wsL_listed := goodIn_ca (goodIn_r _ [556, 87, 557, 558, 559, 2, 560, 98, 99, 561, 562, 563, 564, 508, 25, 565, 566, 567, 510, 568, 569, 570, 571, 572, 525, 744, 745, 746, 747, 748, 749, 750, 751, 752, 753, 754, 815, 816, 817, 818] (by decide +kernel) (by decide +kernel)) (goodIn_sub (fun _ h => List.mem_append_left _ (List.mem_append_right _ h)) (by decide +kernel))
set_option maxRecDepth 20000 in
theorem gL_law_L_listed : GoodIn wsL_law (va_wsS RL 163 yL_listed wsL_listed) := goodIn_app (goodIn_of _ (by decide +kernel)) ggL_law_L_listed
set_option maxRecDepth 20000 in
theorem ggL_law_X8_listed : GoodIn wsL_law wsX8_listed := goodIn_r _ [576, 104, 77, 76, 577, 578, 579, 5, 580, 541, 105, 106, 107, 755, 756, 757, 758, 759, 760, 761, 762, 763, 764, 765, 766, 767, 768, 769, 770, 771, 772, 773, 774, 775, 776, 777, 778, 779, 780, 781, 782, 783, 784, 785, 786, 787, 788] (by decide +kernel) (by decide +kernel)
set_option maxRecDepth 20000 in
theorem gL_law_X8_listed : GoodIn wsL_law (wsV RL 165 RX8 yX8_listed wsX8_listed) := goodIn_app (goodIn_of _ (by decide +kernel)) ggL_law_X8_listed
set_option maxRecDepth 20000 in
theorem ggL_law_L_approve : GoodIn wsL_law wsL_approve := goodIn_ca (goodIn_ca (goodIn_r _ [583, 87, 115, 584, 585, 586, 2, 587, 120, 121, 588, 29, 561, 562, 563, 564, 98, 99, 508, 25, 95, 96, 97, 589, 590, 591, 592, 511, 512, 513, 514, 15, 139, 140, 141, 142, 143, 593, 594, 595, 510, 596, 597, 598, 599, 600, 601, 148, 149, 150, 28, 151, 152, 39, 153, 154, 155, 156, 38, 157, 158, 159, 160, 161, 162, 163, 164, 165, 166, 167, 168, 602, 603, 604, 605, 606, 607, 608, 609, 610, 611, 612, 815, 816, 817, 818, 744, 745, 746, 747, 748, 749, 750, 751, 752, 753, 754, 789, 790, 791] (by decide +kernel) (by decide +kernel)) (goodIn_sub (fun _ h => List.mem_append_right _ h) (by decide +kernel))) (goodIn_sub (fun _ h => List.mem_append_left _ (List.mem_append_right _ h)) (by decide +kernel))
set_option maxRecDepth 20000 in
theorem gL_law_L_approve : GoodIn wsL_law (va_wsS RL 166 yL_approve wsL_approve) := goodIn_app (goodIn_of _ (by decide +kernel)) ggL_law_L_approve
set_option maxRecDepth 20000 in
theorem ggL_law_X8_approve : GoodIn wsL_law wsX8_approve := goodIn_r _ [616, 80, 78, 79, 104, 577, 578, 579, 5, 580, 541, 105, 106, 107, 546, 547, 548, 549, 550, 551, 552, 553, 54, 181, 182, 183, 184, 185, 186, 187, 188, 189, 81, 82, 190, 191, 192, 193, 194, 67, 195, 196, 197, 198, 617, 618, 619, 755, 756, 757, 758, 759, 760, 761, 762, 763, 764, 765, 766, 767, 768, 769, 770, 771, 772, 773, 774, 775, 776, 777, 778, 779, 780, 781, 782, 783, 784, 785, 786, 787, 788] (by decide +kernel) (by decide +kernel)
set_option maxRecDepth 20000 in
theorem gL_law_X8_approve : GoodIn wsL_law (wsV RL 168 RX8 yX8_approve wsX8_approve) := goodIn_app (goodIn_of _ (by decide +kernel)) ggL_law_X8_approve
set_option maxRecDepth 20000 in
theorem ggL_law_L_strike : GoodIn wsL_law wsL_strike := goodIn_ca (goodIn_ca (goodIn_r _ [622, 87, 115, 623, 624, 625, 2, 626, 98, 99, 29, 561, 562, 563, 564, 508, 25, 627, 570, 571, 510, 572, 525, 589, 590, 591, 120, 121, 592, 139, 140, 141, 142, 143, 628, 629, 630, 631, 632, 148, 149, 150, 28, 151, 152, 39, 153, 154, 155, 156, 38, 157, 158, 159, 160, 161, 162, 163, 164, 165, 166, 167, 168, 526, 527, 528, 529, 530, 531, 532, 533, 534, 535, 536, 744, 745, 746, 747, 748, 749, 750, 751, 752, 753, 754, 815, 816, 817, 818, 789, 790, 791] (by decide +kernel) (by decide +kernel)) (goodIn_sub (fun _ h => List.mem_append_left _ (List.mem_append_right _ h)) (by decide +kernel))) (goodIn_sub (fun _ h => List.mem_append_right _ h) (by decide +kernel))
set_option maxRecDepth 20000 in
theorem gL_law_L_strike : GoodIn wsL_law (va_wsS RL 169 yL_strike wsL_strike) := goodIn_app (goodIn_of _ (by decide +kernel)) ggL_law_L_strike
set_option maxRecDepth 20000 in
theorem ggL_law_X8_strike : GoodIn wsL_law wsX8_strike := goodIn_r _ [636, 80, 104, 77, 76, 577, 578, 579, 5, 580, 541, 105, 106, 107, 637, 638, 639, 640, 181, 182, 183, 184, 185, 186, 187, 188, 189, 81, 82, 190, 191, 192, 193, 194, 67, 195, 196, 197, 198, 755, 756, 757, 758, 759, 760, 761, 762, 763, 764, 765, 766, 767, 768, 769, 770, 771, 772, 773, 774, 775, 776, 777, 778, 779, 780, 781, 782, 783, 784, 785, 786, 787, 788] (by decide +kernel) (by decide +kernel)
set_option maxRecDepth 20000 in
theorem gL_law_X8_strike : GoodIn wsL_law (wsV RL 171 RX8 yX8_strike wsX8_strike) := goodIn_app (goodIn_of _ (by decide +kernel)) ggL_law_X8_strike
set_option maxRecDepth 20000 in
theorem ggL_law_L_carry : GoodIn wsL_law wsL_carry := goodIn_ca (goodIn_ca (goodIn_ca (goodIn_r _ [643, 87, 88, 115, 644, 645, 646, 2, 647, 120, 121, 648, 592, 240, 29, 561, 562, 563, 564, 98, 99, 508, 25, 95, 96, 97, 245, 246, 247, 248, 93, 94, 129, 130, 131, 132, 589, 590, 591, 511, 512, 513, 514, 15, 602, 603, 604, 510, 605, 597, 606, 607, 608, 609, 610, 611, 612, 515, 516, 517, 518, 206, 23, 463, 350, 351, 352, 353, 21, 354, 355, 356, 34, 357, 318, 319, 358, 359, 320, 360, 321, 322, 323, 361, 362, 363, 283, 364, 294, 295, 296, 365, 366, 367, 368, 297, 392, 393, 394, 395, 17, 396, 397, 398, 399, 400, 401, 402, 239, 269, 403, 30, 404, 405, 406, 407, 408, 409, 410, 411, 412, 413, 414, 415, 416, 417, 32, 418, 137, 43, 46, 44, 419, 420, 421, 422, 423, 424, 425, 649, 531, 532, 533, 534, 535, 536, 139, 140, 141, 142, 143, 650, 651, 652, 653, 483, 148, 149, 150, 28, 151, 152, 39, 153, 154, 155, 156, 38, 157, 158, 159, 160, 161, 162, 163, 164, 165, 166, 167, 168, 526, 527, 528, 529, 525, 530, 815, 816, 817, 818, 744, 745, 746, 747, 748, 749, 750, 751, 752, 753, 754, 807, 808, 809, 810, 811, 812, 813, 814, 797, 798, 799, 800, 801, 802, 803, 804, 805, 806, 792, 793, 794, 795, 796, 789, 790, 791] (by decide +kernel) (by decide +kernel)) (goodIn_sub (fun _ h => List.mem_append_right _ h) (by decide +kernel))) (goodIn_sub (fun _ h => List.mem_append_left _ (List.mem_append_right _ h)) (by decide +kernel))) (goodIn_sub (fun _ h => List.mem_append_left _ (List.mem_append_left _ (List.mem_append_right _ h))) (by decide +kernel))
set_option maxRecDepth 20000 in
theorem gL_law_L_carry : GoodIn wsL_law (va_wsS RL 172 yL_carry wsL_carry) := goodIn_app (goodIn_of _ (by decide +kernel)) ggL_law_L_carry
set_option maxRecDepth 20000 in
theorem ggL_law_X8_carry : GoodIn wsL_law wsX8_carry := goodIn_r _ [657, 77, 76, 80, 79, 104, 253, 69, 577, 578, 579, 5, 580, 541, 105, 106, 107, 546, 547, 548, 549, 542, 543, 544, 545, 430, 431, 432, 433, 64, 61, 56, 65, 62, 63, 434, 435, 436, 437, 55, 438, 439, 440, 441, 442, 443, 444, 445, 446, 447, 448, 449, 450, 57, 59, 60, 58, 451, 452, 453, 377, 378, 379, 380, 71, 72, 73, 70, 74, 75, 381, 382, 383, 384, 68, 258, 259, 260, 261, 177, 617, 618, 619, 550, 551, 552, 553, 54, 181, 182, 183, 184, 185, 186, 187, 188, 189, 81, 82, 190, 191, 192, 193, 194, 67, 195, 196, 197, 198, 755, 756, 757, 758, 759, 760, 761, 762, 763, 764, 765, 766, 767, 768, 769, 770, 771, 772, 773, 774, 775, 776, 777, 778, 779, 780, 781, 782, 783, 784, 785, 786, 787, 788] (by decide +kernel) (by decide +kernel)
set_option maxRecDepth 20000 in
theorem gL_law_X8_carry : GoodIn wsL_law (wsV RL 175 RX8 yX8_carry wsX8_carry) := goodIn_app (goodIn_of _ (by decide +kernel)) ggL_law_X8_carry
set_option maxRecDepth 20000 in
theorem ggL_law_L_count : GoodIn wsL_law wsL_count := goodIn_ca (goodIn_r _ [660, 88, 661, 662, 663, 2, 664, 93, 94, 206, 508, 29, 143, 240, 665, 666, 667, 668, 23, 463, 462, 744, 745, 746, 747, 748, 749, 750, 751, 752, 753, 754, 789, 790, 791, 807, 808, 809, 810, 811, 812, 813, 814] (by decide +kernel) (by decide +kernel)) (goodIn_sub (fun _ h => List.mem_append_left _ (List.mem_append_left _ (List.mem_append_right _ h))) (by decide +kernel))
set_option maxRecDepth 20000 in
theorem gL_law_L_count : GoodIn wsL_law (va_wsS RL 176 yL_count wsL_count) := goodIn_app (goodIn_of _ (by decide +kernel)) ggL_law_L_count
set_option maxRecDepth 20000 in
theorem ggL_law_X8_count : GoodIn wsL_law wsX8_count := goodIn_r _ [672, 104, 194, 541, 185, 253, 69, 66, 105, 106, 5, 107, 755, 756, 757, 758, 759, 760, 761, 762, 763, 764, 765, 766, 767, 768, 769, 770, 771, 772, 773, 774, 775, 776, 777, 778, 779, 780, 781, 782, 783, 784, 785, 786, 787, 788] (by decide +kernel) (by decide +kernel)
set_option maxRecDepth 20000 in
theorem gL_law_X8_count : GoodIn wsL_law (wsV RL 178 RX8 yX8_count wsX8_count) := goodIn_app (goodIn_of _ (by decide +kernel)) ggL_law_X8_count
set_option maxRecDepth 20000 in
theorem ggL_law_L_act : GoodIn wsL_law wsL_act := goodIn_ca (goodIn_ca (goodIn_r _ [675, 87, 88, 676, 677, 678, 2, 679, 29, 680, 681, 682, 683, 98, 99, 143, 684, 685, 686, 93, 94, 687, 162, 163, 28, 164, 38, 744, 745, 746, 747, 748, 749, 750, 751, 752, 753, 754, 789, 790, 791] (by decide +kernel) (by decide +kernel)) (goodIn_sub (fun _ h => List.mem_append_left _ (List.mem_append_right _ h)) (by decide +kernel))) (goodIn_sub (fun _ h => List.mem_append_left _ (List.mem_append_left _ (List.mem_append_right _ h))) (by decide +kernel))
set_option maxRecDepth 20000 in
theorem gL_law_L_act : GoodIn wsL_law (va_wsS RL 179 yL_act wsL_act) := goodIn_app (goodIn_of _ (by decide +kernel)) ggL_law_L_act
set_option maxRecDepth 20000 in
theorem ggL_law_X8_act : GoodIn wsL_law wsX8_act := goodIn_r _ [691, 104, 81, 692, 693, 694, 5, 695, 185, 105, 106, 107, 755, 756, 757, 758, 759, 760, 761, 762, 763, 764, 765, 766, 767, 768, 769, 770, 771, 772, 773, 774, 775, 776, 777, 778, 779, 780, 781, 782, 783, 784, 785, 786, 787, 788] (by decide +kernel) (by decide +kernel)
set_option maxRecDepth 20000 in
theorem gL_law_X8_act : GoodIn wsL_law (wsV RL 181 RX8 yX8_act wsX8_act) := goodIn_app (goodIn_of _ (by decide +kernel)) ggL_law_X8_act
set_option maxRecDepth 20000 in
theorem ggL_law_L_link : GoodIn wsL_law wsL_link := goodIn_ca (goodIn_r _ [698, 87, 699, 700, 701, 2, 702, 29, 703, 680, 681, 682, 683, 98, 99, 143, 744, 745, 746, 747, 748, 749, 750, 751, 752, 753, 754, 789, 790, 791] (by decide +kernel) (by decide +kernel)) (goodIn_sub (fun _ h => List.mem_append_left _ (List.mem_append_right _ h)) (by decide +kernel))
set_option maxRecDepth 20000 in
theorem gL_law_L_link : GoodIn wsL_law (va_wsS RL 182 yL_link wsL_link) := goodIn_app (goodIn_of _ (by decide +kernel)) ggL_law_L_link
set_option maxRecDepth 20000 in
theorem ggL_law_X8_link : GoodIn wsL_law wsX8_link := goodIn_r _ [707, 104, 82, 692, 693, 694, 5, 695, 185, 105, 106, 107, 755, 756, 757, 758, 759, 760, 761, 762, 763, 764, 765, 766, 767, 768, 769, 770, 771, 772, 773, 774, 775, 776, 777, 778, 779, 780, 781, 782, 783, 784, 785, 786, 787, 788] (by decide +kernel) (by decide +kernel)
set_option maxRecDepth 20000 in
theorem gL_law_X8_link : GoodIn wsL_law (wsV RL 184 RX8 yX8_link wsX8_link) := goodIn_app (goodIn_of _ (by decide +kernel)) ggL_law_X8_link
set_option maxRecDepth 20000 in
theorem ggL_law_L_spoil : GoodIn wsL_law wsL_spoil := goodIn_ca (goodIn_ca (goodIn_r _ [710, 87, 88, 711, 712, 713, 2, 714, 29, 680, 681, 682, 683, 98, 99, 143, 684, 685, 686, 93, 94, 715, 154, 155, 28, 156, 38, 744, 745, 746, 747, 748, 749, 750, 751, 752, 753, 754, 789, 790, 791] (by decide +kernel) (by decide +kernel)) (goodIn_sub (fun _ h => List.mem_append_left _ (List.mem_append_right _ h)) (by decide +kernel))) (goodIn_sub (fun _ h => List.mem_append_left _ (List.mem_append_left _ (List.mem_append_right _ h))) (by decide +kernel))
set_option maxRecDepth 20000 in
theorem gL_law_L_spoil : GoodIn wsL_law (va_wsS RL 185 yL_spoil wsL_spoil) := goodIn_app (goodIn_of _ (by decide +kernel)) ggL_law_L_spoil
set_option maxRecDepth 20000 in
theorem ggL_law_X8_spoil : GoodIn wsL_law wsX8_spoil := goodIn_r _ [719, 104, 81, 692, 693, 694, 5, 695, 185, 105, 106, 107, 755, 756, 757, 758, 759, 760, 761, 762, 763, 764, 765, 766, 767, 768, 769, 770, 771, 772, 773, 774, 775, 776, 777, 778, 779, 780, 781, 782, 783, 784, 785, 786, 787, 788] (by decide +kernel) (by decide +kernel)
set_option maxRecDepth 20000 in
theorem gL_law_X8_spoil : GoodIn wsL_law (wsV RL 188 RX8 yX8_spoil wsX8_spoil) := goodIn_app (goodIn_of _ (by decide +kernel)) ggL_law_X8_spoil
set_option maxRecDepth 20000 in
theorem ggL_law_X7_broken : GoodIn wsL_law wsX7_broken := goodIn_r _ [723, 29, 143, 703, 687, 162, 163, 28, 164, 38, 724, 725, 726, 2, 727, 206, 23, 483, 728, 158, 159, 160, 39, 161, 165, 166, 167, 168, 744, 745, 746, 747, 748, 749, 750, 751, 752, 753, 754, 789, 790, 791, 807, 808, 809, 810, 811, 812, 813, 814] (by decide +kernel) (by decide +kernel)
set_option maxRecDepth 20000 in
theorem gL_law_X7_broken : GoodIn wsL_law (wsV RL 189 RX7 yX7_broken wsX7_broken) := goodIn_app (goodIn_of _ (by decide +kernel)) ggL_law_X7_broken
set_option maxRecDepth 20000 in
theorem ggL_law_X8_broken : GoodIn wsL_law wsX8_broken := goodIn_r _ [732, 104, 185, 82, 190, 191, 192, 5, 193, 81, 194, 67, 195, 196, 197, 198, 105, 106, 107, 755, 756, 757, 758, 759, 760, 761, 762, 763, 764, 765, 766, 767, 768, 769, 770, 771, 772, 773, 774, 775, 776, 777, 778, 779, 780, 781, 782, 783, 784, 785, 786, 787, 788] (by decide +kernel) (by decide +kernel)
set_option maxRecDepth 20000 in
theorem gL_law_X8_broken : GoodIn wsL_law (wsV RL 192 RX8 yX8_broken wsX8_broken) := goodIn_app (goodIn_of _ (by decide +kernel)) ggL_law_X8_broken
set_option maxRecDepth 20000 in
theorem ggL_law_L_later : GoodIn wsL_law wsL_later := goodIn_ca (goodIn_r _ [735, 88, 736, 737, 738, 2, 739, 129, 130, 131, 93, 94, 132, 126, 127, 128, 419, 420, 406, 421, 422, 423, 424, 425, 408, 409, 410, 411, 412, 413, 414] (by decide +kernel) (by decide +kernel)) (goodIn_sub (fun _ h => List.mem_append_left _ (List.mem_append_left _ (List.mem_append_right _ h))) (by decide +kernel))
set_option maxRecDepth 20000 in
theorem gL_law_L_later : GoodIn wsL_law (va_wsS RL 193 yL_later wsL_later) := goodIn_app (goodIn_of _ (by decide +kernel)) ggL_law_L_later
set_option maxRecDepth 20000 in
theorem ggL_law_X8_later : GoodIn wsL_law wsX8_later := goodIn_r _ [743, 177, 104, 105, 106, 5, 107, 178, 179, 180, 451, 452, 453, 438, 439, 440, 441, 442, 443, 444, 445, 446, 755, 756, 757, 758, 759, 760, 761, 762, 763, 764, 765, 766, 767, 768, 769, 770, 771, 772, 773, 774, 775, 776, 777, 778, 779, 780, 781, 782, 783, 784, 785, 786, 787, 788] (by decide +kernel) (by decide +kernel)
set_option maxRecDepth 20000 in
theorem gL_law_X8_later : GoodIn wsL_law (wsV RL 195 RX8 yX8_later wsX8_later) := goodIn_app (goodIn_of _ (by decide +kernel)) ggL_law_X8_later
theorem dL_law_0 : decode cL_law 0 = .ok (.new 8, 3) := by decide +kernel
theorem dL_law_3 : decode cL_law 3 = .ok (.dup, 1) := by decide +kernel
theorem dL_law_4 : decode cL_law 4 = .ok (.invokespecial 98, 3) := by decide +kernel
theorem dL_law_7 : decode cL_law 7 = .ok (.astore_n 1, 1) := by decide +kernel
theorem dL_law_8 : decode cL_law 8 = .ok (.new 99, 3) := by decide +kernel
theorem dL_law_11 : decode cL_law 11 = .ok (.dup, 1) := by decide +kernel
theorem dL_law_12 : decode cL_law 12 = .ok (.invokespecial 101, 3) := by decide +kernel
theorem dL_law_15 : decode cL_law 15 = .ok (.astore_n 2, 1) := by decide +kernel
theorem dL_law_16 : decode cL_law 16 = .ok (.iconst 1, 1) := by decide +kernel
theorem dL_law_17 : decode cL_law 17 = .ok (.newarray .long, 2) := by decide +kernel
theorem dL_law_19 : decode cL_law 19 = .ok (.astore_n 3, 1) := by decide +kernel
theorem dL_law_20 : decode cL_law 20 = .ok (.iconst 0, 1) := by decide +kernel
theorem dL_law_21 : decode cL_law 21 = .ok (.istore 4, 2) := by decide +kernel
theorem dL_law_23 : decode cL_law 23 = .ok (.iload 4, 2) := by decide +kernel
theorem dL_law_25 : decode cL_law 25 = .ok (.aload_n 0, 1) := by decide +kernel
theorem dL_law_26 : decode cL_law 26 = .ok (.arraylength, 1) := by decide +kernel
theorem dL_law_27 : decode cL_law 27 = .ok (.bipush 9, 2) := by decide +kernel
theorem dL_law_29 : decode cL_law 29 = .ok (.isub, 1) := by decide +kernel
theorem dL_law_30 : decode cL_law 30 = .ok (.if_icmp .gt 1805, 3) := by decide +kernel
theorem dL_law_33 : decode cL_law 33 = .ok (.aload_n 0, 1) := by decide +kernel
theorem dL_law_34 : decode cL_law 34 = .ok (.iload 4, 2) := by decide +kernel
theorem dL_law_36 : decode cL_law 36 = .ok (.iaload, 1) := by decide +kernel
theorem dL_law_37 : decode cL_law 37 = .ok (.bipush 31, 2) := by decide +kernel
theorem dL_law_39 : decode cL_law 39 = .ok (.iand, 1) := by decide +kernel
theorem dL_law_40 : decode cL_law 40 = .ok (.tableswitch 1789 0 24 #[116, 164, 298, 334, 382, 430, 478, 644, 742, 778, 834, 890, 958, 1013, 1105, 1173, 1241, 1309, 1377, 1457, 1513, 1581, 1636, 1696, 1709], 116) := by decide +kernel
theorem dL_law_156 : decode cL_law 156 = .ok (.aload_n 1, 1) := by decide +kernel
theorem dL_law_157 : decode cL_law 157 = .ok (.aload_n 0, 1) := by decide +kernel
theorem dL_law_158 : decode cL_law 158 = .ok (.iload 4, 2) := by decide +kernel
theorem dL_law_160 : decode cL_law 160 = .ok (.iconst 1, 1) := by decide +kernel
theorem dL_law_161 : decode cL_law 161 = .ok (.iadd, 1) := by decide +kernel
theorem dL_law_162 : decode cL_law 162 = .ok (.iaload, 1) := by decide +kernel
theorem dL_law_163 : decode cL_law 163 = .ok (.aload_n 0, 1) := by decide +kernel
theorem dL_law_164 : decode cL_law 164 = .ok (.iload 4, 2) := by decide +kernel
theorem dL_law_166 : decode cL_law 166 = .ok (.iconst 2, 1) := by decide +kernel
theorem dL_law_167 : decode cL_law 167 = .ok (.iadd, 1) := by decide +kernel
theorem dL_law_168 : decode cL_law 168 = .ok (.iaload, 1) := by decide +kernel
theorem dL_law_169 : decode cL_law 169 = .ok (.invokestatic 102, 3) := by decide +kernel
theorem dL_law_172 : decode cL_law 172 = .ok (.istore 5, 2) := by decide +kernel
theorem dL_law_174 : decode cL_law 174 = .ok (.aload_n 2, 1) := by decide +kernel
theorem dL_law_175 : decode cL_law 175 = .ok (.aload_n 0, 1) := by decide +kernel
theorem dL_law_176 : decode cL_law 176 = .ok (.iload 4, 2) := by decide +kernel
theorem dL_law_178 : decode cL_law 178 = .ok (.iconst 1, 1) := by decide +kernel
theorem dL_law_179 : decode cL_law 179 = .ok (.iadd, 1) := by decide +kernel
theorem dL_law_180 : decode cL_law 180 = .ok (.iaload, 1) := by decide +kernel
theorem dL_law_181 : decode cL_law 181 = .ok (.aload_n 0, 1) := by decide +kernel
theorem dL_law_182 : decode cL_law 182 = .ok (.iload 4, 2) := by decide +kernel
theorem dL_law_184 : decode cL_law 184 = .ok (.iconst 2, 1) := by decide +kernel
theorem dL_law_185 : decode cL_law 185 = .ok (.iadd, 1) := by decide +kernel
theorem dL_law_186 : decode cL_law 186 = .ok (.iaload, 1) := by decide +kernel
theorem dL_law_187 : decode cL_law 187 = .ok (.invokevirtual 107, 3) := by decide +kernel
theorem dL_law_190 : decode cL_law 190 = .ok (.aload_n 2, 1) := by decide +kernel
theorem dL_law_191 : decode cL_law 191 = .ok (.invokevirtual 108, 3) := by decide +kernel
theorem dL_law_194 : decode cL_law 194 = .ok (.iload 5, 2) := by decide +kernel
theorem dL_law_196 : decode cL_law 196 = .ok (.if_icmp .eq 5, 3) := by decide +kernel
theorem dL_law_199 : decode cL_law 199 = .ok (.iconst 0, 1) := by decide +kernel
theorem dL_law_200 : decode cL_law 200 = .ok (.ireturn, 1) := by decide +kernel
theorem dL_law_201 : decode cL_law 201 = .ok (.goto 1628, 3) := by decide +kernel
theorem dL_law_204 : decode cL_law 204 = .ok (.aload_n 1, 1) := by decide +kernel
theorem dL_law_205 : decode cL_law 205 = .ok (.aload_n 0, 1) := by decide +kernel
theorem dL_law_206 : decode cL_law 206 = .ok (.iload 4, 2) := by decide +kernel
theorem dL_law_208 : decode cL_law 208 = .ok (.iconst 1, 1) := by decide +kernel
theorem dL_law_209 : decode cL_law 209 = .ok (.iadd, 1) := by decide +kernel
theorem dL_law_210 : decode cL_law 210 = .ok (.iaload, 1) := by decide +kernel
theorem dL_law_211 : decode cL_law 211 = .ok (.aload_n 0, 1) := by decide +kernel
theorem dL_law_212 : decode cL_law 212 = .ok (.iload 4, 2) := by decide +kernel
theorem dL_law_214 : decode cL_law 214 = .ok (.iconst 2, 1) := by decide +kernel
theorem dL_law_215 : decode cL_law 215 = .ok (.iadd, 1) := by decide +kernel
theorem dL_law_216 : decode cL_law 216 = .ok (.iaload, 1) := by decide +kernel
theorem dL_law_217 : decode cL_law 217 = .ok (.aload_n 0, 1) := by decide +kernel
theorem dL_law_218 : decode cL_law 218 = .ok (.iload 4, 2) := by decide +kernel
theorem dL_law_220 : decode cL_law 220 = .ok (.iconst 3, 1) := by decide +kernel
theorem dL_law_221 : decode cL_law 221 = .ok (.iadd, 1) := by decide +kernel
theorem dL_law_222 : decode cL_law 222 = .ok (.iaload, 1) := by decide +kernel
theorem dL_law_223 : decode cL_law 223 = .ok (.aload_n 0, 1) := by decide +kernel
theorem dL_law_224 : decode cL_law 224 = .ok (.iload 4, 2) := by decide +kernel
theorem dL_law_226 : decode cL_law 226 = .ok (.iconst 4, 1) := by decide +kernel
theorem dL_law_227 : decode cL_law 227 = .ok (.iadd, 1) := by decide +kernel
theorem dL_law_228 : decode cL_law 228 = .ok (.iaload, 1) := by decide +kernel
theorem dL_law_229 : decode cL_law 229 = .ok (.aload_n 0, 1) := by decide +kernel
theorem dL_law_230 : decode cL_law 230 = .ok (.iload 4, 2) := by decide +kernel
theorem dL_law_232 : decode cL_law 232 = .ok (.iconst 5, 1) := by decide +kernel
theorem dL_law_233 : decode cL_law 233 = .ok (.iadd, 1) := by decide +kernel
theorem dL_law_234 : decode cL_law 234 = .ok (.iaload, 1) := by decide +kernel
theorem dL_law_235 : decode cL_law 235 = .ok (.ifCond .eq 7, 3) := by decide +kernel
theorem dL_law_238 : decode cL_law 238 = .ok (.iconst 1, 1) := by decide +kernel
theorem dL_law_239 : decode cL_law 239 = .ok (.goto 4, 3) := by decide +kernel
theorem dL_law_242 : decode cL_law 242 = .ok (.iconst 0, 1) := by decide +kernel
theorem dL_law_243 : decode cL_law 243 = .ok (.aload_n 0, 1) := by decide +kernel
theorem dL_law_244 : decode cL_law 244 = .ok (.iload 4, 2) := by decide +kernel
theorem dL_law_246 : decode cL_law 246 = .ok (.bipush 6, 2) := by decide +kernel
theorem dL_law_248 : decode cL_law 248 = .ok (.iadd, 1) := by decide +kernel
theorem dL_law_249 : decode cL_law 249 = .ok (.iaload, 1) := by decide +kernel
theorem dL_law_250 : decode cL_law 250 = .ok (.aload_n 3, 1) := by decide +kernel
theorem dL_law_251 : decode cL_law 251 = .ok (.invokestatic 112, 3) := by decide +kernel
theorem dL_law_254 : decode cL_law 254 = .ok (.istore 5, 2) := by decide +kernel
theorem dL_law_256 : decode cL_law 256 = .ok (.aload_n 2, 1) := by decide +kernel
theorem dL_law_257 : decode cL_law 257 = .ok (.aload_n 0, 1) := by decide +kernel
theorem dL_law_258 : decode cL_law 258 = .ok (.iload 4, 2) := by decide +kernel
theorem dL_law_260 : decode cL_law 260 = .ok (.iconst 1, 1) := by decide +kernel
theorem dL_law_261 : decode cL_law 261 = .ok (.iadd, 1) := by decide +kernel
theorem dL_law_262 : decode cL_law 262 = .ok (.iaload, 1) := by decide +kernel
theorem dL_law_263 : decode cL_law 263 = .ok (.aload_n 0, 1) := by decide +kernel
theorem dL_law_264 : decode cL_law 264 = .ok (.iload 4, 2) := by decide +kernel
theorem dL_law_266 : decode cL_law 266 = .ok (.iconst 2, 1) := by decide +kernel
theorem dL_law_267 : decode cL_law 267 = .ok (.iadd, 1) := by decide +kernel
theorem dL_law_268 : decode cL_law 268 = .ok (.iaload, 1) := by decide +kernel
theorem dL_law_269 : decode cL_law 269 = .ok (.aload_n 0, 1) := by decide +kernel
theorem dL_law_270 : decode cL_law 270 = .ok (.iload 4, 2) := by decide +kernel
theorem dL_law_272 : decode cL_law 272 = .ok (.iconst 3, 1) := by decide +kernel
theorem dL_law_273 : decode cL_law 273 = .ok (.iadd, 1) := by decide +kernel
theorem dL_law_274 : decode cL_law 274 = .ok (.iaload, 1) := by decide +kernel
theorem dL_law_275 : decode cL_law 275 = .ok (.aload_n 0, 1) := by decide +kernel
theorem dL_law_276 : decode cL_law 276 = .ok (.iload 4, 2) := by decide +kernel
theorem dL_law_278 : decode cL_law 278 = .ok (.iconst 4, 1) := by decide +kernel
theorem dL_law_279 : decode cL_law 279 = .ok (.iadd, 1) := by decide +kernel
theorem dL_law_280 : decode cL_law 280 = .ok (.iaload, 1) := by decide +kernel
theorem dL_law_281 : decode cL_law 281 = .ok (.aload_n 0, 1) := by decide +kernel
theorem dL_law_282 : decode cL_law 282 = .ok (.iload 4, 2) := by decide +kernel
theorem dL_law_284 : decode cL_law 284 = .ok (.iconst 5, 1) := by decide +kernel
theorem dL_law_285 : decode cL_law 285 = .ok (.iadd, 1) := by decide +kernel
theorem dL_law_286 : decode cL_law 286 = .ok (.iaload, 1) := by decide +kernel
theorem dL_law_287 : decode cL_law 287 = .ok (.ifCond .eq 7, 3) := by decide +kernel
theorem dL_law_290 : decode cL_law 290 = .ok (.iconst 1, 1) := by decide +kernel
theorem dL_law_291 : decode cL_law 291 = .ok (.goto 4, 3) := by decide +kernel
theorem dL_law_294 : decode cL_law 294 = .ok (.iconst 0, 1) := by decide +kernel
theorem dL_law_295 : decode cL_law 295 = .ok (.aload_n 0, 1) := by decide +kernel
theorem dL_law_296 : decode cL_law 296 = .ok (.iload 4, 2) := by decide +kernel
theorem dL_law_298 : decode cL_law 298 = .ok (.bipush 6, 2) := by decide +kernel
theorem dL_law_300 : decode cL_law 300 = .ok (.iadd, 1) := by decide +kernel
theorem dL_law_301 : decode cL_law 301 = .ok (.iaload, 1) := by decide +kernel
theorem dL_law_302 : decode cL_law 302 = .ok (.invokevirtual 115, 3) := by decide +kernel
theorem dL_law_305 : decode cL_law 305 = .ok (.istore 6, 2) := by decide +kernel
theorem dL_law_307 : decode cL_law 307 = .ok (.aload_n 2, 1) := by decide +kernel
theorem dL_law_308 : decode cL_law 308 = .ok (.invokevirtual 108, 3) := by decide +kernel
theorem dL_law_311 : decode cL_law 311 = .ok (.iload 5, 2) := by decide +kernel
theorem dL_law_313 : decode cL_law 313 = .ok (.if_icmp .eq 5, 3) := by decide +kernel
theorem dL_law_316 : decode cL_law 316 = .ok (.iconst 0, 1) := by decide +kernel
theorem dL_law_317 : decode cL_law 317 = .ok (.ireturn, 1) := by decide +kernel
theorem dL_law_318 : decode cL_law 318 = .ok (.iload 5, 2) := by decide +kernel
theorem dL_law_320 : decode cL_law 320 = .ok (.ifCond .ne 15, 3) := by decide +kernel
theorem dL_law_323 : decode cL_law 323 = .ok (.aload_n 3, 1) := by decide +kernel
theorem dL_law_324 : decode cL_law 324 = .ok (.iconst 0, 1) := by decide +kernel
theorem dL_law_325 : decode cL_law 325 = .ok (.laload, 1) := by decide +kernel
theorem dL_law_326 : decode cL_law 326 = .ok (.iload 6, 2) := by decide +kernel
theorem dL_law_328 : decode cL_law 328 = .ok (.i2l, 1) := by decide +kernel
theorem dL_law_329 : decode cL_law 329 = .ok (.lcmp, 1) := by decide +kernel
theorem dL_law_330 : decode cL_law 330 = .ok (.ifCond .eq 5, 3) := by decide +kernel
theorem dL_law_333 : decode cL_law 333 = .ok (.iconst 0, 1) := by decide +kernel
theorem dL_law_334 : decode cL_law 334 = .ok (.ireturn, 1) := by decide +kernel
theorem dL_law_335 : decode cL_law 335 = .ok (.goto 1494, 3) := by decide +kernel
theorem dL_law_338 : decode cL_law 338 = .ok (.aload_n 1, 1) := by decide +kernel
theorem dL_law_339 : decode cL_law 339 = .ok (.aload_n 0, 1) := by decide +kernel
theorem dL_law_340 : decode cL_law 340 = .ok (.iload 4, 2) := by decide +kernel
theorem dL_law_342 : decode cL_law 342 = .ok (.iconst 1, 1) := by decide +kernel
theorem dL_law_343 : decode cL_law 343 = .ok (.iadd, 1) := by decide +kernel
theorem dL_law_344 : decode cL_law 344 = .ok (.iaload, 1) := by decide +kernel
theorem dL_law_345 : decode cL_law 345 = .ok (.invokestatic 116, 3) := by decide +kernel
theorem dL_law_348 : decode cL_law 348 = .ok (.istore 5, 2) := by decide +kernel
theorem dL_law_350 : decode cL_law 350 = .ok (.aload_n 2, 1) := by decide +kernel
theorem dL_law_351 : decode cL_law 351 = .ok (.aload_n 0, 1) := by decide +kernel
theorem dL_law_352 : decode cL_law 352 = .ok (.iload 4, 2) := by decide +kernel
theorem dL_law_354 : decode cL_law 354 = .ok (.iconst 1, 1) := by decide +kernel
theorem dL_law_355 : decode cL_law 355 = .ok (.iadd, 1) := by decide +kernel
theorem dL_law_356 : decode cL_law 356 = .ok (.iaload, 1) := by decide +kernel
theorem dL_law_357 : decode cL_law 357 = .ok (.invokevirtual 119, 3) := by decide +kernel
theorem dL_law_360 : decode cL_law 360 = .ok (.aload_n 2, 1) := by decide +kernel
theorem dL_law_361 : decode cL_law 361 = .ok (.invokevirtual 108, 3) := by decide +kernel
theorem dL_law_364 : decode cL_law 364 = .ok (.iload 5, 2) := by decide +kernel
theorem dL_law_366 : decode cL_law 366 = .ok (.if_icmp .eq 5, 3) := by decide +kernel
theorem dL_law_369 : decode cL_law 369 = .ok (.iconst 0, 1) := by decide +kernel
theorem dL_law_370 : decode cL_law 370 = .ok (.ireturn, 1) := by decide +kernel
theorem dL_law_371 : decode cL_law 371 = .ok (.goto 1458, 3) := by decide +kernel
theorem dL_law_374 : decode cL_law 374 = .ok (.aload_n 1, 1) := by decide +kernel
theorem dL_law_375 : decode cL_law 375 = .ok (.aload_n 0, 1) := by decide +kernel
theorem dL_law_376 : decode cL_law 376 = .ok (.iload 4, 2) := by decide +kernel
theorem dL_law_378 : decode cL_law 378 = .ok (.iconst 1, 1) := by decide +kernel
theorem dL_law_379 : decode cL_law 379 = .ok (.iadd, 1) := by decide +kernel
theorem dL_law_380 : decode cL_law 380 = .ok (.iaload, 1) := by decide +kernel
theorem dL_law_381 : decode cL_law 381 = .ok (.aload_n 0, 1) := by decide +kernel
theorem dL_law_382 : decode cL_law 382 = .ok (.iload 4, 2) := by decide +kernel
theorem dL_law_384 : decode cL_law 384 = .ok (.iconst 2, 1) := by decide +kernel
theorem dL_law_385 : decode cL_law 385 = .ok (.iadd, 1) := by decide +kernel
theorem dL_law_386 : decode cL_law 386 = .ok (.iaload, 1) := by decide +kernel
theorem dL_law_387 : decode cL_law 387 = .ok (.invokestatic 120, 3) := by decide +kernel
theorem dL_law_390 : decode cL_law 390 = .ok (.istore 5, 2) := by decide +kernel
theorem dL_law_392 : decode cL_law 392 = .ok (.aload_n 2, 1) := by decide +kernel
theorem dL_law_393 : decode cL_law 393 = .ok (.aload_n 0, 1) := by decide +kernel
theorem dL_law_394 : decode cL_law 394 = .ok (.iload 4, 2) := by decide +kernel
theorem dL_law_396 : decode cL_law 396 = .ok (.iconst 1, 1) := by decide +kernel
theorem dL_law_397 : decode cL_law 397 = .ok (.iadd, 1) := by decide +kernel
theorem dL_law_398 : decode cL_law 398 = .ok (.iaload, 1) := by decide +kernel
theorem dL_law_399 : decode cL_law 399 = .ok (.aload_n 0, 1) := by decide +kernel
theorem dL_law_400 : decode cL_law 400 = .ok (.iload 4, 2) := by decide +kernel
theorem dL_law_402 : decode cL_law 402 = .ok (.iconst 2, 1) := by decide +kernel
theorem dL_law_403 : decode cL_law 403 = .ok (.iadd, 1) := by decide +kernel
theorem dL_law_404 : decode cL_law 404 = .ok (.iaload, 1) := by decide +kernel
theorem dL_law_405 : decode cL_law 405 = .ok (.invokevirtual 122, 3) := by decide +kernel
theorem dL_law_408 : decode cL_law 408 = .ok (.aload_n 2, 1) := by decide +kernel
theorem dL_law_409 : decode cL_law 409 = .ok (.invokevirtual 108, 3) := by decide +kernel
theorem dL_law_412 : decode cL_law 412 = .ok (.iload 5, 2) := by decide +kernel
theorem dL_law_414 : decode cL_law 414 = .ok (.if_icmp .eq 5, 3) := by decide +kernel
theorem dL_law_417 : decode cL_law 417 = .ok (.iconst 0, 1) := by decide +kernel
theorem dL_law_418 : decode cL_law 418 = .ok (.ireturn, 1) := by decide +kernel
theorem dL_law_419 : decode cL_law 419 = .ok (.goto 1410, 3) := by decide +kernel
theorem dL_law_422 : decode cL_law 422 = .ok (.aload_n 1, 1) := by decide +kernel
theorem dL_law_423 : decode cL_law 423 = .ok (.aload_n 0, 1) := by decide +kernel
theorem dL_law_424 : decode cL_law 424 = .ok (.iload 4, 2) := by decide +kernel
theorem dL_law_426 : decode cL_law 426 = .ok (.iconst 1, 1) := by decide +kernel
theorem dL_law_427 : decode cL_law 427 = .ok (.iadd, 1) := by decide +kernel
theorem dL_law_428 : decode cL_law 428 = .ok (.iaload, 1) := by decide +kernel
theorem dL_law_429 : decode cL_law 429 = .ok (.aload_n 0, 1) := by decide +kernel
theorem dL_law_430 : decode cL_law 430 = .ok (.iload 4, 2) := by decide +kernel
theorem dL_law_432 : decode cL_law 432 = .ok (.iconst 2, 1) := by decide +kernel
theorem dL_law_433 : decode cL_law 433 = .ok (.iadd, 1) := by decide +kernel
theorem dL_law_434 : decode cL_law 434 = .ok (.iaload, 1) := by decide +kernel
theorem dL_law_435 : decode cL_law 435 = .ok (.invokestatic 123, 3) := by decide +kernel
theorem dL_law_438 : decode cL_law 438 = .ok (.istore 5, 2) := by decide +kernel
theorem dL_law_440 : decode cL_law 440 = .ok (.aload_n 2, 1) := by decide +kernel
theorem dL_law_441 : decode cL_law 441 = .ok (.aload_n 0, 1) := by decide +kernel
theorem dL_law_442 : decode cL_law 442 = .ok (.iload 4, 2) := by decide +kernel
theorem dL_law_444 : decode cL_law 444 = .ok (.iconst 1, 1) := by decide +kernel
theorem dL_law_445 : decode cL_law 445 = .ok (.iadd, 1) := by decide +kernel
theorem dL_law_446 : decode cL_law 446 = .ok (.iaload, 1) := by decide +kernel
theorem dL_law_447 : decode cL_law 447 = .ok (.aload_n 0, 1) := by decide +kernel
theorem dL_law_448 : decode cL_law 448 = .ok (.iload 4, 2) := by decide +kernel
theorem dL_law_450 : decode cL_law 450 = .ok (.iconst 2, 1) := by decide +kernel
theorem dL_law_451 : decode cL_law 451 = .ok (.iadd, 1) := by decide +kernel
theorem dL_law_452 : decode cL_law 452 = .ok (.iaload, 1) := by decide +kernel
theorem dL_law_453 : decode cL_law 453 = .ok (.invokevirtual 125, 3) := by decide +kernel
theorem dL_law_456 : decode cL_law 456 = .ok (.aload_n 2, 1) := by decide +kernel
theorem dL_law_457 : decode cL_law 457 = .ok (.invokevirtual 108, 3) := by decide +kernel
theorem dL_law_460 : decode cL_law 460 = .ok (.iload 5, 2) := by decide +kernel
theorem dL_law_462 : decode cL_law 462 = .ok (.if_icmp .eq 5, 3) := by decide +kernel
theorem dL_law_465 : decode cL_law 465 = .ok (.iconst 0, 1) := by decide +kernel
theorem dL_law_466 : decode cL_law 466 = .ok (.ireturn, 1) := by decide +kernel
theorem dL_law_467 : decode cL_law 467 = .ok (.goto 1362, 3) := by decide +kernel
theorem dL_law_470 : decode cL_law 470 = .ok (.aload_n 1, 1) := by decide +kernel
theorem dL_law_471 : decode cL_law 471 = .ok (.aload_n 0, 1) := by decide +kernel
theorem dL_law_472 : decode cL_law 472 = .ok (.iload 4, 2) := by decide +kernel
theorem dL_law_474 : decode cL_law 474 = .ok (.iconst 1, 1) := by decide +kernel
theorem dL_law_475 : decode cL_law 475 = .ok (.iadd, 1) := by decide +kernel
theorem dL_law_476 : decode cL_law 476 = .ok (.iaload, 1) := by decide +kernel
theorem dL_law_477 : decode cL_law 477 = .ok (.aload_n 0, 1) := by decide +kernel
theorem dL_law_478 : decode cL_law 478 = .ok (.iload 4, 2) := by decide +kernel
theorem dL_law_480 : decode cL_law 480 = .ok (.iconst 2, 1) := by decide +kernel
theorem dL_law_481 : decode cL_law 481 = .ok (.iadd, 1) := by decide +kernel
theorem dL_law_482 : decode cL_law 482 = .ok (.iaload, 1) := by decide +kernel
theorem dL_law_483 : decode cL_law 483 = .ok (.invokestatic 126, 3) := by decide +kernel
theorem dL_law_486 : decode cL_law 486 = .ok (.istore 5, 2) := by decide +kernel
theorem dL_law_488 : decode cL_law 488 = .ok (.aload_n 2, 1) := by decide +kernel
theorem dL_law_489 : decode cL_law 489 = .ok (.aload_n 0, 1) := by decide +kernel
theorem dL_law_490 : decode cL_law 490 = .ok (.iload 4, 2) := by decide +kernel
theorem dL_law_492 : decode cL_law 492 = .ok (.iconst 1, 1) := by decide +kernel
theorem dL_law_493 : decode cL_law 493 = .ok (.iadd, 1) := by decide +kernel
theorem dL_law_494 : decode cL_law 494 = .ok (.iaload, 1) := by decide +kernel
theorem dL_law_495 : decode cL_law 495 = .ok (.aload_n 0, 1) := by decide +kernel
theorem dL_law_496 : decode cL_law 496 = .ok (.iload 4, 2) := by decide +kernel
theorem dL_law_498 : decode cL_law 498 = .ok (.iconst 2, 1) := by decide +kernel
theorem dL_law_499 : decode cL_law 499 = .ok (.iadd, 1) := by decide +kernel
theorem dL_law_500 : decode cL_law 500 = .ok (.iaload, 1) := by decide +kernel
theorem dL_law_501 : decode cL_law 501 = .ok (.invokevirtual 128, 3) := by decide +kernel
theorem dL_law_504 : decode cL_law 504 = .ok (.aload_n 2, 1) := by decide +kernel
theorem dL_law_505 : decode cL_law 505 = .ok (.invokevirtual 108, 3) := by decide +kernel
theorem dL_law_508 : decode cL_law 508 = .ok (.iload 5, 2) := by decide +kernel
theorem dL_law_510 : decode cL_law 510 = .ok (.if_icmp .eq 5, 3) := by decide +kernel
theorem dL_law_513 : decode cL_law 513 = .ok (.iconst 0, 1) := by decide +kernel
theorem dL_law_514 : decode cL_law 514 = .ok (.ireturn, 1) := by decide +kernel
theorem dL_law_515 : decode cL_law 515 = .ok (.goto 1314, 3) := by decide +kernel
theorem dL_law_518 : decode cL_law 518 = .ok (.aload_n 1, 1) := by decide +kernel
theorem dL_law_519 : decode cL_law 519 = .ok (.aload_n 0, 1) := by decide +kernel
theorem dL_law_520 : decode cL_law 520 = .ok (.iload 4, 2) := by decide +kernel
theorem dL_law_522 : decode cL_law 522 = .ok (.iconst 1, 1) := by decide +kernel
theorem dL_law_523 : decode cL_law 523 = .ok (.iadd, 1) := by decide +kernel
theorem dL_law_524 : decode cL_law 524 = .ok (.iaload, 1) := by decide +kernel
theorem dL_law_525 : decode cL_law 525 = .ok (.aload_n 0, 1) := by decide +kernel
theorem dL_law_526 : decode cL_law 526 = .ok (.iload 4, 2) := by decide +kernel
theorem dL_law_528 : decode cL_law 528 = .ok (.iconst 2, 1) := by decide +kernel
theorem dL_law_529 : decode cL_law 529 = .ok (.iadd, 1) := by decide +kernel
theorem dL_law_530 : decode cL_law 530 = .ok (.iaload, 1) := by decide +kernel
theorem dL_law_531 : decode cL_law 531 = .ok (.aload_n 0, 1) := by decide +kernel
theorem dL_law_532 : decode cL_law 532 = .ok (.iload 4, 2) := by decide +kernel
theorem dL_law_534 : decode cL_law 534 = .ok (.iconst 3, 1) := by decide +kernel
theorem dL_law_535 : decode cL_law 535 = .ok (.iadd, 1) := by decide +kernel
theorem dL_law_536 : decode cL_law 536 = .ok (.iaload, 1) := by decide +kernel
theorem dL_law_537 : decode cL_law 537 = .ok (.i2l, 1) := by decide +kernel
theorem dL_law_538 : decode cL_law 538 = .ok (.bipush 32, 2) := by decide +kernel
theorem dL_law_540 : decode cL_law 540 = .ok (.lshl, 1) := by decide +kernel
theorem dL_law_541 : decode cL_law 541 = .ok (.aload_n 0, 1) := by decide +kernel
theorem dL_law_542 : decode cL_law 542 = .ok (.iload 4, 2) := by decide +kernel
theorem dL_law_544 : decode cL_law 544 = .ok (.iconst 4, 1) := by decide +kernel
theorem dL_law_545 : decode cL_law 545 = .ok (.iadd, 1) := by decide +kernel
theorem dL_law_546 : decode cL_law 546 = .ok (.iaload, 1) := by decide +kernel
theorem dL_law_547 : decode cL_law 547 = .ok (.i2l, 1) := by decide +kernel
theorem dL_law_548 : decode cL_law 548 = .ok (.ldc2_w 129, 3) := by decide +kernel
theorem dL_law_551 : decode cL_law 551 = .ok (.land, 1) := by decide +kernel
theorem dL_law_552 : decode cL_law 552 = .ok (.lor, 1) := by decide +kernel
theorem dL_law_553 : decode cL_law 553 = .ok (.aload_n 0, 1) := by decide +kernel
theorem dL_law_554 : decode cL_law 554 = .ok (.iload 4, 2) := by decide +kernel
theorem dL_law_556 : decode cL_law 556 = .ok (.iconst 5, 1) := by decide +kernel
theorem dL_law_557 : decode cL_law 557 = .ok (.iadd, 1) := by decide +kernel
theorem dL_law_558 : decode cL_law 558 = .ok (.iaload, 1) := by decide +kernel
theorem dL_law_559 : decode cL_law 559 = .ok (.aload_n 0, 1) := by decide +kernel
theorem dL_law_560 : decode cL_law 560 = .ok (.iload 4, 2) := by decide +kernel
theorem dL_law_562 : decode cL_law 562 = .ok (.bipush 6, 2) := by decide +kernel
theorem dL_law_564 : decode cL_law 564 = .ok (.iadd, 1) := by decide +kernel
theorem dL_law_565 : decode cL_law 565 = .ok (.iaload, 1) := by decide +kernel
theorem dL_law_566 : decode cL_law 566 = .ok (.aload_n 0, 1) := by decide +kernel
theorem dL_law_567 : decode cL_law 567 = .ok (.iload 4, 2) := by decide +kernel
theorem dL_law_569 : decode cL_law 569 = .ok (.bipush 7, 2) := by decide +kernel
theorem dL_law_571 : decode cL_law 571 = .ok (.iadd, 1) := by decide +kernel
theorem dL_law_572 : decode cL_law 572 = .ok (.iaload, 1) := by decide +kernel
theorem dL_law_573 : decode cL_law 573 = .ok (.aload_n 0, 1) := by decide +kernel
theorem dL_law_574 : decode cL_law 574 = .ok (.iload 4, 2) := by decide +kernel
theorem dL_law_576 : decode cL_law 576 = .ok (.bipush 8, 2) := by decide +kernel
theorem dL_law_578 : decode cL_law 578 = .ok (.iadd, 1) := by decide +kernel
theorem dL_law_579 : decode cL_law 579 = .ok (.iaload, 1) := by decide +kernel
theorem dL_law_580 : decode cL_law 580 = .ok (.aload_n 3, 1) := by decide +kernel
theorem dL_law_581 : decode cL_law 581 = .ok (.invokestatic 131, 3) := by decide +kernel
theorem dL_law_584 : decode cL_law 584 = .ok (.istore 5, 2) := by decide +kernel
theorem dL_law_586 : decode cL_law 586 = .ok (.aload_n 2, 1) := by decide +kernel
theorem dL_law_587 : decode cL_law 587 = .ok (.aload_n 0, 1) := by decide +kernel
theorem dL_law_588 : decode cL_law 588 = .ok (.iload 4, 2) := by decide +kernel
theorem dL_law_590 : decode cL_law 590 = .ok (.iconst 1, 1) := by decide +kernel
theorem dL_law_591 : decode cL_law 591 = .ok (.iadd, 1) := by decide +kernel
theorem dL_law_592 : decode cL_law 592 = .ok (.iaload, 1) := by decide +kernel
theorem dL_law_593 : decode cL_law 593 = .ok (.aload_n 0, 1) := by decide +kernel
theorem dL_law_594 : decode cL_law 594 = .ok (.iload 4, 2) := by decide +kernel
theorem dL_law_596 : decode cL_law 596 = .ok (.iconst 2, 1) := by decide +kernel
theorem dL_law_597 : decode cL_law 597 = .ok (.iadd, 1) := by decide +kernel
theorem dL_law_598 : decode cL_law 598 = .ok (.iaload, 1) := by decide +kernel
theorem dL_law_599 : decode cL_law 599 = .ok (.aload_n 0, 1) := by decide +kernel
theorem dL_law_600 : decode cL_law 600 = .ok (.iload 4, 2) := by decide +kernel
theorem dL_law_602 : decode cL_law 602 = .ok (.iconst 3, 1) := by decide +kernel
theorem dL_law_603 : decode cL_law 603 = .ok (.iadd, 1) := by decide +kernel
theorem dL_law_604 : decode cL_law 604 = .ok (.iaload, 1) := by decide +kernel
theorem dL_law_605 : decode cL_law 605 = .ok (.i2l, 1) := by decide +kernel
theorem dL_law_606 : decode cL_law 606 = .ok (.bipush 32, 2) := by decide +kernel
theorem dL_law_608 : decode cL_law 608 = .ok (.lshl, 1) := by decide +kernel
theorem dL_law_609 : decode cL_law 609 = .ok (.aload_n 0, 1) := by decide +kernel
theorem dL_law_610 : decode cL_law 610 = .ok (.iload 4, 2) := by decide +kernel
theorem dL_law_612 : decode cL_law 612 = .ok (.iconst 4, 1) := by decide +kernel
theorem dL_law_613 : decode cL_law 613 = .ok (.iadd, 1) := by decide +kernel
theorem dL_law_614 : decode cL_law 614 = .ok (.iaload, 1) := by decide +kernel
theorem dL_law_615 : decode cL_law 615 = .ok (.i2l, 1) := by decide +kernel
theorem dL_law_616 : decode cL_law 616 = .ok (.ldc2_w 129, 3) := by decide +kernel
theorem dL_law_619 : decode cL_law 619 = .ok (.land, 1) := by decide +kernel
theorem dL_law_620 : decode cL_law 620 = .ok (.lor, 1) := by decide +kernel
theorem dL_law_621 : decode cL_law 621 = .ok (.aload_n 0, 1) := by decide +kernel
theorem dL_law_622 : decode cL_law 622 = .ok (.iload 4, 2) := by decide +kernel
theorem dL_law_624 : decode cL_law 624 = .ok (.iconst 5, 1) := by decide +kernel
theorem dL_law_625 : decode cL_law 625 = .ok (.iadd, 1) := by decide +kernel
theorem dL_law_626 : decode cL_law 626 = .ok (.iaload, 1) := by decide +kernel
theorem dL_law_627 : decode cL_law 627 = .ok (.aload_n 0, 1) := by decide +kernel
theorem dL_law_628 : decode cL_law 628 = .ok (.iload 4, 2) := by decide +kernel
theorem dL_law_630 : decode cL_law 630 = .ok (.bipush 6, 2) := by decide +kernel
theorem dL_law_632 : decode cL_law 632 = .ok (.iadd, 1) := by decide +kernel
theorem dL_law_633 : decode cL_law 633 = .ok (.iaload, 1) := by decide +kernel
theorem dL_law_634 : decode cL_law 634 = .ok (.aload_n 0, 1) := by decide +kernel
theorem dL_law_635 : decode cL_law 635 = .ok (.iload 4, 2) := by decide +kernel
theorem dL_law_637 : decode cL_law 637 = .ok (.bipush 7, 2) := by decide +kernel
theorem dL_law_639 : decode cL_law 639 = .ok (.iadd, 1) := by decide +kernel
theorem dL_law_640 : decode cL_law 640 = .ok (.iaload, 1) := by decide +kernel
theorem dL_law_641 : decode cL_law 641 = .ok (.aload_n 0, 1) := by decide +kernel
theorem dL_law_642 : decode cL_law 642 = .ok (.iload 4, 2) := by decide +kernel
theorem dL_law_644 : decode cL_law 644 = .ok (.bipush 8, 2) := by decide +kernel
theorem dL_law_646 : decode cL_law 646 = .ok (.iadd, 1) := by decide +kernel
theorem dL_law_647 : decode cL_law 647 = .ok (.iaload, 1) := by decide +kernel
theorem dL_law_648 : decode cL_law 648 = .ok (.invokevirtual 134, 3) := by decide +kernel
theorem dL_law_651 : decode cL_law 651 = .ok (.istore 6, 2) := by decide +kernel
theorem dL_law_653 : decode cL_law 653 = .ok (.aload_n 2, 1) := by decide +kernel
theorem dL_law_654 : decode cL_law 654 = .ok (.invokevirtual 108, 3) := by decide +kernel
theorem dL_law_657 : decode cL_law 657 = .ok (.iload 5, 2) := by decide +kernel
theorem dL_law_659 : decode cL_law 659 = .ok (.if_icmp .eq 5, 3) := by decide +kernel
theorem dL_law_662 : decode cL_law 662 = .ok (.iconst 0, 1) := by decide +kernel
theorem dL_law_663 : decode cL_law 663 = .ok (.ireturn, 1) := by decide +kernel
theorem dL_law_664 : decode cL_law 664 = .ok (.iload 5, 2) := by decide +kernel
theorem dL_law_666 : decode cL_law 666 = .ok (.ifCond .ne 15, 3) := by decide +kernel
theorem dL_law_669 : decode cL_law 669 = .ok (.aload_n 3, 1) := by decide +kernel
theorem dL_law_670 : decode cL_law 670 = .ok (.iconst 0, 1) := by decide +kernel
theorem dL_law_671 : decode cL_law 671 = .ok (.laload, 1) := by decide +kernel
theorem dL_law_672 : decode cL_law 672 = .ok (.iload 6, 2) := by decide +kernel
theorem dL_law_674 : decode cL_law 674 = .ok (.i2l, 1) := by decide +kernel
theorem dL_law_675 : decode cL_law 675 = .ok (.lcmp, 1) := by decide +kernel
theorem dL_law_676 : decode cL_law 676 = .ok (.ifCond .eq 5, 3) := by decide +kernel
theorem dL_law_679 : decode cL_law 679 = .ok (.iconst 0, 1) := by decide +kernel
theorem dL_law_680 : decode cL_law 680 = .ok (.ireturn, 1) := by decide +kernel
theorem dL_law_681 : decode cL_law 681 = .ok (.goto 1148, 3) := by decide +kernel
theorem dL_law_684 : decode cL_law 684 = .ok (.aload_n 1, 1) := by decide +kernel
theorem dL_law_685 : decode cL_law 685 = .ok (.aload_n 0, 1) := by decide +kernel
theorem dL_law_686 : decode cL_law 686 = .ok (.iload 4, 2) := by decide +kernel
theorem dL_law_688 : decode cL_law 688 = .ok (.iconst 1, 1) := by decide +kernel
theorem dL_law_689 : decode cL_law 689 = .ok (.iadd, 1) := by decide +kernel
theorem dL_law_690 : decode cL_law 690 = .ok (.iaload, 1) := by decide +kernel
theorem dL_law_691 : decode cL_law 691 = .ok (.aload_n 0, 1) := by decide +kernel
theorem dL_law_692 : decode cL_law 692 = .ok (.iload 4, 2) := by decide +kernel
theorem dL_law_694 : decode cL_law 694 = .ok (.iconst 2, 1) := by decide +kernel
theorem dL_law_695 : decode cL_law 695 = .ok (.iadd, 1) := by decide +kernel
theorem dL_law_696 : decode cL_law 696 = .ok (.iaload, 1) := by decide +kernel
theorem dL_law_697 : decode cL_law 697 = .ok (.aload_n 0, 1) := by decide +kernel
theorem dL_law_698 : decode cL_law 698 = .ok (.iload 4, 2) := by decide +kernel
theorem dL_law_700 : decode cL_law 700 = .ok (.iconst 3, 1) := by decide +kernel
theorem dL_law_701 : decode cL_law 701 = .ok (.iadd, 1) := by decide +kernel
theorem dL_law_702 : decode cL_law 702 = .ok (.iaload, 1) := by decide +kernel
theorem dL_law_703 : decode cL_law 703 = .ok (.aload_n 0, 1) := by decide +kernel
theorem dL_law_704 : decode cL_law 704 = .ok (.iload 4, 2) := by decide +kernel
theorem dL_law_706 : decode cL_law 706 = .ok (.iconst 4, 1) := by decide +kernel
theorem dL_law_707 : decode cL_law 707 = .ok (.iadd, 1) := by decide +kernel
theorem dL_law_708 : decode cL_law 708 = .ok (.iaload, 1) := by decide +kernel
theorem dL_law_709 : decode cL_law 709 = .ok (.aload_n 0, 1) := by decide +kernel
theorem dL_law_710 : decode cL_law 710 = .ok (.iload 4, 2) := by decide +kernel
theorem dL_law_712 : decode cL_law 712 = .ok (.iconst 5, 1) := by decide +kernel
theorem dL_law_713 : decode cL_law 713 = .ok (.iadd, 1) := by decide +kernel
theorem dL_law_714 : decode cL_law 714 = .ok (.iaload, 1) := by decide +kernel
theorem dL_law_715 : decode cL_law 715 = .ok (.aload_n 0, 1) := by decide +kernel
theorem dL_law_716 : decode cL_law 716 = .ok (.iload 4, 2) := by decide +kernel
theorem dL_law_718 : decode cL_law 718 = .ok (.bipush 6, 2) := by decide +kernel
theorem dL_law_720 : decode cL_law 720 = .ok (.iadd, 1) := by decide +kernel
theorem dL_law_721 : decode cL_law 721 = .ok (.iaload, 1) := by decide +kernel
theorem dL_law_722 : decode cL_law 722 = .ok (.invokestatic 135, 3) := by decide +kernel
theorem dL_law_725 : decode cL_law 725 = .ok (.istore 5, 2) := by decide +kernel
theorem dL_law_727 : decode cL_law 727 = .ok (.aload_n 2, 1) := by decide +kernel
theorem dL_law_728 : decode cL_law 728 = .ok (.aload_n 0, 1) := by decide +kernel
theorem dL_law_729 : decode cL_law 729 = .ok (.iload 4, 2) := by decide +kernel
theorem dL_law_731 : decode cL_law 731 = .ok (.iconst 1, 1) := by decide +kernel
theorem dL_law_732 : decode cL_law 732 = .ok (.iadd, 1) := by decide +kernel
theorem dL_law_733 : decode cL_law 733 = .ok (.iaload, 1) := by decide +kernel
theorem dL_law_734 : decode cL_law 734 = .ok (.aload_n 0, 1) := by decide +kernel
theorem dL_law_735 : decode cL_law 735 = .ok (.iload 4, 2) := by decide +kernel
theorem dL_law_737 : decode cL_law 737 = .ok (.iconst 2, 1) := by decide +kernel
theorem dL_law_738 : decode cL_law 738 = .ok (.iadd, 1) := by decide +kernel
theorem dL_law_739 : decode cL_law 739 = .ok (.iaload, 1) := by decide +kernel
theorem dL_law_740 : decode cL_law 740 = .ok (.aload_n 0, 1) := by decide +kernel
theorem dL_law_741 : decode cL_law 741 = .ok (.iload 4, 2) := by decide +kernel
theorem dL_law_743 : decode cL_law 743 = .ok (.iconst 3, 1) := by decide +kernel
theorem dL_law_744 : decode cL_law 744 = .ok (.iadd, 1) := by decide +kernel
theorem dL_law_745 : decode cL_law 745 = .ok (.iaload, 1) := by decide +kernel
theorem dL_law_746 : decode cL_law 746 = .ok (.aload_n 0, 1) := by decide +kernel
theorem dL_law_747 : decode cL_law 747 = .ok (.iload 4, 2) := by decide +kernel
theorem dL_law_749 : decode cL_law 749 = .ok (.iconst 4, 1) := by decide +kernel
theorem dL_law_750 : decode cL_law 750 = .ok (.iadd, 1) := by decide +kernel
theorem dL_law_751 : decode cL_law 751 = .ok (.iaload, 1) := by decide +kernel
theorem dL_law_752 : decode cL_law 752 = .ok (.aload_n 0, 1) := by decide +kernel
theorem dL_law_753 : decode cL_law 753 = .ok (.iload 4, 2) := by decide +kernel
theorem dL_law_755 : decode cL_law 755 = .ok (.iconst 5, 1) := by decide +kernel
theorem dL_law_756 : decode cL_law 756 = .ok (.iadd, 1) := by decide +kernel
theorem dL_law_757 : decode cL_law 757 = .ok (.iaload, 1) := by decide +kernel
theorem dL_law_758 : decode cL_law 758 = .ok (.aload_n 0, 1) := by decide +kernel
theorem dL_law_759 : decode cL_law 759 = .ok (.iload 4, 2) := by decide +kernel
theorem dL_law_761 : decode cL_law 761 = .ok (.bipush 6, 2) := by decide +kernel
theorem dL_law_763 : decode cL_law 763 = .ok (.iadd, 1) := by decide +kernel
theorem dL_law_764 : decode cL_law 764 = .ok (.iaload, 1) := by decide +kernel
theorem dL_law_765 : decode cL_law 765 = .ok (.invokevirtual 138, 3) := by decide +kernel
theorem dL_law_768 : decode cL_law 768 = .ok (.aload_n 2, 1) := by decide +kernel
theorem dL_law_769 : decode cL_law 769 = .ok (.invokevirtual 108, 3) := by decide +kernel
theorem dL_law_772 : decode cL_law 772 = .ok (.iload 5, 2) := by decide +kernel
theorem dL_law_774 : decode cL_law 774 = .ok (.if_icmp .eq 5, 3) := by decide +kernel
theorem dL_law_777 : decode cL_law 777 = .ok (.iconst 0, 1) := by decide +kernel
theorem dL_law_778 : decode cL_law 778 = .ok (.ireturn, 1) := by decide +kernel
theorem dL_law_779 : decode cL_law 779 = .ok (.goto 1050, 3) := by decide +kernel
theorem dL_law_782 : decode cL_law 782 = .ok (.aload_n 1, 1) := by decide +kernel
theorem dL_law_783 : decode cL_law 783 = .ok (.aload_n 0, 1) := by decide +kernel
theorem dL_law_784 : decode cL_law 784 = .ok (.iload 4, 2) := by decide +kernel
theorem dL_law_786 : decode cL_law 786 = .ok (.iconst 1, 1) := by decide +kernel
theorem dL_law_787 : decode cL_law 787 = .ok (.iadd, 1) := by decide +kernel
theorem dL_law_788 : decode cL_law 788 = .ok (.iaload, 1) := by decide +kernel
theorem dL_law_789 : decode cL_law 789 = .ok (.invokestatic 139, 3) := by decide +kernel
theorem dL_law_792 : decode cL_law 792 = .ok (.istore 5, 2) := by decide +kernel
theorem dL_law_794 : decode cL_law 794 = .ok (.aload_n 2, 1) := by decide +kernel
theorem dL_law_795 : decode cL_law 795 = .ok (.aload_n 0, 1) := by decide +kernel
theorem dL_law_796 : decode cL_law 796 = .ok (.iload 4, 2) := by decide +kernel
theorem dL_law_798 : decode cL_law 798 = .ok (.iconst 1, 1) := by decide +kernel
theorem dL_law_799 : decode cL_law 799 = .ok (.iadd, 1) := by decide +kernel
theorem dL_law_800 : decode cL_law 800 = .ok (.iaload, 1) := by decide +kernel
theorem dL_law_801 : decode cL_law 801 = .ok (.invokevirtual 141, 3) := by decide +kernel
theorem dL_law_804 : decode cL_law 804 = .ok (.aload_n 2, 1) := by decide +kernel
theorem dL_law_805 : decode cL_law 805 = .ok (.invokevirtual 108, 3) := by decide +kernel
theorem dL_law_808 : decode cL_law 808 = .ok (.iload 5, 2) := by decide +kernel
theorem dL_law_810 : decode cL_law 810 = .ok (.if_icmp .eq 5, 3) := by decide +kernel
theorem dL_law_813 : decode cL_law 813 = .ok (.iconst 0, 1) := by decide +kernel
theorem dL_law_814 : decode cL_law 814 = .ok (.ireturn, 1) := by decide +kernel
theorem dL_law_815 : decode cL_law 815 = .ok (.goto 1014, 3) := by decide +kernel
theorem dL_law_818 : decode cL_law 818 = .ok (.aload_n 1, 1) := by decide +kernel
theorem dL_law_819 : decode cL_law 819 = .ok (.aload_n 0, 1) := by decide +kernel
theorem dL_law_820 : decode cL_law 820 = .ok (.iload 4, 2) := by decide +kernel
theorem dL_law_822 : decode cL_law 822 = .ok (.iconst 1, 1) := by decide +kernel
theorem dL_law_823 : decode cL_law 823 = .ok (.iadd, 1) := by decide +kernel
theorem dL_law_824 : decode cL_law 824 = .ok (.iaload, 1) := by decide +kernel
theorem dL_law_825 : decode cL_law 825 = .ok (.aload_n 3, 1) := by decide +kernel
theorem dL_law_826 : decode cL_law 826 = .ok (.invokestatic 142, 3) := by decide +kernel
theorem dL_law_829 : decode cL_law 829 = .ok (.istore 5, 2) := by decide +kernel
theorem dL_law_831 : decode cL_law 831 = .ok (.aload_n 2, 1) := by decide +kernel
theorem dL_law_832 : decode cL_law 832 = .ok (.aload_n 0, 1) := by decide +kernel
theorem dL_law_833 : decode cL_law 833 = .ok (.iload 4, 2) := by decide +kernel
theorem dL_law_835 : decode cL_law 835 = .ok (.iconst 1, 1) := by decide +kernel
theorem dL_law_836 : decode cL_law 836 = .ok (.iadd, 1) := by decide +kernel
theorem dL_law_837 : decode cL_law 837 = .ok (.iaload, 1) := by decide +kernel
theorem dL_law_838 : decode cL_law 838 = .ok (.invokevirtual 145, 3) := by decide +kernel
theorem dL_law_841 : decode cL_law 841 = .ok (.istore 6, 2) := by decide +kernel
theorem dL_law_843 : decode cL_law 843 = .ok (.aload_n 2, 1) := by decide +kernel
theorem dL_law_844 : decode cL_law 844 = .ok (.invokevirtual 108, 3) := by decide +kernel
theorem dL_law_847 : decode cL_law 847 = .ok (.iload 5, 2) := by decide +kernel
theorem dL_law_849 : decode cL_law 849 = .ok (.if_icmp .eq 5, 3) := by decide +kernel
theorem dL_law_852 : decode cL_law 852 = .ok (.iconst 0, 1) := by decide +kernel
theorem dL_law_853 : decode cL_law 853 = .ok (.ireturn, 1) := by decide +kernel
theorem dL_law_854 : decode cL_law 854 = .ok (.iload 5, 2) := by decide +kernel
theorem dL_law_856 : decode cL_law 856 = .ok (.ifCond .ne 15, 3) := by decide +kernel
theorem dL_law_859 : decode cL_law 859 = .ok (.aload_n 3, 1) := by decide +kernel
theorem dL_law_860 : decode cL_law 860 = .ok (.iconst 0, 1) := by decide +kernel
theorem dL_law_861 : decode cL_law 861 = .ok (.laload, 1) := by decide +kernel
theorem dL_law_862 : decode cL_law 862 = .ok (.iload 6, 2) := by decide +kernel
theorem dL_law_864 : decode cL_law 864 = .ok (.i2l, 1) := by decide +kernel
theorem dL_law_865 : decode cL_law 865 = .ok (.lcmp, 1) := by decide +kernel
theorem dL_law_866 : decode cL_law 866 = .ok (.ifCond .eq 5, 3) := by decide +kernel
theorem dL_law_869 : decode cL_law 869 = .ok (.iconst 0, 1) := by decide +kernel
theorem dL_law_870 : decode cL_law 870 = .ok (.ireturn, 1) := by decide +kernel
theorem dL_law_871 : decode cL_law 871 = .ok (.goto 958, 3) := by decide +kernel
theorem dL_law_874 : decode cL_law 874 = .ok (.aload_n 1, 1) := by decide +kernel
theorem dL_law_875 : decode cL_law 875 = .ok (.aload_n 0, 1) := by decide +kernel
theorem dL_law_876 : decode cL_law 876 = .ok (.iload 4, 2) := by decide +kernel
theorem dL_law_878 : decode cL_law 878 = .ok (.iconst 1, 1) := by decide +kernel
theorem dL_law_879 : decode cL_law 879 = .ok (.iadd, 1) := by decide +kernel
theorem dL_law_880 : decode cL_law 880 = .ok (.iaload, 1) := by decide +kernel
theorem dL_law_881 : decode cL_law 881 = .ok (.aload_n 3, 1) := by decide +kernel
theorem dL_law_882 : decode cL_law 882 = .ok (.invokestatic 146, 3) := by decide +kernel
theorem dL_law_885 : decode cL_law 885 = .ok (.istore 5, 2) := by decide +kernel
theorem dL_law_887 : decode cL_law 887 = .ok (.aload_n 2, 1) := by decide +kernel
theorem dL_law_888 : decode cL_law 888 = .ok (.aload_n 0, 1) := by decide +kernel
theorem dL_law_889 : decode cL_law 889 = .ok (.iload 4, 2) := by decide +kernel
theorem dL_law_891 : decode cL_law 891 = .ok (.iconst 1, 1) := by decide +kernel
theorem dL_law_892 : decode cL_law 892 = .ok (.iadd, 1) := by decide +kernel
theorem dL_law_893 : decode cL_law 893 = .ok (.iaload, 1) := by decide +kernel
theorem dL_law_894 : decode cL_law 894 = .ok (.invokevirtual 148, 3) := by decide +kernel
theorem dL_law_897 : decode cL_law 897 = .ok (.istore 6, 2) := by decide +kernel
theorem dL_law_899 : decode cL_law 899 = .ok (.aload_n 2, 1) := by decide +kernel
theorem dL_law_900 : decode cL_law 900 = .ok (.invokevirtual 108, 3) := by decide +kernel
theorem dL_law_903 : decode cL_law 903 = .ok (.iload 5, 2) := by decide +kernel
theorem dL_law_905 : decode cL_law 905 = .ok (.if_icmp .eq 5, 3) := by decide +kernel
theorem dL_law_908 : decode cL_law 908 = .ok (.iconst 0, 1) := by decide +kernel
theorem dL_law_909 : decode cL_law 909 = .ok (.ireturn, 1) := by decide +kernel
theorem dL_law_910 : decode cL_law 910 = .ok (.iload 5, 2) := by decide +kernel
theorem dL_law_912 : decode cL_law 912 = .ok (.ifCond .ne 15, 3) := by decide +kernel
theorem dL_law_915 : decode cL_law 915 = .ok (.aload_n 3, 1) := by decide +kernel
theorem dL_law_916 : decode cL_law 916 = .ok (.iconst 0, 1) := by decide +kernel
theorem dL_law_917 : decode cL_law 917 = .ok (.laload, 1) := by decide +kernel
theorem dL_law_918 : decode cL_law 918 = .ok (.iload 6, 2) := by decide +kernel
theorem dL_law_920 : decode cL_law 920 = .ok (.i2l, 1) := by decide +kernel
theorem dL_law_921 : decode cL_law 921 = .ok (.lcmp, 1) := by decide +kernel
theorem dL_law_922 : decode cL_law 922 = .ok (.ifCond .eq 5, 3) := by decide +kernel
theorem dL_law_925 : decode cL_law 925 = .ok (.iconst 0, 1) := by decide +kernel
theorem dL_law_926 : decode cL_law 926 = .ok (.ireturn, 1) := by decide +kernel
theorem dL_law_927 : decode cL_law 927 = .ok (.goto 902, 3) := by decide +kernel
theorem dL_law_930 : decode cL_law 930 = .ok (.aload_n 1, 1) := by decide +kernel
theorem dL_law_931 : decode cL_law 931 = .ok (.aload_n 0, 1) := by decide +kernel
theorem dL_law_932 : decode cL_law 932 = .ok (.iload 4, 2) := by decide +kernel
theorem dL_law_934 : decode cL_law 934 = .ok (.iconst 1, 1) := by decide +kernel
theorem dL_law_935 : decode cL_law 935 = .ok (.iadd, 1) := by decide +kernel
theorem dL_law_936 : decode cL_law 936 = .ok (.iaload, 1) := by decide +kernel
theorem dL_law_937 : decode cL_law 937 = .ok (.aload_n 0, 1) := by decide +kernel
theorem dL_law_938 : decode cL_law 938 = .ok (.iload 4, 2) := by decide +kernel
theorem dL_law_940 : decode cL_law 940 = .ok (.iconst 2, 1) := by decide +kernel
theorem dL_law_941 : decode cL_law 941 = .ok (.iadd, 1) := by decide +kernel
theorem dL_law_942 : decode cL_law 942 = .ok (.iaload, 1) := by decide +kernel
theorem dL_law_943 : decode cL_law 943 = .ok (.aload_n 3, 1) := by decide +kernel
theorem dL_law_944 : decode cL_law 944 = .ok (.invokestatic 149, 3) := by decide +kernel
theorem dL_law_947 : decode cL_law 947 = .ok (.istore 5, 2) := by decide +kernel
theorem dL_law_949 : decode cL_law 949 = .ok (.aload_n 2, 1) := by decide +kernel
theorem dL_law_950 : decode cL_law 950 = .ok (.aload_n 0, 1) := by decide +kernel
theorem dL_law_951 : decode cL_law 951 = .ok (.iload 4, 2) := by decide +kernel
theorem dL_law_953 : decode cL_law 953 = .ok (.iconst 1, 1) := by decide +kernel
theorem dL_law_954 : decode cL_law 954 = .ok (.iadd, 1) := by decide +kernel
theorem dL_law_955 : decode cL_law 955 = .ok (.iaload, 1) := by decide +kernel
theorem dL_law_956 : decode cL_law 956 = .ok (.aload_n 0, 1) := by decide +kernel
theorem dL_law_957 : decode cL_law 957 = .ok (.iload 4, 2) := by decide +kernel
theorem dL_law_959 : decode cL_law 959 = .ok (.iconst 2, 1) := by decide +kernel
theorem dL_law_960 : decode cL_law 960 = .ok (.iadd, 1) := by decide +kernel
theorem dL_law_961 : decode cL_law 961 = .ok (.iaload, 1) := by decide +kernel
theorem dL_law_962 : decode cL_law 962 = .ok (.invokevirtual 152, 3) := by decide +kernel
theorem dL_law_965 : decode cL_law 965 = .ok (.istore 6, 2) := by decide +kernel
theorem dL_law_967 : decode cL_law 967 = .ok (.aload_n 2, 1) := by decide +kernel
theorem dL_law_968 : decode cL_law 968 = .ok (.invokevirtual 108, 3) := by decide +kernel
theorem dL_law_971 : decode cL_law 971 = .ok (.iload 5, 2) := by decide +kernel
theorem dL_law_973 : decode cL_law 973 = .ok (.if_icmp .eq 5, 3) := by decide +kernel
theorem dL_law_976 : decode cL_law 976 = .ok (.iconst 0, 1) := by decide +kernel
theorem dL_law_977 : decode cL_law 977 = .ok (.ireturn, 1) := by decide +kernel
theorem dL_law_978 : decode cL_law 978 = .ok (.iload 5, 2) := by decide +kernel
theorem dL_law_980 : decode cL_law 980 = .ok (.ifCond .ne 15, 3) := by decide +kernel
theorem dL_law_983 : decode cL_law 983 = .ok (.aload_n 3, 1) := by decide +kernel
theorem dL_law_984 : decode cL_law 984 = .ok (.iconst 0, 1) := by decide +kernel
theorem dL_law_985 : decode cL_law 985 = .ok (.laload, 1) := by decide +kernel
theorem dL_law_986 : decode cL_law 986 = .ok (.iload 6, 2) := by decide +kernel
theorem dL_law_988 : decode cL_law 988 = .ok (.i2l, 1) := by decide +kernel
theorem dL_law_989 : decode cL_law 989 = .ok (.lcmp, 1) := by decide +kernel
theorem dL_law_990 : decode cL_law 990 = .ok (.ifCond .eq 5, 3) := by decide +kernel
theorem dL_law_993 : decode cL_law 993 = .ok (.iconst 0, 1) := by decide +kernel
theorem dL_law_994 : decode cL_law 994 = .ok (.ireturn, 1) := by decide +kernel
theorem dL_law_995 : decode cL_law 995 = .ok (.goto 834, 3) := by decide +kernel
theorem dL_law_998 : decode cL_law 998 = .ok (.aload_n 1, 1) := by decide +kernel
theorem dL_law_999 : decode cL_law 999 = .ok (.aload_n 0, 1) := by decide +kernel
theorem dL_law_1000 : decode cL_law 1000 = .ok (.iload 4, 2) := by decide +kernel
theorem dL_law_1002 : decode cL_law 1002 = .ok (.iconst 1, 1) := by decide +kernel
theorem dL_law_1003 : decode cL_law 1003 = .ok (.iadd, 1) := by decide +kernel
theorem dL_law_1004 : decode cL_law 1004 = .ok (.iaload, 1) := by decide +kernel
theorem dL_law_1005 : decode cL_law 1005 = .ok (.aload_n 3, 1) := by decide +kernel
theorem dL_law_1006 : decode cL_law 1006 = .ok (.invokestatic 153, 3) := by decide +kernel
theorem dL_law_1009 : decode cL_law 1009 = .ok (.istore 5, 2) := by decide +kernel
theorem dL_law_1011 : decode cL_law 1011 = .ok (.aload_n 2, 1) := by decide +kernel
theorem dL_law_1012 : decode cL_law 1012 = .ok (.aload_n 0, 1) := by decide +kernel
theorem dL_law_1013 : decode cL_law 1013 = .ok (.iload 4, 2) := by decide +kernel
theorem dL_law_1015 : decode cL_law 1015 = .ok (.iconst 1, 1) := by decide +kernel
theorem dL_law_1016 : decode cL_law 1016 = .ok (.iadd, 1) := by decide +kernel
theorem dL_law_1017 : decode cL_law 1017 = .ok (.iaload, 1) := by decide +kernel
theorem dL_law_1018 : decode cL_law 1018 = .ok (.invokevirtual 155, 3) := by decide +kernel
theorem dL_law_1021 : decode cL_law 1021 = .ok (.lstore 6, 2) := by decide +kernel
theorem dL_law_1023 : decode cL_law 1023 = .ok (.aload_n 2, 1) := by decide +kernel
theorem dL_law_1024 : decode cL_law 1024 = .ok (.invokevirtual 108, 3) := by decide +kernel
theorem dL_law_1027 : decode cL_law 1027 = .ok (.iload 5, 2) := by decide +kernel
theorem dL_law_1029 : decode cL_law 1029 = .ok (.if_icmp .eq 5, 3) := by decide +kernel
theorem dL_law_1032 : decode cL_law 1032 = .ok (.iconst 0, 1) := by decide +kernel
theorem dL_law_1033 : decode cL_law 1033 = .ok (.ireturn, 1) := by decide +kernel
theorem dL_law_1034 : decode cL_law 1034 = .ok (.iload 5, 2) := by decide +kernel
theorem dL_law_1036 : decode cL_law 1036 = .ok (.ifCond .ne 14, 3) := by decide +kernel
theorem dL_law_1039 : decode cL_law 1039 = .ok (.aload_n 3, 1) := by decide +kernel
theorem dL_law_1040 : decode cL_law 1040 = .ok (.iconst 0, 1) := by decide +kernel
theorem dL_law_1041 : decode cL_law 1041 = .ok (.laload, 1) := by decide +kernel
theorem dL_law_1042 : decode cL_law 1042 = .ok (.lload 6, 2) := by decide +kernel
theorem dL_law_1044 : decode cL_law 1044 = .ok (.lcmp, 1) := by decide +kernel
theorem dL_law_1045 : decode cL_law 1045 = .ok (.ifCond .eq 5, 3) := by decide +kernel
theorem dL_law_1048 : decode cL_law 1048 = .ok (.iconst 0, 1) := by decide +kernel
theorem dL_law_1049 : decode cL_law 1049 = .ok (.ireturn, 1) := by decide +kernel
theorem dL_law_1050 : decode cL_law 1050 = .ok (.goto 779, 3) := by decide +kernel
theorem dL_law_1053 : decode cL_law 1053 = .ok (.aload_n 1, 1) := by decide +kernel
theorem dL_law_1054 : decode cL_law 1054 = .ok (.aload_n 0, 1) := by decide +kernel
theorem dL_law_1055 : decode cL_law 1055 = .ok (.iload 4, 2) := by decide +kernel
theorem dL_law_1057 : decode cL_law 1057 = .ok (.iconst 1, 1) := by decide +kernel
theorem dL_law_1058 : decode cL_law 1058 = .ok (.iadd, 1) := by decide +kernel
theorem dL_law_1059 : decode cL_law 1059 = .ok (.iaload, 1) := by decide +kernel
theorem dL_law_1060 : decode cL_law 1060 = .ok (.aload_n 0, 1) := by decide +kernel
theorem dL_law_1061 : decode cL_law 1061 = .ok (.iload 4, 2) := by decide +kernel
theorem dL_law_1063 : decode cL_law 1063 = .ok (.iconst 2, 1) := by decide +kernel
theorem dL_law_1064 : decode cL_law 1064 = .ok (.iadd, 1) := by decide +kernel
theorem dL_law_1065 : decode cL_law 1065 = .ok (.iaload, 1) := by decide +kernel
theorem dL_law_1066 : decode cL_law 1066 = .ok (.aload_n 0, 1) := by decide +kernel
theorem dL_law_1067 : decode cL_law 1067 = .ok (.iload 4, 2) := by decide +kernel
theorem dL_law_1069 : decode cL_law 1069 = .ok (.iconst 3, 1) := by decide +kernel
theorem dL_law_1070 : decode cL_law 1070 = .ok (.iadd, 1) := by decide +kernel
theorem dL_law_1071 : decode cL_law 1071 = .ok (.iaload, 1) := by decide +kernel
theorem dL_law_1072 : decode cL_law 1072 = .ok (.aload_n 0, 1) := by decide +kernel
theorem dL_law_1073 : decode cL_law 1073 = .ok (.iload 4, 2) := by decide +kernel
theorem dL_law_1075 : decode cL_law 1075 = .ok (.iconst 4, 1) := by decide +kernel
theorem dL_law_1076 : decode cL_law 1076 = .ok (.iadd, 1) := by decide +kernel
theorem dL_law_1077 : decode cL_law 1077 = .ok (.iaload, 1) := by decide +kernel
theorem dL_law_1078 : decode cL_law 1078 = .ok (.aload_n 3, 1) := by decide +kernel
theorem dL_law_1079 : decode cL_law 1079 = .ok (.invokestatic 156, 3) := by decide +kernel
theorem dL_law_1082 : decode cL_law 1082 = .ok (.istore 5, 2) := by decide +kernel
theorem dL_law_1084 : decode cL_law 1084 = .ok (.aload_n 2, 1) := by decide +kernel
theorem dL_law_1085 : decode cL_law 1085 = .ok (.aload_n 0, 1) := by decide +kernel
theorem dL_law_1086 : decode cL_law 1086 = .ok (.iload 4, 2) := by decide +kernel
theorem dL_law_1088 : decode cL_law 1088 = .ok (.iconst 1, 1) := by decide +kernel
theorem dL_law_1089 : decode cL_law 1089 = .ok (.iadd, 1) := by decide +kernel
theorem dL_law_1090 : decode cL_law 1090 = .ok (.iaload, 1) := by decide +kernel
theorem dL_law_1091 : decode cL_law 1091 = .ok (.aload_n 0, 1) := by decide +kernel
theorem dL_law_1092 : decode cL_law 1092 = .ok (.iload 4, 2) := by decide +kernel
theorem dL_law_1094 : decode cL_law 1094 = .ok (.iconst 2, 1) := by decide +kernel
theorem dL_law_1095 : decode cL_law 1095 = .ok (.iadd, 1) := by decide +kernel
theorem dL_law_1096 : decode cL_law 1096 = .ok (.iaload, 1) := by decide +kernel
theorem dL_law_1097 : decode cL_law 1097 = .ok (.aload_n 0, 1) := by decide +kernel
theorem dL_law_1098 : decode cL_law 1098 = .ok (.iload 4, 2) := by decide +kernel
theorem dL_law_1100 : decode cL_law 1100 = .ok (.iconst 3, 1) := by decide +kernel
theorem dL_law_1101 : decode cL_law 1101 = .ok (.iadd, 1) := by decide +kernel
theorem dL_law_1102 : decode cL_law 1102 = .ok (.iaload, 1) := by decide +kernel
theorem dL_law_1103 : decode cL_law 1103 = .ok (.aload_n 0, 1) := by decide +kernel
theorem dL_law_1104 : decode cL_law 1104 = .ok (.iload 4, 2) := by decide +kernel
theorem dL_law_1106 : decode cL_law 1106 = .ok (.iconst 4, 1) := by decide +kernel
theorem dL_law_1107 : decode cL_law 1107 = .ok (.iadd, 1) := by decide +kernel
theorem dL_law_1108 : decode cL_law 1108 = .ok (.iaload, 1) := by decide +kernel
theorem dL_law_1109 : decode cL_law 1109 = .ok (.invokevirtual 159, 3) := by decide +kernel
theorem dL_law_1112 : decode cL_law 1112 = .ok (.istore 6, 2) := by decide +kernel
theorem dL_law_1114 : decode cL_law 1114 = .ok (.aload_n 2, 1) := by decide +kernel
theorem dL_law_1115 : decode cL_law 1115 = .ok (.invokevirtual 108, 3) := by decide +kernel
theorem dL_law_1118 : decode cL_law 1118 = .ok (.iload 5, 2) := by decide +kernel
theorem dL_law_1120 : decode cL_law 1120 = .ok (.if_icmp .eq 5, 3) := by decide +kernel
theorem dL_law_1123 : decode cL_law 1123 = .ok (.iconst 0, 1) := by decide +kernel
theorem dL_law_1124 : decode cL_law 1124 = .ok (.ireturn, 1) := by decide +kernel
theorem dL_law_1125 : decode cL_law 1125 = .ok (.iload 5, 2) := by decide +kernel
theorem dL_law_1127 : decode cL_law 1127 = .ok (.ifCond .ne 15, 3) := by decide +kernel
theorem dL_law_1130 : decode cL_law 1130 = .ok (.aload_n 3, 1) := by decide +kernel
theorem dL_law_1131 : decode cL_law 1131 = .ok (.iconst 0, 1) := by decide +kernel
theorem dL_law_1132 : decode cL_law 1132 = .ok (.laload, 1) := by decide +kernel
theorem dL_law_1133 : decode cL_law 1133 = .ok (.iload 6, 2) := by decide +kernel
theorem dL_law_1135 : decode cL_law 1135 = .ok (.i2l, 1) := by decide +kernel
theorem dL_law_1136 : decode cL_law 1136 = .ok (.lcmp, 1) := by decide +kernel
theorem dL_law_1137 : decode cL_law 1137 = .ok (.ifCond .eq 5, 3) := by decide +kernel
theorem dL_law_1140 : decode cL_law 1140 = .ok (.iconst 0, 1) := by decide +kernel
theorem dL_law_1141 : decode cL_law 1141 = .ok (.ireturn, 1) := by decide +kernel
theorem dL_law_1142 : decode cL_law 1142 = .ok (.goto 687, 3) := by decide +kernel
theorem dL_law_1145 : decode cL_law 1145 = .ok (.aload_n 1, 1) := by decide +kernel
theorem dL_law_1146 : decode cL_law 1146 = .ok (.aload_n 0, 1) := by decide +kernel
theorem dL_law_1147 : decode cL_law 1147 = .ok (.iload 4, 2) := by decide +kernel
theorem dL_law_1149 : decode cL_law 1149 = .ok (.iconst 1, 1) := by decide +kernel
theorem dL_law_1150 : decode cL_law 1150 = .ok (.iadd, 1) := by decide +kernel
theorem dL_law_1151 : decode cL_law 1151 = .ok (.iaload, 1) := by decide +kernel
theorem dL_law_1152 : decode cL_law 1152 = .ok (.aload_n 0, 1) := by decide +kernel
theorem dL_law_1153 : decode cL_law 1153 = .ok (.iload 4, 2) := by decide +kernel
theorem dL_law_1155 : decode cL_law 1155 = .ok (.iconst 2, 1) := by decide +kernel
theorem dL_law_1156 : decode cL_law 1156 = .ok (.iadd, 1) := by decide +kernel
theorem dL_law_1157 : decode cL_law 1157 = .ok (.iaload, 1) := by decide +kernel
theorem dL_law_1158 : decode cL_law 1158 = .ok (.aload_n 3, 1) := by decide +kernel
theorem dL_law_1159 : decode cL_law 1159 = .ok (.invokestatic 160, 3) := by decide +kernel
theorem dL_law_1162 : decode cL_law 1162 = .ok (.istore 5, 2) := by decide +kernel
theorem dL_law_1164 : decode cL_law 1164 = .ok (.aload_n 2, 1) := by decide +kernel
theorem dL_law_1165 : decode cL_law 1165 = .ok (.aload_n 0, 1) := by decide +kernel
theorem dL_law_1166 : decode cL_law 1166 = .ok (.iload 4, 2) := by decide +kernel
theorem dL_law_1168 : decode cL_law 1168 = .ok (.iconst 1, 1) := by decide +kernel
theorem dL_law_1169 : decode cL_law 1169 = .ok (.iadd, 1) := by decide +kernel
theorem dL_law_1170 : decode cL_law 1170 = .ok (.iaload, 1) := by decide +kernel
theorem dL_law_1171 : decode cL_law 1171 = .ok (.aload_n 0, 1) := by decide +kernel
theorem dL_law_1172 : decode cL_law 1172 = .ok (.iload 4, 2) := by decide +kernel
theorem dL_law_1174 : decode cL_law 1174 = .ok (.iconst 2, 1) := by decide +kernel
theorem dL_law_1175 : decode cL_law 1175 = .ok (.iadd, 1) := by decide +kernel
theorem dL_law_1176 : decode cL_law 1176 = .ok (.iaload, 1) := by decide +kernel
theorem dL_law_1177 : decode cL_law 1177 = .ok (.invokevirtual 162, 3) := by decide +kernel
theorem dL_law_1180 : decode cL_law 1180 = .ok (.istore 6, 2) := by decide +kernel
theorem dL_law_1182 : decode cL_law 1182 = .ok (.aload_n 2, 1) := by decide +kernel
theorem dL_law_1183 : decode cL_law 1183 = .ok (.invokevirtual 108, 3) := by decide +kernel
theorem dL_law_1186 : decode cL_law 1186 = .ok (.iload 5, 2) := by decide +kernel
theorem dL_law_1188 : decode cL_law 1188 = .ok (.if_icmp .eq 5, 3) := by decide +kernel
theorem dL_law_1191 : decode cL_law 1191 = .ok (.iconst 0, 1) := by decide +kernel
theorem dL_law_1192 : decode cL_law 1192 = .ok (.ireturn, 1) := by decide +kernel
theorem dL_law_1193 : decode cL_law 1193 = .ok (.iload 5, 2) := by decide +kernel
theorem dL_law_1195 : decode cL_law 1195 = .ok (.ifCond .ne 15, 3) := by decide +kernel
theorem dL_law_1198 : decode cL_law 1198 = .ok (.aload_n 3, 1) := by decide +kernel
theorem dL_law_1199 : decode cL_law 1199 = .ok (.iconst 0, 1) := by decide +kernel
theorem dL_law_1200 : decode cL_law 1200 = .ok (.laload, 1) := by decide +kernel
theorem dL_law_1201 : decode cL_law 1201 = .ok (.iload 6, 2) := by decide +kernel
theorem dL_law_1203 : decode cL_law 1203 = .ok (.i2l, 1) := by decide +kernel
theorem dL_law_1204 : decode cL_law 1204 = .ok (.lcmp, 1) := by decide +kernel
theorem dL_law_1205 : decode cL_law 1205 = .ok (.ifCond .eq 5, 3) := by decide +kernel
theorem dL_law_1208 : decode cL_law 1208 = .ok (.iconst 0, 1) := by decide +kernel
theorem dL_law_1209 : decode cL_law 1209 = .ok (.ireturn, 1) := by decide +kernel
theorem dL_law_1210 : decode cL_law 1210 = .ok (.goto 619, 3) := by decide +kernel
theorem dL_law_1213 : decode cL_law 1213 = .ok (.aload_n 1, 1) := by decide +kernel
theorem dL_law_1214 : decode cL_law 1214 = .ok (.aload_n 0, 1) := by decide +kernel
theorem dL_law_1215 : decode cL_law 1215 = .ok (.iload 4, 2) := by decide +kernel
theorem dL_law_1217 : decode cL_law 1217 = .ok (.iconst 1, 1) := by decide +kernel
theorem dL_law_1218 : decode cL_law 1218 = .ok (.iadd, 1) := by decide +kernel
theorem dL_law_1219 : decode cL_law 1219 = .ok (.iaload, 1) := by decide +kernel
theorem dL_law_1220 : decode cL_law 1220 = .ok (.aload_n 0, 1) := by decide +kernel
theorem dL_law_1221 : decode cL_law 1221 = .ok (.iload 4, 2) := by decide +kernel
theorem dL_law_1223 : decode cL_law 1223 = .ok (.iconst 2, 1) := by decide +kernel
theorem dL_law_1224 : decode cL_law 1224 = .ok (.iadd, 1) := by decide +kernel
theorem dL_law_1225 : decode cL_law 1225 = .ok (.iaload, 1) := by decide +kernel
theorem dL_law_1226 : decode cL_law 1226 = .ok (.aload_n 3, 1) := by decide +kernel
theorem dL_law_1227 : decode cL_law 1227 = .ok (.invokestatic 163, 3) := by decide +kernel
theorem dL_law_1230 : decode cL_law 1230 = .ok (.istore 5, 2) := by decide +kernel
theorem dL_law_1232 : decode cL_law 1232 = .ok (.aload_n 2, 1) := by decide +kernel
theorem dL_law_1233 : decode cL_law 1233 = .ok (.aload_n 0, 1) := by decide +kernel
theorem dL_law_1234 : decode cL_law 1234 = .ok (.iload 4, 2) := by decide +kernel
theorem dL_law_1236 : decode cL_law 1236 = .ok (.iconst 1, 1) := by decide +kernel
theorem dL_law_1237 : decode cL_law 1237 = .ok (.iadd, 1) := by decide +kernel
theorem dL_law_1238 : decode cL_law 1238 = .ok (.iaload, 1) := by decide +kernel
theorem dL_law_1239 : decode cL_law 1239 = .ok (.aload_n 0, 1) := by decide +kernel
theorem dL_law_1240 : decode cL_law 1240 = .ok (.iload 4, 2) := by decide +kernel
theorem dL_law_1242 : decode cL_law 1242 = .ok (.iconst 2, 1) := by decide +kernel
theorem dL_law_1243 : decode cL_law 1243 = .ok (.iadd, 1) := by decide +kernel
theorem dL_law_1244 : decode cL_law 1244 = .ok (.iaload, 1) := by decide +kernel
theorem dL_law_1245 : decode cL_law 1245 = .ok (.invokevirtual 165, 3) := by decide +kernel
theorem dL_law_1248 : decode cL_law 1248 = .ok (.istore 6, 2) := by decide +kernel
theorem dL_law_1250 : decode cL_law 1250 = .ok (.aload_n 2, 1) := by decide +kernel
theorem dL_law_1251 : decode cL_law 1251 = .ok (.invokevirtual 108, 3) := by decide +kernel
theorem dL_law_1254 : decode cL_law 1254 = .ok (.iload 5, 2) := by decide +kernel
theorem dL_law_1256 : decode cL_law 1256 = .ok (.if_icmp .eq 5, 3) := by decide +kernel
theorem dL_law_1259 : decode cL_law 1259 = .ok (.iconst 0, 1) := by decide +kernel
theorem dL_law_1260 : decode cL_law 1260 = .ok (.ireturn, 1) := by decide +kernel
theorem dL_law_1261 : decode cL_law 1261 = .ok (.iload 5, 2) := by decide +kernel
theorem dL_law_1263 : decode cL_law 1263 = .ok (.ifCond .ne 15, 3) := by decide +kernel
theorem dL_law_1266 : decode cL_law 1266 = .ok (.aload_n 3, 1) := by decide +kernel
theorem dL_law_1267 : decode cL_law 1267 = .ok (.iconst 0, 1) := by decide +kernel
theorem dL_law_1268 : decode cL_law 1268 = .ok (.laload, 1) := by decide +kernel
theorem dL_law_1269 : decode cL_law 1269 = .ok (.iload 6, 2) := by decide +kernel
theorem dL_law_1271 : decode cL_law 1271 = .ok (.i2l, 1) := by decide +kernel
theorem dL_law_1272 : decode cL_law 1272 = .ok (.lcmp, 1) := by decide +kernel
theorem dL_law_1273 : decode cL_law 1273 = .ok (.ifCond .eq 5, 3) := by decide +kernel
theorem dL_law_1276 : decode cL_law 1276 = .ok (.iconst 0, 1) := by decide +kernel
theorem dL_law_1277 : decode cL_law 1277 = .ok (.ireturn, 1) := by decide +kernel
theorem dL_law_1278 : decode cL_law 1278 = .ok (.goto 551, 3) := by decide +kernel
theorem dL_law_1281 : decode cL_law 1281 = .ok (.aload_n 1, 1) := by decide +kernel
theorem dL_law_1282 : decode cL_law 1282 = .ok (.aload_n 0, 1) := by decide +kernel
theorem dL_law_1283 : decode cL_law 1283 = .ok (.iload 4, 2) := by decide +kernel
theorem dL_law_1285 : decode cL_law 1285 = .ok (.iconst 1, 1) := by decide +kernel
theorem dL_law_1286 : decode cL_law 1286 = .ok (.iadd, 1) := by decide +kernel
theorem dL_law_1287 : decode cL_law 1287 = .ok (.iaload, 1) := by decide +kernel
theorem dL_law_1288 : decode cL_law 1288 = .ok (.aload_n 0, 1) := by decide +kernel
theorem dL_law_1289 : decode cL_law 1289 = .ok (.iload 4, 2) := by decide +kernel
theorem dL_law_1291 : decode cL_law 1291 = .ok (.iconst 2, 1) := by decide +kernel
theorem dL_law_1292 : decode cL_law 1292 = .ok (.iadd, 1) := by decide +kernel
theorem dL_law_1293 : decode cL_law 1293 = .ok (.iaload, 1) := by decide +kernel
theorem dL_law_1294 : decode cL_law 1294 = .ok (.aload_n 3, 1) := by decide +kernel
theorem dL_law_1295 : decode cL_law 1295 = .ok (.invokestatic 166, 3) := by decide +kernel
theorem dL_law_1298 : decode cL_law 1298 = .ok (.istore 5, 2) := by decide +kernel
theorem dL_law_1300 : decode cL_law 1300 = .ok (.aload_n 2, 1) := by decide +kernel
theorem dL_law_1301 : decode cL_law 1301 = .ok (.aload_n 0, 1) := by decide +kernel
theorem dL_law_1302 : decode cL_law 1302 = .ok (.iload 4, 2) := by decide +kernel
theorem dL_law_1304 : decode cL_law 1304 = .ok (.iconst 1, 1) := by decide +kernel
theorem dL_law_1305 : decode cL_law 1305 = .ok (.iadd, 1) := by decide +kernel
theorem dL_law_1306 : decode cL_law 1306 = .ok (.iaload, 1) := by decide +kernel
theorem dL_law_1307 : decode cL_law 1307 = .ok (.aload_n 0, 1) := by decide +kernel
theorem dL_law_1308 : decode cL_law 1308 = .ok (.iload 4, 2) := by decide +kernel
theorem dL_law_1310 : decode cL_law 1310 = .ok (.iconst 2, 1) := by decide +kernel
theorem dL_law_1311 : decode cL_law 1311 = .ok (.iadd, 1) := by decide +kernel
theorem dL_law_1312 : decode cL_law 1312 = .ok (.iaload, 1) := by decide +kernel
theorem dL_law_1313 : decode cL_law 1313 = .ok (.invokevirtual 168, 3) := by decide +kernel
theorem dL_law_1316 : decode cL_law 1316 = .ok (.istore 6, 2) := by decide +kernel
theorem dL_law_1318 : decode cL_law 1318 = .ok (.aload_n 2, 1) := by decide +kernel
theorem dL_law_1319 : decode cL_law 1319 = .ok (.invokevirtual 108, 3) := by decide +kernel
theorem dL_law_1322 : decode cL_law 1322 = .ok (.iload 5, 2) := by decide +kernel
theorem dL_law_1324 : decode cL_law 1324 = .ok (.if_icmp .eq 5, 3) := by decide +kernel
theorem dL_law_1327 : decode cL_law 1327 = .ok (.iconst 0, 1) := by decide +kernel
theorem dL_law_1328 : decode cL_law 1328 = .ok (.ireturn, 1) := by decide +kernel
theorem dL_law_1329 : decode cL_law 1329 = .ok (.iload 5, 2) := by decide +kernel
theorem dL_law_1331 : decode cL_law 1331 = .ok (.ifCond .ne 15, 3) := by decide +kernel
theorem dL_law_1334 : decode cL_law 1334 = .ok (.aload_n 3, 1) := by decide +kernel
theorem dL_law_1335 : decode cL_law 1335 = .ok (.iconst 0, 1) := by decide +kernel
theorem dL_law_1336 : decode cL_law 1336 = .ok (.laload, 1) := by decide +kernel
theorem dL_law_1337 : decode cL_law 1337 = .ok (.iload 6, 2) := by decide +kernel
theorem dL_law_1339 : decode cL_law 1339 = .ok (.i2l, 1) := by decide +kernel
theorem dL_law_1340 : decode cL_law 1340 = .ok (.lcmp, 1) := by decide +kernel
theorem dL_law_1341 : decode cL_law 1341 = .ok (.ifCond .eq 5, 3) := by decide +kernel
theorem dL_law_1344 : decode cL_law 1344 = .ok (.iconst 0, 1) := by decide +kernel
theorem dL_law_1345 : decode cL_law 1345 = .ok (.ireturn, 1) := by decide +kernel
theorem dL_law_1346 : decode cL_law 1346 = .ok (.goto 483, 3) := by decide +kernel
theorem dL_law_1349 : decode cL_law 1349 = .ok (.aload_n 1, 1) := by decide +kernel
theorem dL_law_1350 : decode cL_law 1350 = .ok (.aload_n 0, 1) := by decide +kernel
theorem dL_law_1351 : decode cL_law 1351 = .ok (.iload 4, 2) := by decide +kernel
theorem dL_law_1353 : decode cL_law 1353 = .ok (.iconst 1, 1) := by decide +kernel
theorem dL_law_1354 : decode cL_law 1354 = .ok (.iadd, 1) := by decide +kernel
theorem dL_law_1355 : decode cL_law 1355 = .ok (.iaload, 1) := by decide +kernel
theorem dL_law_1356 : decode cL_law 1356 = .ok (.aload_n 0, 1) := by decide +kernel
theorem dL_law_1357 : decode cL_law 1357 = .ok (.iload 4, 2) := by decide +kernel
theorem dL_law_1359 : decode cL_law 1359 = .ok (.iconst 2, 1) := by decide +kernel
theorem dL_law_1360 : decode cL_law 1360 = .ok (.iadd, 1) := by decide +kernel
theorem dL_law_1361 : decode cL_law 1361 = .ok (.iaload, 1) := by decide +kernel
theorem dL_law_1362 : decode cL_law 1362 = .ok (.aload_n 3, 1) := by decide +kernel
theorem dL_law_1363 : decode cL_law 1363 = .ok (.invokestatic 169, 3) := by decide +kernel
theorem dL_law_1366 : decode cL_law 1366 = .ok (.istore 5, 2) := by decide +kernel
theorem dL_law_1368 : decode cL_law 1368 = .ok (.aload_n 2, 1) := by decide +kernel
theorem dL_law_1369 : decode cL_law 1369 = .ok (.aload_n 0, 1) := by decide +kernel
theorem dL_law_1370 : decode cL_law 1370 = .ok (.iload 4, 2) := by decide +kernel
theorem dL_law_1372 : decode cL_law 1372 = .ok (.iconst 1, 1) := by decide +kernel
theorem dL_law_1373 : decode cL_law 1373 = .ok (.iadd, 1) := by decide +kernel
theorem dL_law_1374 : decode cL_law 1374 = .ok (.iaload, 1) := by decide +kernel
theorem dL_law_1375 : decode cL_law 1375 = .ok (.aload_n 0, 1) := by decide +kernel
theorem dL_law_1376 : decode cL_law 1376 = .ok (.iload 4, 2) := by decide +kernel
theorem dL_law_1378 : decode cL_law 1378 = .ok (.iconst 2, 1) := by decide +kernel
theorem dL_law_1379 : decode cL_law 1379 = .ok (.iadd, 1) := by decide +kernel
theorem dL_law_1380 : decode cL_law 1380 = .ok (.iaload, 1) := by decide +kernel
theorem dL_law_1381 : decode cL_law 1381 = .ok (.invokevirtual 171, 3) := by decide +kernel
theorem dL_law_1384 : decode cL_law 1384 = .ok (.istore 6, 2) := by decide +kernel
theorem dL_law_1386 : decode cL_law 1386 = .ok (.aload_n 2, 1) := by decide +kernel
theorem dL_law_1387 : decode cL_law 1387 = .ok (.invokevirtual 108, 3) := by decide +kernel
theorem dL_law_1390 : decode cL_law 1390 = .ok (.iload 5, 2) := by decide +kernel
theorem dL_law_1392 : decode cL_law 1392 = .ok (.if_icmp .eq 5, 3) := by decide +kernel
theorem dL_law_1395 : decode cL_law 1395 = .ok (.iconst 0, 1) := by decide +kernel
theorem dL_law_1396 : decode cL_law 1396 = .ok (.ireturn, 1) := by decide +kernel
theorem dL_law_1397 : decode cL_law 1397 = .ok (.iload 5, 2) := by decide +kernel
theorem dL_law_1399 : decode cL_law 1399 = .ok (.ifCond .ne 15, 3) := by decide +kernel
theorem dL_law_1402 : decode cL_law 1402 = .ok (.aload_n 3, 1) := by decide +kernel
theorem dL_law_1403 : decode cL_law 1403 = .ok (.iconst 0, 1) := by decide +kernel
theorem dL_law_1404 : decode cL_law 1404 = .ok (.laload, 1) := by decide +kernel
theorem dL_law_1405 : decode cL_law 1405 = .ok (.iload 6, 2) := by decide +kernel
theorem dL_law_1407 : decode cL_law 1407 = .ok (.i2l, 1) := by decide +kernel
theorem dL_law_1408 : decode cL_law 1408 = .ok (.lcmp, 1) := by decide +kernel
theorem dL_law_1409 : decode cL_law 1409 = .ok (.ifCond .eq 5, 3) := by decide +kernel
theorem dL_law_1412 : decode cL_law 1412 = .ok (.iconst 0, 1) := by decide +kernel
theorem dL_law_1413 : decode cL_law 1413 = .ok (.ireturn, 1) := by decide +kernel
theorem dL_law_1414 : decode cL_law 1414 = .ok (.goto 415, 3) := by decide +kernel
theorem dL_law_1417 : decode cL_law 1417 = .ok (.aload_n 1, 1) := by decide +kernel
theorem dL_law_1418 : decode cL_law 1418 = .ok (.aload_n 0, 1) := by decide +kernel
theorem dL_law_1419 : decode cL_law 1419 = .ok (.iload 4, 2) := by decide +kernel
theorem dL_law_1421 : decode cL_law 1421 = .ok (.iconst 1, 1) := by decide +kernel
theorem dL_law_1422 : decode cL_law 1422 = .ok (.iadd, 1) := by decide +kernel
theorem dL_law_1423 : decode cL_law 1423 = .ok (.iaload, 1) := by decide +kernel
theorem dL_law_1424 : decode cL_law 1424 = .ok (.aload_n 0, 1) := by decide +kernel
theorem dL_law_1425 : decode cL_law 1425 = .ok (.iload 4, 2) := by decide +kernel
theorem dL_law_1427 : decode cL_law 1427 = .ok (.iconst 2, 1) := by decide +kernel
theorem dL_law_1428 : decode cL_law 1428 = .ok (.iadd, 1) := by decide +kernel
theorem dL_law_1429 : decode cL_law 1429 = .ok (.iaload, 1) := by decide +kernel
theorem dL_law_1430 : decode cL_law 1430 = .ok (.aload_n 0, 1) := by decide +kernel
theorem dL_law_1431 : decode cL_law 1431 = .ok (.iload 4, 2) := by decide +kernel
theorem dL_law_1433 : decode cL_law 1433 = .ok (.iconst 3, 1) := by decide +kernel
theorem dL_law_1434 : decode cL_law 1434 = .ok (.iadd, 1) := by decide +kernel
theorem dL_law_1435 : decode cL_law 1435 = .ok (.iaload, 1) := by decide +kernel
theorem dL_law_1436 : decode cL_law 1436 = .ok (.aload_n 3, 1) := by decide +kernel
theorem dL_law_1437 : decode cL_law 1437 = .ok (.invokestatic 172, 3) := by decide +kernel
theorem dL_law_1440 : decode cL_law 1440 = .ok (.istore 5, 2) := by decide +kernel
theorem dL_law_1442 : decode cL_law 1442 = .ok (.aload_n 2, 1) := by decide +kernel
theorem dL_law_1443 : decode cL_law 1443 = .ok (.aload_n 0, 1) := by decide +kernel
theorem dL_law_1444 : decode cL_law 1444 = .ok (.iload 4, 2) := by decide +kernel
theorem dL_law_1446 : decode cL_law 1446 = .ok (.iconst 1, 1) := by decide +kernel
theorem dL_law_1447 : decode cL_law 1447 = .ok (.iadd, 1) := by decide +kernel
theorem dL_law_1448 : decode cL_law 1448 = .ok (.iaload, 1) := by decide +kernel
theorem dL_law_1449 : decode cL_law 1449 = .ok (.aload_n 0, 1) := by decide +kernel
theorem dL_law_1450 : decode cL_law 1450 = .ok (.iload 4, 2) := by decide +kernel
theorem dL_law_1452 : decode cL_law 1452 = .ok (.iconst 2, 1) := by decide +kernel
theorem dL_law_1453 : decode cL_law 1453 = .ok (.iadd, 1) := by decide +kernel
theorem dL_law_1454 : decode cL_law 1454 = .ok (.iaload, 1) := by decide +kernel
theorem dL_law_1455 : decode cL_law 1455 = .ok (.aload_n 0, 1) := by decide +kernel
theorem dL_law_1456 : decode cL_law 1456 = .ok (.iload 4, 2) := by decide +kernel
theorem dL_law_1458 : decode cL_law 1458 = .ok (.iconst 3, 1) := by decide +kernel
theorem dL_law_1459 : decode cL_law 1459 = .ok (.iadd, 1) := by decide +kernel
theorem dL_law_1460 : decode cL_law 1460 = .ok (.iaload, 1) := by decide +kernel
theorem dL_law_1461 : decode cL_law 1461 = .ok (.invokevirtual 175, 3) := by decide +kernel
theorem dL_law_1464 : decode cL_law 1464 = .ok (.istore 6, 2) := by decide +kernel
theorem dL_law_1466 : decode cL_law 1466 = .ok (.aload_n 2, 1) := by decide +kernel
theorem dL_law_1467 : decode cL_law 1467 = .ok (.invokevirtual 108, 3) := by decide +kernel
theorem dL_law_1470 : decode cL_law 1470 = .ok (.iload 5, 2) := by decide +kernel
theorem dL_law_1472 : decode cL_law 1472 = .ok (.if_icmp .eq 5, 3) := by decide +kernel
theorem dL_law_1475 : decode cL_law 1475 = .ok (.iconst 0, 1) := by decide +kernel
theorem dL_law_1476 : decode cL_law 1476 = .ok (.ireturn, 1) := by decide +kernel
theorem dL_law_1477 : decode cL_law 1477 = .ok (.iload 5, 2) := by decide +kernel
theorem dL_law_1479 : decode cL_law 1479 = .ok (.ifCond .ne 15, 3) := by decide +kernel
theorem dL_law_1482 : decode cL_law 1482 = .ok (.aload_n 3, 1) := by decide +kernel
theorem dL_law_1483 : decode cL_law 1483 = .ok (.iconst 0, 1) := by decide +kernel
theorem dL_law_1484 : decode cL_law 1484 = .ok (.laload, 1) := by decide +kernel
theorem dL_law_1485 : decode cL_law 1485 = .ok (.iload 6, 2) := by decide +kernel
theorem dL_law_1487 : decode cL_law 1487 = .ok (.i2l, 1) := by decide +kernel
theorem dL_law_1488 : decode cL_law 1488 = .ok (.lcmp, 1) := by decide +kernel
theorem dL_law_1489 : decode cL_law 1489 = .ok (.ifCond .eq 5, 3) := by decide +kernel
theorem dL_law_1492 : decode cL_law 1492 = .ok (.iconst 0, 1) := by decide +kernel
theorem dL_law_1493 : decode cL_law 1493 = .ok (.ireturn, 1) := by decide +kernel
theorem dL_law_1494 : decode cL_law 1494 = .ok (.goto 335, 3) := by decide +kernel
theorem dL_law_1497 : decode cL_law 1497 = .ok (.aload_n 1, 1) := by decide +kernel
theorem dL_law_1498 : decode cL_law 1498 = .ok (.aload_n 0, 1) := by decide +kernel
theorem dL_law_1499 : decode cL_law 1499 = .ok (.iload 4, 2) := by decide +kernel
theorem dL_law_1501 : decode cL_law 1501 = .ok (.iconst 1, 1) := by decide +kernel
theorem dL_law_1502 : decode cL_law 1502 = .ok (.iadd, 1) := by decide +kernel
theorem dL_law_1503 : decode cL_law 1503 = .ok (.iaload, 1) := by decide +kernel
theorem dL_law_1504 : decode cL_law 1504 = .ok (.aload_n 3, 1) := by decide +kernel
theorem dL_law_1505 : decode cL_law 1505 = .ok (.invokestatic 176, 3) := by decide +kernel
theorem dL_law_1508 : decode cL_law 1508 = .ok (.istore 5, 2) := by decide +kernel
theorem dL_law_1510 : decode cL_law 1510 = .ok (.aload_n 2, 1) := by decide +kernel
theorem dL_law_1511 : decode cL_law 1511 = .ok (.aload_n 0, 1) := by decide +kernel
theorem dL_law_1512 : decode cL_law 1512 = .ok (.iload 4, 2) := by decide +kernel
theorem dL_law_1514 : decode cL_law 1514 = .ok (.iconst 1, 1) := by decide +kernel
theorem dL_law_1515 : decode cL_law 1515 = .ok (.iadd, 1) := by decide +kernel
theorem dL_law_1516 : decode cL_law 1516 = .ok (.iaload, 1) := by decide +kernel
theorem dL_law_1517 : decode cL_law 1517 = .ok (.invokevirtual 178, 3) := by decide +kernel
theorem dL_law_1520 : decode cL_law 1520 = .ok (.istore 6, 2) := by decide +kernel
theorem dL_law_1522 : decode cL_law 1522 = .ok (.aload_n 2, 1) := by decide +kernel
theorem dL_law_1523 : decode cL_law 1523 = .ok (.invokevirtual 108, 3) := by decide +kernel
theorem dL_law_1526 : decode cL_law 1526 = .ok (.iload 5, 2) := by decide +kernel
theorem dL_law_1528 : decode cL_law 1528 = .ok (.if_icmp .eq 5, 3) := by decide +kernel
theorem dL_law_1531 : decode cL_law 1531 = .ok (.iconst 0, 1) := by decide +kernel
theorem dL_law_1532 : decode cL_law 1532 = .ok (.ireturn, 1) := by decide +kernel
theorem dL_law_1533 : decode cL_law 1533 = .ok (.iload 5, 2) := by decide +kernel
theorem dL_law_1535 : decode cL_law 1535 = .ok (.ifCond .ne 15, 3) := by decide +kernel
theorem dL_law_1538 : decode cL_law 1538 = .ok (.aload_n 3, 1) := by decide +kernel
theorem dL_law_1539 : decode cL_law 1539 = .ok (.iconst 0, 1) := by decide +kernel
theorem dL_law_1540 : decode cL_law 1540 = .ok (.laload, 1) := by decide +kernel
theorem dL_law_1541 : decode cL_law 1541 = .ok (.iload 6, 2) := by decide +kernel
theorem dL_law_1543 : decode cL_law 1543 = .ok (.i2l, 1) := by decide +kernel
theorem dL_law_1544 : decode cL_law 1544 = .ok (.lcmp, 1) := by decide +kernel
theorem dL_law_1545 : decode cL_law 1545 = .ok (.ifCond .eq 5, 3) := by decide +kernel
theorem dL_law_1548 : decode cL_law 1548 = .ok (.iconst 0, 1) := by decide +kernel
theorem dL_law_1549 : decode cL_law 1549 = .ok (.ireturn, 1) := by decide +kernel
theorem dL_law_1550 : decode cL_law 1550 = .ok (.goto 279, 3) := by decide +kernel
theorem dL_law_1553 : decode cL_law 1553 = .ok (.aload_n 1, 1) := by decide +kernel
theorem dL_law_1554 : decode cL_law 1554 = .ok (.aload_n 0, 1) := by decide +kernel
theorem dL_law_1555 : decode cL_law 1555 = .ok (.iload 4, 2) := by decide +kernel
theorem dL_law_1557 : decode cL_law 1557 = .ok (.iconst 1, 1) := by decide +kernel
theorem dL_law_1558 : decode cL_law 1558 = .ok (.iadd, 1) := by decide +kernel
theorem dL_law_1559 : decode cL_law 1559 = .ok (.iaload, 1) := by decide +kernel
theorem dL_law_1560 : decode cL_law 1560 = .ok (.aload_n 0, 1) := by decide +kernel
theorem dL_law_1561 : decode cL_law 1561 = .ok (.iload 4, 2) := by decide +kernel
theorem dL_law_1563 : decode cL_law 1563 = .ok (.iconst 2, 1) := by decide +kernel
theorem dL_law_1564 : decode cL_law 1564 = .ok (.iadd, 1) := by decide +kernel
theorem dL_law_1565 : decode cL_law 1565 = .ok (.iaload, 1) := by decide +kernel
theorem dL_law_1566 : decode cL_law 1566 = .ok (.aload_n 3, 1) := by decide +kernel
theorem dL_law_1567 : decode cL_law 1567 = .ok (.invokestatic 179, 3) := by decide +kernel
theorem dL_law_1570 : decode cL_law 1570 = .ok (.istore 5, 2) := by decide +kernel
theorem dL_law_1572 : decode cL_law 1572 = .ok (.aload_n 2, 1) := by decide +kernel
theorem dL_law_1573 : decode cL_law 1573 = .ok (.aload_n 0, 1) := by decide +kernel
theorem dL_law_1574 : decode cL_law 1574 = .ok (.iload 4, 2) := by decide +kernel
theorem dL_law_1576 : decode cL_law 1576 = .ok (.iconst 1, 1) := by decide +kernel
theorem dL_law_1577 : decode cL_law 1577 = .ok (.iadd, 1) := by decide +kernel
theorem dL_law_1578 : decode cL_law 1578 = .ok (.iaload, 1) := by decide +kernel
theorem dL_law_1579 : decode cL_law 1579 = .ok (.aload_n 0, 1) := by decide +kernel
theorem dL_law_1580 : decode cL_law 1580 = .ok (.iload 4, 2) := by decide +kernel
theorem dL_law_1582 : decode cL_law 1582 = .ok (.iconst 2, 1) := by decide +kernel
theorem dL_law_1583 : decode cL_law 1583 = .ok (.iadd, 1) := by decide +kernel
theorem dL_law_1584 : decode cL_law 1584 = .ok (.iaload, 1) := by decide +kernel
theorem dL_law_1585 : decode cL_law 1585 = .ok (.invokevirtual 181, 3) := by decide +kernel
theorem dL_law_1588 : decode cL_law 1588 = .ok (.istore 6, 2) := by decide +kernel
theorem dL_law_1590 : decode cL_law 1590 = .ok (.aload_n 2, 1) := by decide +kernel
theorem dL_law_1591 : decode cL_law 1591 = .ok (.invokevirtual 108, 3) := by decide +kernel
theorem dL_law_1594 : decode cL_law 1594 = .ok (.iload 5, 2) := by decide +kernel
theorem dL_law_1596 : decode cL_law 1596 = .ok (.if_icmp .eq 5, 3) := by decide +kernel
theorem dL_law_1599 : decode cL_law 1599 = .ok (.iconst 0, 1) := by decide +kernel
theorem dL_law_1600 : decode cL_law 1600 = .ok (.ireturn, 1) := by decide +kernel
theorem dL_law_1601 : decode cL_law 1601 = .ok (.iload 5, 2) := by decide +kernel
theorem dL_law_1603 : decode cL_law 1603 = .ok (.ifCond .ne 15, 3) := by decide +kernel
theorem dL_law_1606 : decode cL_law 1606 = .ok (.aload_n 3, 1) := by decide +kernel
theorem dL_law_1607 : decode cL_law 1607 = .ok (.iconst 0, 1) := by decide +kernel
theorem dL_law_1608 : decode cL_law 1608 = .ok (.laload, 1) := by decide +kernel
theorem dL_law_1609 : decode cL_law 1609 = .ok (.iload 6, 2) := by decide +kernel
theorem dL_law_1611 : decode cL_law 1611 = .ok (.i2l, 1) := by decide +kernel
theorem dL_law_1612 : decode cL_law 1612 = .ok (.lcmp, 1) := by decide +kernel
theorem dL_law_1613 : decode cL_law 1613 = .ok (.ifCond .eq 5, 3) := by decide +kernel
theorem dL_law_1616 : decode cL_law 1616 = .ok (.iconst 0, 1) := by decide +kernel
theorem dL_law_1617 : decode cL_law 1617 = .ok (.ireturn, 1) := by decide +kernel
theorem dL_law_1618 : decode cL_law 1618 = .ok (.goto 211, 3) := by decide +kernel
theorem dL_law_1621 : decode cL_law 1621 = .ok (.aload_n 1, 1) := by decide +kernel
theorem dL_law_1622 : decode cL_law 1622 = .ok (.aload_n 0, 1) := by decide +kernel
theorem dL_law_1623 : decode cL_law 1623 = .ok (.iload 4, 2) := by decide +kernel
theorem dL_law_1625 : decode cL_law 1625 = .ok (.iconst 1, 1) := by decide +kernel
theorem dL_law_1626 : decode cL_law 1626 = .ok (.iadd, 1) := by decide +kernel
theorem dL_law_1627 : decode cL_law 1627 = .ok (.iaload, 1) := by decide +kernel
theorem dL_law_1628 : decode cL_law 1628 = .ok (.aload_n 3, 1) := by decide +kernel
theorem dL_law_1629 : decode cL_law 1629 = .ok (.invokestatic 182, 3) := by decide +kernel
theorem dL_law_1632 : decode cL_law 1632 = .ok (.istore 5, 2) := by decide +kernel
theorem dL_law_1634 : decode cL_law 1634 = .ok (.aload_n 2, 1) := by decide +kernel
theorem dL_law_1635 : decode cL_law 1635 = .ok (.aload_n 0, 1) := by decide +kernel
theorem dL_law_1636 : decode cL_law 1636 = .ok (.iload 4, 2) := by decide +kernel
theorem dL_law_1638 : decode cL_law 1638 = .ok (.iconst 1, 1) := by decide +kernel
theorem dL_law_1639 : decode cL_law 1639 = .ok (.iadd, 1) := by decide +kernel
theorem dL_law_1640 : decode cL_law 1640 = .ok (.iaload, 1) := by decide +kernel
theorem dL_law_1641 : decode cL_law 1641 = .ok (.invokevirtual 184, 3) := by decide +kernel
theorem dL_law_1644 : decode cL_law 1644 = .ok (.lstore 6, 2) := by decide +kernel
theorem dL_law_1646 : decode cL_law 1646 = .ok (.aload_n 2, 1) := by decide +kernel
theorem dL_law_1647 : decode cL_law 1647 = .ok (.invokevirtual 108, 3) := by decide +kernel
theorem dL_law_1650 : decode cL_law 1650 = .ok (.iload 5, 2) := by decide +kernel
theorem dL_law_1652 : decode cL_law 1652 = .ok (.if_icmp .eq 5, 3) := by decide +kernel
theorem dL_law_1655 : decode cL_law 1655 = .ok (.iconst 0, 1) := by decide +kernel
theorem dL_law_1656 : decode cL_law 1656 = .ok (.ireturn, 1) := by decide +kernel
theorem dL_law_1657 : decode cL_law 1657 = .ok (.iload 5, 2) := by decide +kernel
theorem dL_law_1659 : decode cL_law 1659 = .ok (.ifCond .ne 14, 3) := by decide +kernel
theorem dL_law_1662 : decode cL_law 1662 = .ok (.aload_n 3, 1) := by decide +kernel
theorem dL_law_1663 : decode cL_law 1663 = .ok (.iconst 0, 1) := by decide +kernel
theorem dL_law_1664 : decode cL_law 1664 = .ok (.laload, 1) := by decide +kernel
theorem dL_law_1665 : decode cL_law 1665 = .ok (.lload 6, 2) := by decide +kernel
theorem dL_law_1667 : decode cL_law 1667 = .ok (.lcmp, 1) := by decide +kernel
theorem dL_law_1668 : decode cL_law 1668 = .ok (.ifCond .eq 5, 3) := by decide +kernel
theorem dL_law_1671 : decode cL_law 1671 = .ok (.iconst 0, 1) := by decide +kernel
theorem dL_law_1672 : decode cL_law 1672 = .ok (.ireturn, 1) := by decide +kernel
theorem dL_law_1673 : decode cL_law 1673 = .ok (.goto 156, 3) := by decide +kernel
theorem dL_law_1676 : decode cL_law 1676 = .ok (.aload_n 1, 1) := by decide +kernel
theorem dL_law_1677 : decode cL_law 1677 = .ok (.aload_n 0, 1) := by decide +kernel
theorem dL_law_1678 : decode cL_law 1678 = .ok (.iload 4, 2) := by decide +kernel
theorem dL_law_1680 : decode cL_law 1680 = .ok (.iconst 1, 1) := by decide +kernel
theorem dL_law_1681 : decode cL_law 1681 = .ok (.iadd, 1) := by decide +kernel
theorem dL_law_1682 : decode cL_law 1682 = .ok (.iaload, 1) := by decide +kernel
theorem dL_law_1683 : decode cL_law 1683 = .ok (.aload_n 0, 1) := by decide +kernel
theorem dL_law_1684 : decode cL_law 1684 = .ok (.iload 4, 2) := by decide +kernel
theorem dL_law_1686 : decode cL_law 1686 = .ok (.iconst 2, 1) := by decide +kernel
theorem dL_law_1687 : decode cL_law 1687 = .ok (.iadd, 1) := by decide +kernel
theorem dL_law_1688 : decode cL_law 1688 = .ok (.iaload, 1) := by decide +kernel
theorem dL_law_1689 : decode cL_law 1689 = .ok (.aload_n 0, 1) := by decide +kernel
theorem dL_law_1690 : decode cL_law 1690 = .ok (.iload 4, 2) := by decide +kernel
theorem dL_law_1692 : decode cL_law 1692 = .ok (.iconst 3, 1) := by decide +kernel
theorem dL_law_1693 : decode cL_law 1693 = .ok (.iadd, 1) := by decide +kernel
theorem dL_law_1694 : decode cL_law 1694 = .ok (.iaload, 1) := by decide +kernel
theorem dL_law_1695 : decode cL_law 1695 = .ok (.invokestatic 185, 3) := by decide +kernel
theorem dL_law_1698 : decode cL_law 1698 = .ok (.istore 5, 2) := by decide +kernel
theorem dL_law_1700 : decode cL_law 1700 = .ok (.aload_n 2, 1) := by decide +kernel
theorem dL_law_1701 : decode cL_law 1701 = .ok (.aload_n 0, 1) := by decide +kernel
theorem dL_law_1702 : decode cL_law 1702 = .ok (.iload 4, 2) := by decide +kernel
theorem dL_law_1704 : decode cL_law 1704 = .ok (.iconst 1, 1) := by decide +kernel
theorem dL_law_1705 : decode cL_law 1705 = .ok (.iadd, 1) := by decide +kernel
theorem dL_law_1706 : decode cL_law 1706 = .ok (.iaload, 1) := by decide +kernel
theorem dL_law_1707 : decode cL_law 1707 = .ok (.aload_n 0, 1) := by decide +kernel
theorem dL_law_1708 : decode cL_law 1708 = .ok (.iload 4, 2) := by decide +kernel
theorem dL_law_1710 : decode cL_law 1710 = .ok (.iconst 2, 1) := by decide +kernel
theorem dL_law_1711 : decode cL_law 1711 = .ok (.iadd, 1) := by decide +kernel
theorem dL_law_1712 : decode cL_law 1712 = .ok (.iaload, 1) := by decide +kernel
theorem dL_law_1713 : decode cL_law 1713 = .ok (.aload_n 0, 1) := by decide +kernel
theorem dL_law_1714 : decode cL_law 1714 = .ok (.iload 4, 2) := by decide +kernel
theorem dL_law_1716 : decode cL_law 1716 = .ok (.iconst 3, 1) := by decide +kernel
theorem dL_law_1717 : decode cL_law 1717 = .ok (.iadd, 1) := by decide +kernel
theorem dL_law_1718 : decode cL_law 1718 = .ok (.iaload, 1) := by decide +kernel
theorem dL_law_1719 : decode cL_law 1719 = .ok (.invokevirtual 188, 3) := by decide +kernel
theorem dL_law_1722 : decode cL_law 1722 = .ok (.aload_n 2, 1) := by decide +kernel
theorem dL_law_1723 : decode cL_law 1723 = .ok (.invokevirtual 108, 3) := by decide +kernel
theorem dL_law_1726 : decode cL_law 1726 = .ok (.iload 5, 2) := by decide +kernel
theorem dL_law_1728 : decode cL_law 1728 = .ok (.if_icmp .eq 5, 3) := by decide +kernel
theorem dL_law_1731 : decode cL_law 1731 = .ok (.iconst 0, 1) := by decide +kernel
theorem dL_law_1732 : decode cL_law 1732 = .ok (.ireturn, 1) := by decide +kernel
theorem dL_law_1733 : decode cL_law 1733 = .ok (.goto 96, 3) := by decide +kernel
theorem dL_law_1736 : decode cL_law 1736 = .ok (.aload_n 1, 1) := by decide +kernel
theorem dL_law_1737 : decode cL_law 1737 = .ok (.invokevirtual 189, 3) := by decide +kernel
theorem dL_law_1740 : decode cL_law 1740 = .ok (.aload_n 2, 1) := by decide +kernel
theorem dL_law_1741 : decode cL_law 1741 = .ok (.invokevirtual 192, 3) := by decide +kernel
theorem dL_law_1744 : decode cL_law 1744 = .ok (.if_icmp .eq 85, 3) := by decide +kernel
theorem dL_law_1747 : decode cL_law 1747 = .ok (.iconst 0, 1) := by decide +kernel
theorem dL_law_1748 : decode cL_law 1748 = .ok (.ireturn, 1) := by decide +kernel
theorem dL_law_1749 : decode cL_law 1749 = .ok (.aload_n 1, 1) := by decide +kernel
theorem dL_law_1750 : decode cL_law 1750 = .ok (.aload_n 0, 1) := by decide +kernel
theorem dL_law_1751 : decode cL_law 1751 = .ok (.iload 4, 2) := by decide +kernel
theorem dL_law_1753 : decode cL_law 1753 = .ok (.iconst 1, 1) := by decide +kernel
theorem dL_law_1754 : decode cL_law 1754 = .ok (.iadd, 1) := by decide +kernel
theorem dL_law_1755 : decode cL_law 1755 = .ok (.iaload, 1) := by decide +kernel
theorem dL_law_1756 : decode cL_law 1756 = .ok (.aload_n 0, 1) := by decide +kernel
theorem dL_law_1757 : decode cL_law 1757 = .ok (.iload 4, 2) := by decide +kernel
theorem dL_law_1759 : decode cL_law 1759 = .ok (.iconst 2, 1) := by decide +kernel
theorem dL_law_1760 : decode cL_law 1760 = .ok (.iadd, 1) := by decide +kernel
theorem dL_law_1761 : decode cL_law 1761 = .ok (.iaload, 1) := by decide +kernel
theorem dL_law_1762 : decode cL_law 1762 = .ok (.aload_n 0, 1) := by decide +kernel
theorem dL_law_1763 : decode cL_law 1763 = .ok (.iload 4, 2) := by decide +kernel
theorem dL_law_1765 : decode cL_law 1765 = .ok (.iconst 3, 1) := by decide +kernel
theorem dL_law_1766 : decode cL_law 1766 = .ok (.iadd, 1) := by decide +kernel
theorem dL_law_1767 : decode cL_law 1767 = .ok (.iaload, 1) := by decide +kernel
theorem dL_law_1768 : decode cL_law 1768 = .ok (.aload_n 3, 1) := by decide +kernel
theorem dL_law_1769 : decode cL_law 1769 = .ok (.invokestatic 193, 3) := by decide +kernel
theorem dL_law_1772 : decode cL_law 1772 = .ok (.istore 5, 2) := by decide +kernel
theorem dL_law_1774 : decode cL_law 1774 = .ok (.aload_n 2, 1) := by decide +kernel
theorem dL_law_1775 : decode cL_law 1775 = .ok (.aload_n 0, 1) := by decide +kernel
theorem dL_law_1776 : decode cL_law 1776 = .ok (.iload 4, 2) := by decide +kernel
theorem dL_law_1778 : decode cL_law 1778 = .ok (.iconst 1, 1) := by decide +kernel
theorem dL_law_1779 : decode cL_law 1779 = .ok (.iadd, 1) := by decide +kernel
theorem dL_law_1780 : decode cL_law 1780 = .ok (.iaload, 1) := by decide +kernel
theorem dL_law_1781 : decode cL_law 1781 = .ok (.aload_n 0, 1) := by decide +kernel
theorem dL_law_1782 : decode cL_law 1782 = .ok (.iload 4, 2) := by decide +kernel
theorem dL_law_1784 : decode cL_law 1784 = .ok (.iconst 2, 1) := by decide +kernel
theorem dL_law_1785 : decode cL_law 1785 = .ok (.iadd, 1) := by decide +kernel
theorem dL_law_1786 : decode cL_law 1786 = .ok (.iaload, 1) := by decide +kernel
theorem dL_law_1787 : decode cL_law 1787 = .ok (.aload_n 0, 1) := by decide +kernel
theorem dL_law_1788 : decode cL_law 1788 = .ok (.iload 4, 2) := by decide +kernel
theorem dL_law_1790 : decode cL_law 1790 = .ok (.iconst 3, 1) := by decide +kernel
theorem dL_law_1791 : decode cL_law 1791 = .ok (.iadd, 1) := by decide +kernel
theorem dL_law_1792 : decode cL_law 1792 = .ok (.iaload, 1) := by decide +kernel
theorem dL_law_1793 : decode cL_law 1793 = .ok (.invokevirtual 195, 3) := by decide +kernel
theorem dL_law_1796 : decode cL_law 1796 = .ok (.istore 6, 2) := by decide +kernel
theorem dL_law_1798 : decode cL_law 1798 = .ok (.aload_n 2, 1) := by decide +kernel
theorem dL_law_1799 : decode cL_law 1799 = .ok (.invokevirtual 108, 3) := by decide +kernel
theorem dL_law_1802 : decode cL_law 1802 = .ok (.iload 5, 2) := by decide +kernel
theorem dL_law_1804 : decode cL_law 1804 = .ok (.if_icmp .eq 5, 3) := by decide +kernel
theorem dL_law_1807 : decode cL_law 1807 = .ok (.iconst 0, 1) := by decide +kernel
theorem dL_law_1808 : decode cL_law 1808 = .ok (.ireturn, 1) := by decide +kernel
theorem dL_law_1809 : decode cL_law 1809 = .ok (.iload 5, 2) := by decide +kernel
theorem dL_law_1811 : decode cL_law 1811 = .ok (.ifCond .ne 15, 3) := by decide +kernel
theorem dL_law_1814 : decode cL_law 1814 = .ok (.aload_n 3, 1) := by decide +kernel
theorem dL_law_1815 : decode cL_law 1815 = .ok (.iconst 0, 1) := by decide +kernel
theorem dL_law_1816 : decode cL_law 1816 = .ok (.laload, 1) := by decide +kernel
theorem dL_law_1817 : decode cL_law 1817 = .ok (.iload 6, 2) := by decide +kernel
theorem dL_law_1819 : decode cL_law 1819 = .ok (.i2l, 1) := by decide +kernel
theorem dL_law_1820 : decode cL_law 1820 = .ok (.lcmp, 1) := by decide +kernel
theorem dL_law_1821 : decode cL_law 1821 = .ok (.ifCond .eq 5, 3) := by decide +kernel
theorem dL_law_1824 : decode cL_law 1824 = .ok (.iconst 0, 1) := by decide +kernel
theorem dL_law_1825 : decode cL_law 1825 = .ok (.ireturn, 1) := by decide +kernel
theorem dL_law_1826 : decode cL_law 1826 = .ok (.goto 3, 3) := by decide +kernel
theorem dL_law_1829 : decode cL_law 1829 = .ok (.iinc 4 9, 3) := by decide +kernel
theorem dL_law_1832 : decode cL_law 1832 = .ok (.goto (-1809), 3) := by decide +kernel
theorem dL_law_1835 : decode cL_law 1835 = .ok (.iconst 1, 1) := by decide +kernel
theorem dL_law_1836 : decode cL_law 1836 = .ok (.ireturn, 1) := by decide +kernel
theorem inlX0 : ∀ w ∈ wsX00, w ∈ wsL_law := fun _ h => List.mem_append_left _ (List.mem_append_left _ (List.mem_append_left _ (List.mem_append_left _ (List.mem_append_left _ (List.mem_append_left _ (List.mem_append_left _ (List.mem_append_left _ (List.mem_append_left _ (List.mem_append_right _ h)))))))))
theorem inX0 : ∀ w ∈ wsX00, w ∈ lw_tbl := fun w h => wsL_law_in w (inlX0 w h)
theorem inlX2 : ∀ w ∈ wsX20, w ∈ wsL_law := fun _ h => List.mem_append_left _ (List.mem_append_left _ (List.mem_append_left _ (List.mem_append_left _ (List.mem_append_right _ h))))
theorem inX2 : ∀ w ∈ wsX20, w ∈ lw_tbl := fun w h => wsL_law_in w (inlX2 w h)
theorem inlX3 : ∀ w ∈ wsX30, w ∈ wsL_law := fun _ h => List.mem_append_left _ (List.mem_append_left _ (List.mem_append_left _ (List.mem_append_left _ (List.mem_append_left _ (List.mem_append_right _ h)))))
theorem inX3 : ∀ w ∈ wsX30, w ∈ lw_tbl := fun w h => wsL_law_in w (inlX3 w h)
theorem inlX4 : ∀ w ∈ wsX40, w ∈ wsL_law := fun _ h => List.mem_append_left _ (List.mem_append_left _ (List.mem_append_left _ (List.mem_append_left _ (List.mem_append_left _ (List.mem_append_left _ (List.mem_append_right _ h))))))
theorem inX4 : ∀ w ∈ wsX40, w ∈ lw_tbl := fun w h => wsL_law_in w (inlX4 w h)
theorem inlX5 : ∀ w ∈ wsX50, w ∈ wsL_law := fun _ h => List.mem_append_left _ (List.mem_append_left _ (List.mem_append_left _ (List.mem_append_left _ (List.mem_append_left _ (List.mem_append_left _ (List.mem_append_left _ (List.mem_append_right _ h)))))))
theorem inX5 : ∀ w ∈ wsX50, w ∈ lw_tbl := fun w h => wsL_law_in w (inlX5 w h)
theorem inlX6 : ∀ w ∈ wsX60, w ∈ wsL_law := fun _ h => List.mem_append_left _ (List.mem_append_left _ (List.mem_append_left _ (List.mem_append_left _ (List.mem_append_left _ (List.mem_append_left _ (List.mem_append_left _ (List.mem_append_left _ (List.mem_append_right _ h))))))))
theorem inX6 : ∀ w ∈ wsX60, w ∈ lw_tbl := fun w h => wsL_law_in w (inlX6 w h)
theorem inlX7 : ∀ w ∈ wsX70, w ∈ wsL_law := fun _ h => List.mem_append_left _ (List.mem_append_left _ (List.mem_append_left _ (List.mem_append_left _ (List.mem_append_left _ (List.mem_append_left _ (List.mem_append_left _ (List.mem_append_left _ (List.mem_append_left _ (List.mem_append_left _ (List.mem_append_left _ (List.mem_append_right _ h)))))))))))
theorem inX7 : ∀ w ∈ wsX70, w ∈ lw_tbl := fun w h => wsL_law_in w (inlX7 w h)
theorem inlX8 : ∀ w ∈ wsX80, w ∈ wsL_law := fun _ h => List.mem_append_left _ (List.mem_append_left _ (List.mem_append_left _ (List.mem_append_left _ (List.mem_append_left _ (List.mem_append_left _ (List.mem_append_left _ (List.mem_append_left _ (List.mem_append_left _ (List.mem_append_left _ (List.mem_append_right _ h))))))))))
theorem inX8 : ∀ w ∈ wsX80, w ∈ lw_tbl := fun w h => wsL_law_in w (inlX8 w h)
