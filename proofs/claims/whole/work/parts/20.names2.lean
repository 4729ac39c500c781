def wsX7_needOfficer : List Cond := .code yX7_needOfficer cX7_needOfficer 1 none :: ([.classLink RX7 109 "java/lang/IndexOutOfBoundsException", .initialized "java/lang/IndexOutOfBoundsException"] ++ (vx_atS RX7 113 "java/lang/IndexOutOfBoundsException" ["java/lang/RuntimeException", "java/lang/Exception"]).filter goodWord)
def wsX7_officer : List Cond := .code yX7_officer cX7_officer 3 none :: ([.classLink RX7 60 "java/lang/IllegalArgumentException", .initialized "java/lang/IllegalArgumentException", .fieldLink RX7 9 "RecordsOffice" "rights" "[I", .methodLink RX7 56 yX7_needOfficer, .static yX7_needOfficer, .initialized RX7, .code yX7_needOfficer cX7_needOfficer 1 none, .classLink RX7 109 "java/lang/IndexOutOfBoundsException", .initialized "java/lang/IndexOutOfBoundsException"] ++ wsX70 ++ (vx_atS RX7 64 "java/lang/IllegalArgumentException" ["java/lang/RuntimeException", "java/lang/Exception"]).filter goodWord ++ (vx_atS RX7 113 "java/lang/IndexOutOfBoundsException" ["java/lang/RuntimeException", "java/lang/Exception"]).filter goodWord)
def wsX7_needClass : List Cond := .code yX7_needClass cX7_needClass 1 none :: ([.classLink RX7 109 "java/lang/IndexOutOfBoundsException", .initialized "java/lang/IndexOutOfBoundsException"] ++ (vx_atS RX7 113 "java/lang/IndexOutOfBoundsException" ["java/lang/RuntimeException", "java/lang/Exception"]).filter goodWord)
def wsX7_needTerm : List Cond := .code yX7_needTerm cX7_needTerm 2 none :: ([.classLink RX7 60 "java/lang/IllegalArgumentException", .initialized "java/lang/IllegalArgumentException"] ++ (vx_atS RX7 64 "java/lang/IllegalArgumentException" ["java/lang/RuntimeException", "java/lang/Exception"]).filter goodWord)
def wsX7_needDay : List Cond := .code yX7_needDay cX7_needDay 1 none :: ([.classLink RX7 60 "java/lang/IllegalArgumentException", .initialized "java/lang/IllegalArgumentException", .constant RX7 334 (120000)] ++ (vx_atS RX7 64 "java/lang/IllegalArgumentException" ["java/lang/RuntimeException", "java/lang/Exception"]).filter goodWord)
def wsX7_needRoom : List Cond := .code yX7_needRoom cX7_needRoom 2 none :: ([.classLink RX7 89 "java/lang/IllegalStateException", .initialized "java/lang/IllegalStateException", .fieldLink RX7 46 "RecordsOffice" "book" "LRecordsOffice$Book;", .fieldLink RX7 285 "RecordsOffice$Book" "size" "I"] ++ wsX70 ++ wsX00 ++ (vx_atS RX7 93 "java/lang/IllegalStateException" ["java/lang/RuntimeException", "java/lang/Exception"]).filter goodWord)
def wsX7_version : List Cond := .code yX7_version cX7_version 9 (some .int) :: ((wsX7_version_r1 ++ (wsX7_version_r2 ++ wsX7_version_r3)) ++ wsX70 ++ wsX60 ++ wsX00 ++ (vx_atS RX7 64 "java/lang/IllegalArgumentException" ["java/lang/RuntimeException", "java/lang/Exception"]).filter goodWord ++ (vx_atS RX7 93 "java/lang/IllegalStateException" ["java/lang/RuntimeException", "java/lang/Exception"]).filter goodWord ++ (vx_atS RX7 113 "java/lang/IndexOutOfBoundsException" ["java/lang/RuntimeException", "java/lang/Exception"]).filter goodWord)
def wsX7_fiscal : List Cond := .code yX7_fiscal cX7_fiscal 2 none :: ([.classLink RX7 60 "java/lang/IllegalArgumentException", .initialized "java/lang/IllegalArgumentException", .classLink RX7 89 "java/lang/IllegalStateException", .initialized "java/lang/IllegalStateException", .fieldLink RX7 104 "RecordsOffice" "recordCount" "I", .fieldLink RX7 50 "RecordsOffice" "fiscalMonth" "I"] ++ wsX70 ++ (vx_atS RX7 64 "java/lang/IllegalArgumentException" ["java/lang/RuntimeException", "java/lang/Exception"]).filter goodWord ++ (vx_atS RX7 93 "java/lang/IllegalStateException" ["java/lang/RuntimeException", "java/lang/Exception"]).filter goodWord)
def wsX7_open : List Cond := .code yX7_open cX7_open 3 none :: ((wsX7_open_r1 ++ (wsX7_open_r2 ++ wsX7_open_r3)) ++ wsX70 ++ wsX60 ++ wsX40 ++ wsX00 ++ (vx_atS RX7 113 "java/lang/IndexOutOfBoundsException" ["java/lang/RuntimeException", "java/lang/Exception"]).filter goodWord ++ (vx_atS RX7 93 "java/lang/IllegalStateException" ["java/lang/RuntimeException", "java/lang/Exception"]).filter goodWord)
def wsX7_folderAt : List Cond := .code yX7_folderAt cX7_folderAt 2 (some (.object "RecordsOffice$Folder")) :: ([.classLink RX7 109 "java/lang/IndexOutOfBoundsException", .initialized "java/lang/IndexOutOfBoundsException", .fieldLink RX7 21 "RecordsOffice" "folders" "[LRecordsOffice$Folder;"] ++ wsX70 ++ (vx_atS RX7 113 "java/lang/IndexOutOfBoundsException" ["java/lang/RuntimeException", "java/lang/Exception"]).filter goodWord)
def wsX7_needDayOfAct : List Cond := .code yX7_needDayOfAct cX7_needDayOfAct 2 none :: ([.classLink RX7 60 "java/lang/IllegalArgumentException", .initialized "java/lang/IllegalArgumentException", .fieldLink RX7 130 "RecordsOffice" "today" "I", .methodLink RX7 74 yX7_needDay, .static yX7_needDay, .initialized RX7, .code yX7_needDay cX7_needDay 1 none, .constant RX7 334 (120000)] ++ wsX70 ++ (vx_atS RX7 64 "java/lang/IllegalArgumentException" ["java/lang/RuntimeException", "java/lang/Exception"]).filter goodWord)
def wsX7_close : List Cond := .code yX7_close cX7_close 4 none :: ((wsX7_close_r1 ++ (wsX7_close_r2 ++ wsX7_close_r3)) ++ wsX40 ++ wsX70 ++ wsX00 ++ (vx_atS RX7 93 "java/lang/IllegalStateException" ["java/lang/RuntimeException", "java/lang/Exception"]).filter goodWord ++ (vx_atS RX7 113 "java/lang/IndexOutOfBoundsException" ["java/lang/RuntimeException", "java/lang/Exception"]).filter goodWord ++ (vx_atS RX7 64 "java/lang/IllegalArgumentException" ["java/lang/RuntimeException", "java/lang/Exception"]).filter goodWord)
def wsX7_left : List Cond := .code yX7_left cX7_left 4 none :: ((wsX7_left_r1 ++ (wsX7_left_r2 ++ wsX7_left_r3)) ++ wsX40 ++ wsX70 ++ wsX00 ++ (vx_atS RX7 93 "java/lang/IllegalStateException" ["java/lang/RuntimeException", "java/lang/Exception"]).filter goodWord ++ (vx_atS RX7 113 "java/lang/IndexOutOfBoundsException" ["java/lang/RuntimeException", "java/lang/Exception"]).filter goodWord ++ (vx_atS RX7 64 "java/lang/IllegalArgumentException" ["java/lang/RuntimeException", "java/lang/Exception"]).filter goodWord)
def wsX7_needKeyOrNone : List Cond := .code yX7_needKeyOrNone cX7_needKeyOrNone 1 none :: ([.classLink RX7 60 "java/lang/IllegalArgumentException", .initialized "java/lang/IllegalArgumentException"] ++ (vx_atS RX7 64 "java/lang/IllegalArgumentException" ["java/lang/RuntimeException", "java/lang/Exception"]).filter goodWord)
def wsX7_file : List Cond := .code yX7_file cX7_file 11 (some .int) :: ((wsX7_file_r1 ++ (wsX7_file_r2 ++ (wsX7_file_r3 ++ wsX7_file_r4))) ++ wsX40 ++ wsX70 ++ wsX30 ++ wsX00 ++ (vx_atS RX7 64 "java/lang/IllegalArgumentException" ["java/lang/RuntimeException", "java/lang/Exception"]).filter goodWord ++ (vx_atS RX7 93 "java/lang/IllegalStateException" ["java/lang/RuntimeException", "java/lang/Exception"]).filter goodWord ++ (vx_atS RX7 113 "java/lang/IndexOutOfBoundsException" ["java/lang/RuntimeException", "java/lang/Exception"]).filter goodWord)
def wsX7_needHold : List Cond := .code yX7_needHold cX7_needHold 1 none :: ([.classLink RX7 109 "java/lang/IndexOutOfBoundsException", .initialized "java/lang/IndexOutOfBoundsException"] ++ (vx_atS RX7 113 "java/lang/IndexOutOfBoundsException" ["java/lang/RuntimeException", "java/lang/Exception"]).filter goodWord)
def wsX7_hold : List Cond := .code yX7_hold cX7_hold 7 none :: ((wsX7_hold_r1 ++ (wsX7_hold_r2 ++ wsX7_hold_r3)) ++ wsX70 ++ wsX50 ++ wsX00 ++ (vx_atS RX7 113 "java/lang/IndexOutOfBoundsException" ["java/lang/RuntimeException", "java/lang/Exception"]).filter goodWord ++ (vx_atS RX7 64 "java/lang/IllegalArgumentException" ["java/lang/RuntimeException", "java/lang/Exception"]).filter goodWord ++ (vx_atS RX7 93 "java/lang/IllegalStateException" ["java/lang/RuntimeException", "java/lang/Exception"]).filter goodWord)
def wsX7_lift : List Cond := .code yX7_lift cX7_lift 2 none :: ((wsX7_lift_r1 ++ wsX7_lift_r2) ++ wsX70 ++ wsX50 ++ wsX00 ++ (vx_atS RX7 93 "java/lang/IllegalStateException" ["java/lang/RuntimeException", "java/lang/Exception"]).filter goodWord ++ (vx_atS RX7 113 "java/lang/IndexOutOfBoundsException" ["java/lang/RuntimeException", "java/lang/Exception"]).filter goodWord)
def wsX7_recordAt : List Cond := .code yX7_recordAt cX7_recordAt 2 (some (.object "RecordsOffice$Filed")) :: ([.classLink RX7 109 "java/lang/IndexOutOfBoundsException", .initialized "java/lang/IndexOutOfBoundsException", .fieldLink RX7 104 "RecordsOffice" "recordCount" "I", .fieldLink RX7 33 "RecordsOffice" "records" "[LRecordsOffice$Filed;"] ++ wsX70 ++ (vx_atS RX7 113 "java/lang/IndexOutOfBoundsException" ["java/lang/RuntimeException", "java/lang/Exception"]).filter goodWord)
def wsX7_covered : List Cond := .code yX7_covered cX7_covered 2 (some .int) :: ((wsX7_covered_r1 ++ wsX7_covered_r2) ++ wsX70 ++ wsX50 ++ wsX30 ++ wsX40 ++ (vx_atS RX7 113 "java/lang/IndexOutOfBoundsException" ["java/lang/RuntimeException", "java/lang/Exception"]).filter goodWord)
def wsX7_due : List Cond := .code yX7_due cX7_due 2 (some .int) :: ((wsX7_due_r1 ++ (wsX7_due_r2 ++ wsX7_due_r3)) ++ wsX70 ++ wsX30 ++ wsX40 ++ wsX60 ++ (vx_atS RX7 113 "java/lang/IndexOutOfBoundsException" ["java/lang/RuntimeException", "java/lang/Exception"]).filter goodWord)
def wsX7_record : List Cond := .code yX7_record cX7_record 4 (some .int) :: ([.classLink RX7 60 "java/lang/IllegalArgumentException", .initialized "java/lang/IllegalArgumentException", .fieldLink RX7 177 "RecordsOffice$Filed" "folder" "LRecordsOffice$Folder;", .fieldLink RX7 181 "RecordsOffice$Folder" "number" "I", .fieldLink RX7 184 "RecordsOffice$Filed" "day" "I", .fieldLink RX7 187 "RecordsOffice$Filed" "size" "I", .fieldLink RX7 188 "RecordsOffice$Filed" "destroyed" "Z", .methodLink RX7 166 yX7_recordAt, .instanceMethod yX7_recordAt, .selects RX7 yX7_recordAt yX7_recordAt, .initialized RX7, .code yX7_recordAt cX7_recordAt 2 (some (.object "RecordsOffice$Filed")), .classLink RX7 109 "java/lang/IndexOutOfBoundsException", .initialized "java/lang/IndexOutOfBoundsException", .fieldLink RX7 104 "RecordsOffice" "recordCount" "I", .fieldLink RX7 33 "RecordsOffice" "records" "[LRecordsOffice$Filed;", .methodLink RX7 191 yX3_keyCount, .instanceMethod yX3_keyCount, .selects RX3 yX3_keyCount yX3_keyCount, .initialized RX3, .code yX3_keyCount cX3_keyCount 2 (some .int), .fieldLink RX3 23 "RecordsOffice$Filed" "a" "I", .fieldLink RX3 26 "RecordsOffice$Filed" "b" "I", .fieldLink RX3 29 "RecordsOffice$Filed" "c" "I"] ++ wsX30 ++ wsX40 ++ wsX70 ++ (vx_atS RX7 64 "java/lang/IllegalArgumentException" ["java/lang/RuntimeException", "java/lang/Exception"]).filter goodWord ++ (vx_atS RX7 113 "java/lang/IndexOutOfBoundsException" ["java/lang/RuntimeException", "java/lang/Exception"]).filter goodWord)
def wsX7_read : List Cond := .code yX7_read cX7_read 3 (some .long) :: ([.classLink RX7 89 "java/lang/IllegalStateException", .initialized "java/lang/IllegalStateException", .fieldLink RX7 188 "RecordsOffice$Filed" "destroyed" "Z", .fieldLink RX7 199 "RecordsOffice$Filed" "digest" "J", .methodLink RX7 166 yX7_recordAt, .instanceMethod yX7_recordAt, .selects RX7 yX7_recordAt yX7_recordAt, .initialized RX7, .code yX7_recordAt cX7_recordAt 2 (some (.object "RecordsOffice$Filed")), .classLink RX7 109 "java/lang/IndexOutOfBoundsException", .initialized "java/lang/IndexOutOfBoundsException", .fieldLink RX7 104 "RecordsOffice" "recordCount" "I", .fieldLink RX7 33 "RecordsOffice" "records" "[LRecordsOffice$Filed;"] ++ wsX30 ++ wsX70 ++ (vx_atS RX7 93 "java/lang/IllegalStateException" ["java/lang/RuntimeException", "java/lang/Exception"]).filter goodWord ++ (vx_atS RX7 113 "java/lang/IndexOutOfBoundsException" ["java/lang/RuntimeException", "java/lang/Exception"]).filter goodWord)
def wsX7_find : List Cond := .code yX7_find cX7_find 8 (some .int) :: ([.classLink RX7 60 "java/lang/IllegalArgumentException", .initialized "java/lang/IllegalArgumentException", .fieldLink RX7 104 "RecordsOffice" "recordCount" "I", .fieldLink RX7 33 "RecordsOffice" "records" "[LRecordsOffice$Filed;", .fieldLink RX7 188 "RecordsOffice$Filed" "destroyed" "Z", .methodLink RX7 205 yX3_hasKey, .instanceMethod yX3_hasKey, .selects RX3 yX3_hasKey yX3_hasKey, .initialized RX3, .code yX3_hasKey cX3_hasKey 2 (some .boolean), .fieldLink RX3 23 "RecordsOffice$Filed" "a" "I", .fieldLink RX3 26 "RecordsOffice$Filed" "b" "I", .fieldLink RX3 29 "RecordsOffice$Filed" "c" "I", .methodLink RX7 209 yX3_isFiledFrom, .instanceMethod yX3_isFiledFrom, .selects RX3 yX3_isFiledFrom yX3_isFiledFrom, .code yX3_isFiledFrom cX3_isFiledFrom 3 (some .boolean), .fieldLink RX3 32 "RecordsOffice$Filed" "day" "I"] ++ wsX70 ++ wsX30 ++ (vx_atS RX7 64 "java/lang/IllegalArgumentException" ["java/lang/RuntimeException", "java/lang/Exception"]).filter goodWord)
def wsX7_needRight : List Cond := .code yX7_needRight cX7_needRight 3 none :: ([.classLink RX7 89 "java/lang/IllegalStateException", .initialized "java/lang/IllegalStateException", .fieldLink RX7 9 "RecordsOffice" "rights" "[I"] ++ wsX70 ++ (vx_atS RX7 93 "java/lang/IllegalStateException" ["java/lang/RuntimeException", "java/lang/Exception"]).filter goodWord)
def wsX7_draw : List Cond := .code yX7_draw cX7_draw 6 (some .int) :: ((wsX7_draw_r1 ++ (wsX7_draw_r2 ++ (wsX7_draw_r3 ++ (wsX7_draw_r4 ++ (wsX7_draw_r5 ++ (wsX7_draw_r6 ++ wsX7_draw_r7)))))) ++ wsX70 ++ wsX20 ++ wsX00 ++ wsX30 ++ wsX50 ++ wsX40 ++ wsX60 ++ (vx_atS RX7 93 "java/lang/IllegalStateException" ["java/lang/RuntimeException", "java/lang/Exception"]).filter goodWord ++ (vx_atS RX7 113 "java/lang/IndexOutOfBoundsException" ["java/lang/RuntimeException", "java/lang/Exception"]).filter goodWord ++ (vx_atS RX7 64 "java/lang/IllegalArgumentException" ["java/lang/RuntimeException", "java/lang/Exception"]).filter goodWord)
def wsX7_listAt : List Cond := .code yX7_listAt cX7_listAt 2 (some (.object "RecordsOffice$DueList")) :: ([.classLink RX7 109 "java/lang/IndexOutOfBoundsException", .initialized "java/lang/IndexOutOfBoundsException", .fieldLink RX7 215 "RecordsOffice" "listCount" "I", .fieldLink RX7 39 "RecordsOffice" "lists" "[LRecordsOffice$DueList;"] ++ wsX70 ++ (vx_atS RX7 113 "java/lang/IndexOutOfBoundsException" ["java/lang/RuntimeException", "java/lang/Exception"]).filter goodWord)
def wsX7_listed : List Cond := .code yX7_listed cX7_listed 4 (some .int) :: ([.classLink RX7 109 "java/lang/IndexOutOfBoundsException", .initialized "java/lang/IndexOutOfBoundsException", .methodLink RX7 231 yX7_listAt, .instanceMethod yX7_listAt, .selects RX7 yX7_listAt yX7_listAt, .initialized RX7, .code yX7_listAt cX7_listAt 2 (some (.object "RecordsOffice$DueList")), .fieldLink RX7 215 "RecordsOffice" "listCount" "I", .fieldLink RX7 39 "RecordsOffice" "lists" "[LRecordsOffice$DueList;", .methodLink RX7 237 yX2_recordAtPlace, .instanceMethod yX2_recordAtPlace, .selects RX2 yX2_recordAtPlace yX2_recordAtPlace, .initialized RX2, .code yX2_recordAtPlace cX2_recordAtPlace 4 (some .int), .methodLink RX2 31 yX2_has, .instanceMethod yX2_has, .selects RX2 yX2_has yX2_has, .code yX2_has cX2_has 2 (some .boolean), .fieldLink RX2 19 "RecordsOffice$DueList" "members" "J"] ++ wsX70 ++ wsX20 ++ (vx_atS RX7 113 "java/lang/IndexOutOfBoundsException" ["java/lang/RuntimeException", "java/lang/Exception"]).filter goodWord)
def wsX7_needOpen : List Cond := .code yX7_needOpen cX7_needOpen 1 none :: ([.classLink RX7 89 "java/lang/IllegalStateException", .initialized "java/lang/IllegalStateException", .fieldLink RX7 282 "RecordsOffice$DueList" "isOpen" "Z"] ++ wsX20 ++ (vx_atS RX7 93 "java/lang/IllegalStateException" ["java/lang/RuntimeException", "java/lang/Exception"]).filter goodWord)
def wsX7_approve : List Cond := .code yX7_approve cX7_approve 4 (some .int) :: ((wsX7_approve_r1 ++ (wsX7_approve_r2 ++ (wsX7_approve_r3 ++ wsX7_approve_r4))) ++ wsX20 ++ wsX70 ++ wsX00 ++ (vx_atS RX7 93 "java/lang/IllegalStateException" ["java/lang/RuntimeException", "java/lang/Exception"]).filter goodWord ++ (vx_atS RX7 113 "java/lang/IndexOutOfBoundsException" ["java/lang/RuntimeException", "java/lang/Exception"]).filter goodWord)
def wsX7_strike : List Cond := .code yX7_strike cX7_strike 4 (some .int) :: ((wsX7_strike_r1 ++ (wsX7_strike_r2 ++ wsX7_strike_r3)) ++ wsX70 ++ wsX20 ++ wsX00 ++ (vx_atS RX7 113 "java/lang/IndexOutOfBoundsException" ["java/lang/RuntimeException", "java/lang/Exception"]).filter goodWord ++ (vx_atS RX7 93 "java/lang/IllegalStateException" ["java/lang/RuntimeException", "java/lang/Exception"]).filter goodWord)
def wsX7_carry : List Cond := .code yX7_carry cX7_carry 8 (some .int) :: ((wsX7_carry_r1 ++ (wsX7_carry_r2 ++ (wsX7_carry_r3 ++ (wsX7_carry_r4 ++ (wsX7_carry_r5 ++ (wsX7_carry_r6 ++ (wsX7_carry_r7 ++ wsX7_carry_r8))))))) ++ wsX20 ++ wsX70 ++ wsX30 ++ wsX50 ++ wsX40 ++ wsX60 ++ wsX00 ++ (vx_atS RX7 93 "java/lang/IllegalStateException" ["java/lang/RuntimeException", "java/lang/Exception"]).filter goodWord ++ (vx_atS RX7 113 "java/lang/IndexOutOfBoundsException" ["java/lang/RuntimeException", "java/lang/Exception"]).filter goodWord ++ (vx_atS RX7 64 "java/lang/IllegalArgumentException" ["java/lang/RuntimeException", "java/lang/Exception"]).filter goodWord)
def wsX7_count : List Cond := .code yX7_count cX7_count 2 (some .int) :: ([.classLink RX7 60 "java/lang/IllegalArgumentException", .initialized "java/lang/IllegalArgumentException", .fieldLink RX7 104 "RecordsOffice" "recordCount" "I", .fieldLink RX7 215 "RecordsOffice" "listCount" "I", .fieldLink RX7 46 "RecordsOffice" "book" "LRecordsOffice$Book;", .fieldLink RX7 285 "RecordsOffice$Book" "size" "I", .fieldLink RX7 130 "RecordsOffice" "today" "I", .methodLink RX7 286 yX7_bytesKept, .instanceMethod yX7_bytesKept, .selects RX7 yX7_bytesKept yX7_bytesKept, .initialized RX7, .code yX7_bytesKept cX7_bytesKept 3 (some .int), .fieldLink RX7 33 "RecordsOffice" "records" "[LRecordsOffice$Filed;", .fieldLink RX7 188 "RecordsOffice$Filed" "destroyed" "Z", .fieldLink RX7 187 "RecordsOffice$Filed" "size" "I"] ++ wsX70 ++ wsX00 ++ wsX30 ++ (vx_atS RX7 64 "java/lang/IllegalArgumentException" ["java/lang/RuntimeException", "java/lang/Exception"]).filter goodWord)
def wsX7_needAct : List Cond := .code yX7_needAct cX7_needAct 2 none :: ([.classLink RX7 109 "java/lang/IndexOutOfBoundsException", .initialized "java/lang/IndexOutOfBoundsException", .fieldLink RX7 46 "RecordsOffice" "book" "LRecordsOffice$Book;", .fieldLink RX7 285 "RecordsOffice$Book" "size" "I"] ++ wsX70 ++ wsX00 ++ (vx_atS RX7 113 "java/lang/IndexOutOfBoundsException" ["java/lang/RuntimeException", "java/lang/Exception"]).filter goodWord)
def wsX7_needNumberOfAct : List Cond := .code yX7_needNumberOfAct cX7_needNumberOfAct 1 none :: ([.classLink RX7 60 "java/lang/IllegalArgumentException", .initialized "java/lang/IllegalArgumentException"] ++ (vx_atS RX7 64 "java/lang/IllegalArgumentException" ["java/lang/RuntimeException", "java/lang/Exception"]).filter goodWord)
def wsX7_act : List Cond := .code yX7_act cX7_act 3 (some .int) :: ([.fieldLink RX7 46 "RecordsOffice" "book" "LRecordsOffice$Book;", .methodLink RX7 291 yX7_needAct, .instanceMethod yX7_needAct, .selects RX7 yX7_needAct yX7_needAct, .initialized RX7, .code yX7_needAct cX7_needAct 2 none, .classLink RX7 109 "java/lang/IndexOutOfBoundsException", .initialized "java/lang/IndexOutOfBoundsException", .fieldLink RX7 285 "RecordsOffice$Book" "size" "I", .methodLink RX7 294 yX7_needNumberOfAct, .static yX7_needNumberOfAct, .code yX7_needNumberOfAct cX7_needNumberOfAct 1 none, .classLink RX7 60 "java/lang/IllegalArgumentException", .initialized "java/lang/IllegalArgumentException", .methodLink RX7 297 yX0_number, .instanceMethod yX0_number, .selects RX0 yX0_number yX0_number, .initialized RX0, .code yX0_number cX0_number 3 (some .int), .fieldLink RX0 11 "RecordsOffice$Book" "numbers" "[I"] ++ wsX70 ++ wsX00 ++ (vx_atS RX7 113 "java/lang/IndexOutOfBoundsException" ["java/lang/RuntimeException", "java/lang/Exception"]).filter goodWord ++ (vx_atS RX7 64 "java/lang/IllegalArgumentException" ["java/lang/RuntimeException", "java/lang/Exception"]).filter goodWord)
def wsX7_link : List Cond := .code yX7_link cX7_link 2 (some .long) :: ([.fieldLink RX7 46 "RecordsOffice" "book" "LRecordsOffice$Book;", .fieldLink RX7 300 "RecordsOffice$Book" "links" "[J", .methodLink RX7 291 yX7_needAct, .instanceMethod yX7_needAct, .selects RX7 yX7_needAct yX7_needAct, .initialized RX7, .code yX7_needAct cX7_needAct 2 none, .classLink RX7 109 "java/lang/IndexOutOfBoundsException", .initialized "java/lang/IndexOutOfBoundsException", .fieldLink RX7 285 "RecordsOffice$Book" "size" "I"] ++ wsX70 ++ wsX00 ++ (vx_atS RX7 113 "java/lang/IndexOutOfBoundsException" ["java/lang/RuntimeException", "java/lang/Exception"]).filter goodWord)
def wsX7_spoil : List Cond := .code yX7_spoil cX7_spoil 4 none :: ([.fieldLink RX7 46 "RecordsOffice" "book" "LRecordsOffice$Book;", .methodLink RX7 291 yX7_needAct, .instanceMethod yX7_needAct, .selects RX7 yX7_needAct yX7_needAct, .initialized RX7, .code yX7_needAct cX7_needAct 2 none, .classLink RX7 109 "java/lang/IndexOutOfBoundsException", .initialized "java/lang/IndexOutOfBoundsException", .fieldLink RX7 285 "RecordsOffice$Book" "size" "I", .methodLink RX7 294 yX7_needNumberOfAct, .static yX7_needNumberOfAct, .code yX7_needNumberOfAct cX7_needNumberOfAct 1 none, .classLink RX7 60 "java/lang/IllegalArgumentException", .initialized "java/lang/IllegalArgumentException", .methodLink RX7 304 yX0_setNumber, .instanceMethod yX0_setNumber, .selects RX0 yX0_setNumber yX0_setNumber, .initialized RX0, .code yX0_setNumber cX0_setNumber 4 none, .fieldLink RX0 11 "RecordsOffice$Book" "numbers" "[I"] ++ wsX70 ++ wsX00 ++ (vx_atS RX7 113 "java/lang/IndexOutOfBoundsException" ["java/lang/RuntimeException", "java/lang/Exception"]).filter goodWord ++ (vx_atS RX7 64 "java/lang/IllegalArgumentException" ["java/lang/RuntimeException", "java/lang/Exception"]).filter goodWord)
def wsX7_later : List Cond := .code yX7_later cX7_later 4 (some .int) :: ((wsX7_later_r1 ++ wsX7_later_r2) ++ (vx_atS RX7 64 "java/lang/IllegalArgumentException" ["java/lang/RuntimeException", "java/lang/Exception"]).filter goodWord)
set_option maxRecDepth 20000 in
theorem ggX7_officer_X7_needOfficer : GoodIn wsX7_officer wsX7_needOfficer := goodIn_ca (goodIn_r _ [7, 8, 9] (by decide +kernel) (by decide +kernel)) (goodIn_sub (fun _ h => List.mem_cons_of_mem _ (List.mem_append_right _ h)) (by decide +kernel))
set_option maxRecDepth 20000 in
theorem gX7_officer_X7_needOfficer : GoodIn wsX7_officer (va_wsS RX7 56 yX7_needOfficer wsX7_needOfficer) := goodIn_app (goodIn_of _ (by decide +kernel)) ggX7_officer_X7_needOfficer
set_option maxRecDepth 20000 in
theorem ggX7_version_X7_needClass : GoodIn wsX7_version wsX7_needClass := goodIn_ca (goodIn_r _ [11, 12, 13] (by decide +kernel) (by decide +kernel)) (goodIn_sub (fun _ h => List.mem_cons_of_mem _ (List.mem_append_right _ h)) (by decide +kernel))
set_option maxRecDepth 20000 in
theorem gX7_version_X7_needClass : GoodIn wsX7_version (va_wsS RX7 67 yX7_needClass wsX7_needClass) := goodIn_app (goodIn_of _ (by decide +kernel)) ggX7_version_X7_needClass
set_option maxRecDepth 20000 in
theorem ggX7_version_X7_needTerm : GoodIn wsX7_version wsX7_needTerm := goodIn_ca (goodIn_r _ [16, 1, 2] (by decide +kernel) (by decide +kernel)) (goodIn_sub (fun _ h => List.mem_cons_of_mem _ (List.mem_append_left _ (List.mem_append_left _ (List.mem_append_right _ h)))) (by decide +kernel))
set_option maxRecDepth 20000 in
theorem gX7_version_X7_needTerm : GoodIn wsX7_version (va_wsS RX7 70 yX7_needTerm wsX7_needTerm) := goodIn_app (goodIn_of _ (by decide +kernel)) ggX7_version_X7_needTerm
set_option maxRecDepth 20000 in
theorem ggX7_version_X7_needDay : GoodIn wsX7_version wsX7_needDay := goodIn_ca (goodIn_r _ [19, 1, 2, 20] (by decide +kernel) (by decide +kernel)) (goodIn_sub (fun _ h => List.mem_cons_of_mem _ (List.mem_append_left _ (List.mem_append_left _ (List.mem_append_right _ h)))) (by decide +kernel))
set_option maxRecDepth 20000 in
theorem gX7_version_X7_needDay : GoodIn wsX7_version (va_wsS RX7 74 yX7_needDay wsX7_needDay) := goodIn_app (goodIn_of _ (by decide +kernel)) ggX7_version_X7_needDay
set_option maxRecDepth 20000 in
theorem ggX7_version_X6_goesOnWith : GoodIn wsX7_version wsX6_goesOnWith := goodIn_r _ [25, 26, 27, 28, 75, 76, 77, 78, 79] (by decide +kernel) (by decide +kernel)
set_option maxRecDepth 20000 in
theorem gX7_version_X6_goesOnWith : GoodIn wsX7_version (wsV RX7 77 RX6 yX6_goesOnWith wsX6_goesOnWith) := goodIn_app (goodIn_of _ (by decide +kernel)) ggX7_version_X6_goesOnWith
set_option maxRecDepth 20000 in
theorem ggX7_version_X7_needRoom : GoodIn wsX7_version wsX7_needRoom := goodIn_ca (goodIn_r _ [32, 3, 4, 7, 33, 64, 65, 66, 67, 68, 69, 70, 71, 72, 73, 74, 80, 81, 82] (by decide +kernel) (by decide +kernel)) (goodIn_sub (fun _ h => List.mem_cons_of_mem _ (List.mem_append_left _ (List.mem_append_right _ h))) (by decide +kernel))
set_option maxRecDepth 20000 in
theorem gX7_version_X7_needRoom : GoodIn wsX7_version (wsV RX7 83 RX7 yX7_needRoom wsX7_needRoom) := goodIn_app (goodIn_of _ (by decide +kernel)) ggX7_version_X7_needRoom
set_option maxRecDepth 20000 in
theorem ggX7_version_X6_add : GoodIn wsX7_version wsX6_add := goodIn_r _ [37, 27, 28, 26, 38, 39, 75, 76, 77, 78, 79] (by decide +kernel) (by decide +kernel)
set_option maxRecDepth 20000 in
theorem gX7_version_X6_add : GoodIn wsX7_version (wsV RX7 94 RX6 yX6_add wsX6_add) := goodIn_app (goodIn_of _ (by decide +kernel)) ggX7_version_X6_add
set_option maxRecDepth 20000 in
theorem ggX7_version_X0_write : GoodIn wsX7_version wsX0_write := goodIn_r _ [44, 45, 46, 47, 48, 49, 43, 50, 51, 52, 53, 54, 55, 56, 57, 58, 59, 60, 61, 62, 63, 80, 81, 82] (by decide +kernel) (by decide +kernel)
set_option maxRecDepth 20000 in
theorem gX7_version_X0_write : GoodIn wsX7_version (wsV RX7 98 RX0 yX0_write wsX0_write) := goodIn_app (goodIn_of _ (by decide +kernel)) ggX7_version_X0_write
set_option maxRecDepth 20000 in
theorem ggX7_open_X7_needClass : GoodIn wsX7_open wsX7_needClass := goodIn_ca (goodIn_r _ [15, 1, 2] (by decide +kernel) (by decide +kernel)) (goodIn_sub (fun _ h => List.mem_cons_of_mem _ (List.mem_append_left _ (List.mem_append_right _ h))) (by decide +kernel))
set_option maxRecDepth 20000 in
theorem gX7_open_X7_needClass : GoodIn wsX7_open (va_wsS RX7 67 yX7_needClass wsX7_needClass) := goodIn_app (goodIn_of _ (by decide +kernel)) ggX7_open_X7_needClass
set_option maxRecDepth 20000 in
theorem ggX7_open_X7_needRoom : GoodIn wsX7_open wsX7_needRoom := goodIn_ca (goodIn_r _ [19, 3, 4, 11, 20, 55, 56, 57, 58, 59, 60, 61, 62, 63, 64, 65, 75, 76, 77] (by decide +kernel) (by decide +kernel)) (goodIn_sub (fun _ h => List.mem_cons_of_mem _ (List.mem_append_right _ h)) (by decide +kernel))
set_option maxRecDepth 20000 in
theorem gX7_open_X7_needRoom : GoodIn wsX7_open (wsV RX7 83 RX7 yX7_needRoom wsX7_needRoom) := goodIn_app (goodIn_of _ (by decide +kernel)) ggX7_open_X7_needRoom
set_option maxRecDepth 20000 in
theorem ggX7_open_X4_init : GoodIn wsX7_open wsX4_init := goodIn_r _ [23, 24, 25, 26, 27, 28, 29, 30, 71, 72, 73, 74] (by decide +kernel) (by decide +kernel)
set_option maxRecDepth 20000 in
theorem gX7_open_X4_init : GoodIn wsX7_open (wsX4_init) := ggX7_open_X4_init
set_option maxRecDepth 20000 in
theorem ggX7_open_X0_write : GoodIn wsX7_open wsX0_write := goodIn_r _ [35, 36, 37, 38, 39, 40, 34, 41, 42, 43, 44, 45, 46, 47, 48, 49, 50, 51, 52, 53, 54, 75, 76, 77] (by decide +kernel) (by decide +kernel)
set_option maxRecDepth 20000 in
theorem gX7_open_X0_write : GoodIn wsX7_open (wsV RX7 98 RX0 yX0_write wsX0_write) := goodIn_app (goodIn_of _ (by decide +kernel)) ggX7_open_X0_write
set_option maxRecDepth 20000 in
theorem ggX7_close_X7_folderAt : GoodIn wsX7_close wsX7_folderAt := goodIn_ca (goodIn_r _ [10, 11, 12, 13, 57, 58, 59, 60, 61, 62, 63, 64, 65, 66, 67] (by decide +kernel) (by decide +kernel)) (goodIn_sub (fun _ h => List.mem_cons_of_mem _ (List.mem_append_left _ (List.mem_append_right _ h))) (by decide +kernel))
set_option maxRecDepth 20000 in
theorem gX7_close_X7_folderAt : GoodIn wsX7_close (wsV RX7 118 RX7 yX7_folderAt wsX7_folderAt) := goodIn_app (goodIn_of _ (by decide +kernel)) ggX7_close_X7_folderAt
set_option maxRecDepth 20000 in
theorem ggX7_close_X7_needDayOfAct : GoodIn wsX7_close wsX7_needDayOfAct := goodIn_ca (goodIn_r _ [17, 18, 19, 4, 20, 21, 9, 22, 23, 57, 58, 59, 60, 61, 62, 63, 64, 65, 66, 67] (by decide +kernel) (by decide +kernel)) (goodIn_sub (fun _ h => List.mem_cons_of_mem _ (List.mem_append_right _ h)) (by decide +kernel))
set_option maxRecDepth 20000 in
theorem gX7_close_X7_needDayOfAct : GoodIn wsX7_close (wsV RX7 122 RX7 yX7_needDayOfAct wsX7_needDayOfAct) := goodIn_app (goodIn_of _ (by decide +kernel)) ggX7_close_X7_needDayOfAct
set_option maxRecDepth 20000 in
theorem ggX7_close_X7_needRoom : GoodIn wsX7_close wsX7_needRoom := goodIn_ca (goodIn_r _ [27, 1, 2, 5, 28, 57, 58, 59, 60, 61, 62, 63, 64, 65, 66, 67, 68, 69, 70] (by decide +kernel) (by decide +kernel)) (goodIn_sub (fun _ h => List.mem_cons_of_mem _ (List.mem_append_left _ (List.mem_append_left _ (List.mem_append_right _ h)))) (by decide +kernel))
set_option maxRecDepth 20000 in
theorem gX7_close_X7_needRoom : GoodIn wsX7_close (wsV RX7 83 RX7 yX7_needRoom wsX7_needRoom) := goodIn_app (goodIn_of _ (by decide +kernel)) ggX7_close_X7_needRoom
set_option maxRecDepth 20000 in
theorem ggX7_close_X0_write : GoodIn wsX7_close wsX0_write := goodIn_r _ [33, 34, 35, 36, 37, 38, 32, 39, 40, 41, 42, 43, 44, 45, 46, 47, 48, 49, 50, 51, 52, 68, 69, 70] (by decide +kernel) (by decide +kernel)
set_option maxRecDepth 20000 in
theorem gX7_close_X0_write : GoodIn wsX7_close (wsV RX7 98 RX0 yX0_write wsX0_write) := goodIn_app (goodIn_of _ (by decide +kernel)) ggX7_close_X0_write
set_option maxRecDepth 20000 in
theorem ggX7_left_X7_folderAt : GoodIn wsX7_left wsX7_folderAt := goodIn_ca (goodIn_r _ [10, 11, 12, 13, 57, 58, 59, 60, 61, 62, 63, 64, 65, 66, 67] (by decide +kernel) (by decide +kernel)) (goodIn_sub (fun _ h => List.mem_cons_of_mem _ (List.mem_append_left _ (List.mem_append_right _ h))) (by decide +kernel))
set_option maxRecDepth 20000 in
theorem gX7_left_X7_folderAt : GoodIn wsX7_left (wsV RX7 118 RX7 yX7_folderAt wsX7_folderAt) := goodIn_app (goodIn_of _ (by decide +kernel)) ggX7_left_X7_folderAt
set_option maxRecDepth 20000 in
theorem ggX7_left_X7_needDayOfAct : GoodIn wsX7_left wsX7_needDayOfAct := goodIn_ca (goodIn_r _ [17, 18, 19, 4, 20, 21, 9, 22, 23, 57, 58, 59, 60, 61, 62, 63, 64, 65, 66, 67] (by decide +kernel) (by decide +kernel)) (goodIn_sub (fun _ h => List.mem_cons_of_mem _ (List.mem_append_right _ h)) (by decide +kernel))
set_option maxRecDepth 20000 in
theorem gX7_left_X7_needDayOfAct : GoodIn wsX7_left (wsV RX7 122 RX7 yX7_needDayOfAct wsX7_needDayOfAct) := goodIn_app (goodIn_of _ (by decide +kernel)) ggX7_left_X7_needDayOfAct
set_option maxRecDepth 20000 in
theorem ggX7_left_X7_needRoom : GoodIn wsX7_left wsX7_needRoom := goodIn_ca (goodIn_r _ [27, 1, 2, 5, 28, 57, 58, 59, 60, 61, 62, 63, 64, 65, 66, 67, 68, 69, 70] (by decide +kernel) (by decide +kernel)) (goodIn_sub (fun _ h => List.mem_cons_of_mem _ (List.mem_append_left _ (List.mem_append_left _ (List.mem_append_right _ h)))) (by decide +kernel))
set_option maxRecDepth 20000 in
theorem gX7_left_X7_needRoom : GoodIn wsX7_left (wsV RX7 83 RX7 yX7_needRoom wsX7_needRoom) := goodIn_app (goodIn_of _ (by decide +kernel)) ggX7_left_X7_needRoom
set_option maxRecDepth 20000 in
theorem ggX7_left_X0_write : GoodIn wsX7_left wsX0_write := goodIn_r _ [33, 34, 35, 36, 37, 38, 32, 39, 40, 41, 42, 43, 44, 45, 46, 47, 48, 49, 50, 51, 52, 68, 69, 70] (by decide +kernel) (by decide +kernel)
set_option maxRecDepth 20000 in
theorem gX7_left_X0_write : GoodIn wsX7_left (wsV RX7 98 RX0 yX0_write wsX0_write) := goodIn_app (goodIn_of _ (by decide +kernel)) ggX7_left_X0_write
set_option maxRecDepth 20000 in
theorem ggX7_file_X7_folderAt : GoodIn wsX7_file wsX7_folderAt := goodIn_ca (goodIn_r _ [18, 19, 20, 21, 79, 80, 81, 82, 83, 84, 85, 86, 87, 88, 89] (by decide +kernel) (by decide +kernel)) (goodIn_sub (fun _ h => List.mem_cons_of_mem _ (List.mem_append_right _ h)) (by decide +kernel))
set_option maxRecDepth 20000 in
theorem gX7_file_X7_folderAt : GoodIn wsX7_file (wsV RX7 118 RX7 yX7_folderAt wsX7_folderAt) := goodIn_app (goodIn_of _ (by decide +kernel)) ggX7_file_X7_folderAt
set_option maxRecDepth 20000 in
theorem ggX7_file_X7_needKeyOrNone : GoodIn wsX7_file wsX7_needKeyOrNone := goodIn_ca (goodIn_r _ [24, 1, 2] (by decide +kernel) (by decide +kernel)) (goodIn_sub (fun _ h => List.mem_cons_of_mem _ (List.mem_append_left _ (List.mem_append_left _ (List.mem_append_right _ h)))) (by decide +kernel))
set_option maxRecDepth 20000 in
theorem gX7_file_X7_needKeyOrNone : GoodIn wsX7_file (va_wsS RX7 138 yX7_needKeyOrNone wsX7_needKeyOrNone) := goodIn_app (goodIn_of _ (by decide +kernel)) ggX7_file_X7_needKeyOrNone
set_option maxRecDepth 20000 in
theorem ggX7_file_X7_needDayOfAct : GoodIn wsX7_file wsX7_needDayOfAct := goodIn_ca (goodIn_r _ [28, 1, 2, 12, 29, 30, 17, 31, 32, 79, 80, 81, 82, 83, 84, 85, 86, 87, 88, 89] (by decide +kernel) (by decide +kernel)) (goodIn_sub (fun _ h => List.mem_cons_of_mem _ (List.mem_append_left _ (List.mem_append_left _ (List.mem_append_right _ h)))) (by decide +kernel))
set_option maxRecDepth 20000 in
theorem gX7_file_X7_needDayOfAct : GoodIn wsX7_file (wsV RX7 122 RX7 yX7_needDayOfAct wsX7_needDayOfAct) := goodIn_app (goodIn_of _ (by decide +kernel)) ggX7_file_X7_needDayOfAct
set_option maxRecDepth 20000 in
theorem ggX7_file_X7_needRoom : GoodIn wsX7_file wsX7_needRoom := goodIn_ca (goodIn_r _ [36, 3, 4, 13, 37, 79, 80, 81, 82, 83, 84, 85, 86, 87, 88, 89, 98, 99, 100] (by decide +kernel) (by decide +kernel)) (goodIn_sub (fun _ h => List.mem_cons_of_mem _ (List.mem_append_left _ (List.mem_append_right _ h))) (by decide +kernel))
set_option maxRecDepth 20000 in
theorem gX7_file_X7_needRoom : GoodIn wsX7_file (wsV RX7 83 RX7 yX7_needRoom wsX7_needRoom) := goodIn_app (goodIn_of _ (by decide +kernel)) ggX7_file_X7_needRoom
set_option maxRecDepth 20000 in
theorem ggX7_file_X3_init : GoodIn wsX7_file wsX3_init := goodIn_r _ [40, 41, 42, 43, 44, 45, 46, 47, 48, 49, 50, 90, 91, 92, 93, 94, 95, 96, 97] (by decide +kernel) (by decide +kernel)
set_option maxRecDepth 20000 in
theorem gX7_file_X3_init : GoodIn wsX7_file (wsX3_init) := ggX7_file_X3_init
set_option maxRecDepth 20000 in
theorem ggX7_file_X0_write : GoodIn wsX7_file wsX0_write := goodIn_r _ [55, 56, 57, 58, 59, 60, 54, 61, 62, 63, 64, 65, 66, 67, 68, 69, 70, 71, 72, 73, 74, 98, 99, 100] (by decide +kernel) (by decide +kernel)
set_option maxRecDepth 20000 in
theorem gX7_file_X0_write : GoodIn wsX7_file (wsV RX7 98 RX0 yX0_write wsX0_write) := goodIn_app (goodIn_of _ (by decide +kernel)) ggX7_file_X0_write
set_option maxRecDepth 20000 in
theorem ggX7_hold_X7_needHold : GoodIn wsX7_hold wsX7_needHold := goodIn_ca (goodIn_r _ [13, 1, 2] (by decide +kernel) (by decide +kernel)) (goodIn_sub (fun _ h => List.mem_cons_of_mem _ (List.mem_append_left _ (List.mem_append_left _ (List.mem_append_right _ h)))) (by decide +kernel))
set_option maxRecDepth 20000 in
theorem gX7_hold_X7_needHold : GoodIn wsX7_hold (va_wsS RX7 149 yX7_needHold wsX7_needHold) := goodIn_app (goodIn_of _ (by decide +kernel)) ggX7_hold_X7_needHold
set_option maxRecDepth 20000 in
theorem ggX7_hold_X7_needClass : GoodIn wsX7_hold wsX7_needClass := goodIn_ca (goodIn_r _ [16, 1, 2] (by decide +kernel) (by decide +kernel)) (goodIn_sub (fun _ h => List.mem_cons_of_mem _ (List.mem_append_left _ (List.mem_append_left _ (List.mem_append_right _ h)))) (by decide +kernel))
set_option maxRecDepth 20000 in
theorem gX7_hold_X7_needClass : GoodIn wsX7_hold (va_wsS RX7 67 yX7_needClass wsX7_needClass) := goodIn_app (goodIn_of _ (by decide +kernel)) ggX7_hold_X7_needClass
set_option maxRecDepth 20000 in
theorem ggX7_hold_X7_needKeyOrNone : GoodIn wsX7_hold wsX7_needKeyOrNone := goodIn_ca (goodIn_r _ [19, 3, 4] (by decide +kernel) (by decide +kernel)) (goodIn_sub (fun _ h => List.mem_cons_of_mem _ (List.mem_append_left _ (List.mem_append_right _ h))) (by decide +kernel))
set_option maxRecDepth 20000 in
theorem gX7_hold_X7_needKeyOrNone : GoodIn wsX7_hold (va_wsS RX7 138 yX7_needKeyOrNone wsX7_needKeyOrNone) := goodIn_app (goodIn_of _ (by decide +kernel)) ggX7_hold_X7_needKeyOrNone
set_option maxRecDepth 20000 in
theorem ggX7_hold_X7_needDay : GoodIn wsX7_hold wsX7_needDay := goodIn_ca (goodIn_r _ [22, 3, 4, 23] (by decide +kernel) (by decide +kernel)) (goodIn_sub (fun _ h => List.mem_cons_of_mem _ (List.mem_append_left _ (List.mem_append_right _ h))) (by decide +kernel))
set_option maxRecDepth 20000 in
theorem gX7_hold_X7_needDay : GoodIn wsX7_hold (va_wsS RX7 74 yX7_needDay wsX7_needDay) := goodIn_app (goodIn_of _ (by decide +kernel)) ggX7_hold_X7_needDay
set_option maxRecDepth 20000 in
theorem ggX7_hold_X7_needRoom : GoodIn wsX7_hold wsX7_needRoom := goodIn_ca (goodIn_r _ [27, 5, 6, 9, 28, 64, 65, 66, 67, 68, 69, 70, 71, 72, 73, 74, 81, 82, 83] (by decide +kernel) (by decide +kernel)) (goodIn_sub (fun _ h => List.mem_cons_of_mem _ (List.mem_append_right _ h)) (by decide +kernel))
set_option maxRecDepth 20000 in
theorem gX7_hold_X7_needRoom : GoodIn wsX7_hold (wsV RX7 83 RX7 yX7_needRoom wsX7_needRoom) := goodIn_app (goodIn_of _ (by decide +kernel)) ggX7_hold_X7_needRoom
set_option maxRecDepth 20000 in
theorem ggX7_hold_X5_place : GoodIn wsX7_hold wsX5_place := goodIn_r _ [33, 34, 35, 36, 37, 38, 39, 75, 76, 77, 78, 79, 80] (by decide +kernel) (by decide +kernel)
set_option maxRecDepth 20000 in
theorem gX7_hold_X5_place : GoodIn wsX7_hold (wsV RX7 160 RX5 yX5_place wsX5_place) := goodIn_app (goodIn_of _ (by decide +kernel)) ggX7_hold_X5_place
set_option maxRecDepth 20000 in
theorem ggX7_hold_X0_write : GoodIn wsX7_hold wsX0_write := goodIn_r _ [44, 45, 46, 47, 48, 49, 43, 50, 51, 52, 53, 54, 55, 56, 57, 58, 59, 60, 61, 62, 63, 81, 82, 83] (by decide +kernel) (by decide +kernel)
set_option maxRecDepth 20000 in
theorem gX7_hold_X0_write : GoodIn wsX7_hold (wsV RX7 98 RX0 yX0_write wsX0_write) := goodIn_app (goodIn_of _ (by decide +kernel)) ggX7_hold_X0_write
set_option maxRecDepth 20000 in
theorem ggX7_lift_X7_needHold : GoodIn wsX7_lift wsX7_needHold := goodIn_ca (goodIn_r _ [9, 10, 11] (by decide +kernel) (by decide +kernel)) (goodIn_sub (fun _ h => List.mem_cons_of_mem _ (List.mem_append_right _ h)) (by decide +kernel))
set_option maxRecDepth 20000 in
theorem gX7_lift_X7_needHold : GoodIn wsX7_lift (va_wsS RX7 149 yX7_needHold wsX7_needHold) := goodIn_app (goodIn_of _ (by decide +kernel)) ggX7_lift_X7_needHold
set_option maxRecDepth 20000 in
theorem ggX7_lift_X7_needRoom : GoodIn wsX7_lift wsX7_needRoom := goodIn_ca (goodIn_r _ [15, 1, 2, 5, 16, 41, 42, 43, 44, 45, 46, 47, 48, 49, 50, 51, 58, 59, 60] (by decide +kernel) (by decide +kernel)) (goodIn_sub (fun _ h => List.mem_cons_of_mem _ (List.mem_append_left _ (List.mem_append_right _ h))) (by decide +kernel))
set_option maxRecDepth 20000 in
theorem gX7_lift_X7_needRoom : GoodIn wsX7_lift (wsV RX7 83 RX7 yX7_needRoom wsX7_needRoom) := goodIn_app (goodIn_of _ (by decide +kernel)) ggX7_lift_X7_needRoom
set_option maxRecDepth 20000 in
theorem ggX7_lift_X0_write : GoodIn wsX7_lift wsX0_write := goodIn_r _ [21, 22, 23, 24, 25, 26, 20, 27, 28, 29, 30, 31, 32, 33, 34, 35, 36, 37, 38, 39, 40, 58, 59, 60] (by decide +kernel) (by decide +kernel)
set_option maxRecDepth 20000 in
theorem gX7_lift_X0_write : GoodIn wsX7_lift (wsV RX7 98 RX0 yX0_write wsX0_write) := goodIn_app (goodIn_of _ (by decide +kernel)) ggX7_lift_X0_write
set_option maxRecDepth 20000 in
theorem ggX7_covered_X7_recordAt : GoodIn wsX7_covered wsX7_recordAt := goodIn_ca (goodIn_r _ [5, 6, 7, 8, 9, 42, 43, 44, 45, 46, 47, 48, 49, 50, 51, 52] (by decide +kernel) (by decide +kernel)) (goodIn_sub (fun _ h => List.mem_cons_of_mem _ (List.mem_append_right _ h)) (by decide +kernel))
set_option maxRecDepth 20000 in
theorem gX7_covered_X7_recordAt : GoodIn wsX7_covered (wsV RX7 166 RX7 yX7_recordAt wsX7_recordAt) := goodIn_app (goodIn_of _ (by decide +kernel)) ggX7_covered_X7_recordAt
set_option maxRecDepth 20000 in
theorem ggX7_covered_X7_holdsOver : GoodIn wsX7_covered wsX7_holdsOver := goodIn_r _ [13, 14, 15, 16, 17, 18, 19, 20, 21, 22, 23, 24, 25, 26, 27, 28, 29, 30, 31, 32, 33, 34, 35, 36, 37, 38, 39, 40, 41, 42, 43, 44, 45, 46, 47, 48, 49, 50, 51, 52, 53, 54, 55, 56, 57, 58, 59, 60, 61, 62, 63, 64, 65, 66, 67, 68, 69, 70] (by decide +kernel) (by decide +kernel)
set_option maxRecDepth 20000 in
theorem gX7_covered_X7_holdsOver : GoodIn wsX7_covered (wsV RX7 170 RX7 yX7_holdsOver wsX7_holdsOver) := goodIn_app (goodIn_of _ (by decide +kernel)) ggX7_covered_X7_holdsOver
set_option maxRecDepth 20000 in
theorem ggX7_due_X7_recordAt : GoodIn wsX7_due wsX7_recordAt := goodIn_ca (goodIn_r _ [5, 6, 7, 8, 9, 53, 54, 55, 56, 57, 58, 59, 60, 61, 62, 63] (by decide +kernel) (by decide +kernel)) (goodIn_sub (fun _ h => List.mem_cons_of_mem _ (List.mem_append_right _ h)) (by decide +kernel))
set_option maxRecDepth 20000 in
theorem gX7_due_X7_recordAt : GoodIn wsX7_due (wsV RX7 166 RX7 yX7_recordAt wsX7_recordAt) := goodIn_app (goodIn_of _ (by decide +kernel)) ggX7_due_X7_recordAt
set_option maxRecDepth 20000 in
theorem ggX7_due_X7_dueDay : GoodIn wsX7_due wsX7_dueDay := goodIn_r _ [13, 14, 15, 16, 17, 18, 19, 4, 20, 21, 22, 23, 24, 25, 26, 27, 28, 29, 30, 31, 32, 33, 34, 35, 36, 37, 38, 39, 40, 41, 42, 43, 44, 45, 46, 47, 48, 49, 50, 51, 52, 53, 54, 55, 56, 57, 58, 59, 60, 61, 62, 63, 64, 65, 66, 67, 68, 69, 70, 71, 72, 73, 74, 75, 76, 77, 78, 79, 80] (by decide +kernel) (by decide +kernel)
set_option maxRecDepth 20000 in
theorem gX7_due_X7_dueDay : GoodIn wsX7_due (wsV RX7 174 RX7 yX7_dueDay wsX7_dueDay) := goodIn_app (goodIn_of _ (by decide +kernel)) ggX7_due_X7_dueDay
set_option maxRecDepth 20000 in
theorem ggX7_record_X7_recordAt : GoodIn wsX7_record wsX7_recordAt := goodIn_ca (goodIn_r _ [12, 13, 14, 15, 16, 37, 38, 39, 40, 41, 42, 43, 44, 45, 46, 47] (by decide +kernel) (by decide +kernel)) (goodIn_sub (fun _ h => List.mem_cons_of_mem _ (List.mem_append_right _ h)) (by decide +kernel))
set_option maxRecDepth 20000 in
theorem gX7_record_X7_recordAt : GoodIn wsX7_record (wsV RX7 166 RX7 yX7_recordAt wsX7_recordAt) := goodIn_app (goodIn_of _ (by decide +kernel)) ggX7_record_X7_recordAt
set_option maxRecDepth 20000 in
theorem ggX7_record_X3_keyCount : GoodIn wsX7_record wsX3_keyCount := goodIn_r _ [21, 22, 23, 24, 25, 26, 27, 28, 29, 30, 31, 32] (by decide +kernel) (by decide +kernel)
set_option maxRecDepth 20000 in
theorem gX7_record_X3_keyCount : GoodIn wsX7_record (wsV RX7 191 RX3 yX3_keyCount wsX3_keyCount) := goodIn_app (goodIn_of _ (by decide +kernel)) ggX7_record_X3_keyCount
set_option maxRecDepth 20000 in
theorem ggX7_read_X7_recordAt : GoodIn wsX7_read wsX7_recordAt := goodIn_ca (goodIn_r _ [9, 10, 11, 12, 13, 22, 23, 24, 25, 26, 27, 28, 29, 30, 31, 32] (by decide +kernel) (by decide +kernel)) (goodIn_sub (fun _ h => List.mem_cons_of_mem _ (List.mem_append_right _ h)) (by decide +kernel))
set_option maxRecDepth 20000 in
theorem gX7_read_X7_recordAt : GoodIn wsX7_read (wsV RX7 166 RX7 yX7_recordAt wsX7_recordAt) := goodIn_app (goodIn_of _ (by decide +kernel)) ggX7_read_X7_recordAt
set_option maxRecDepth 20000 in
theorem ggX7_find_X3_hasKey : GoodIn wsX7_find wsX3_hasKey := goodIn_r _ [10, 11, 12, 13, 30, 31, 32, 33, 34, 35, 36, 37] (by decide +kernel) (by decide +kernel)
set_option maxRecDepth 20000 in
theorem gX7_find_X3_hasKey : GoodIn wsX7_find (wsV RX7 205 RX3 yX3_hasKey wsX3_hasKey) := goodIn_app (goodIn_of _ (by decide +kernel)) ggX7_find_X3_hasKey
set_option maxRecDepth 20000 in
theorem ggX7_find_X3_isFiledFrom : GoodIn wsX7_find wsX3_isFiledFrom := goodIn_r _ [17, 18, 30, 31, 32, 33, 34, 35, 36, 37] (by decide +kernel) (by decide +kernel)
set_option maxRecDepth 20000 in
theorem gX7_find_X3_isFiledFrom : GoodIn wsX7_find (wsV RX7 209 RX3 yX3_isFiledFrom wsX3_isFiledFrom) := goodIn_app (goodIn_of _ (by decide +kernel)) ggX7_find_X3_isFiledFrom
set_option maxRecDepth 20000 in
theorem ggX7_draw_X7_needOfficer : GoodIn wsX7_draw wsX7_needOfficer := goodIn_ca (goodIn_r _ [13, 14, 15] (by decide +kernel) (by decide +kernel)) (goodIn_sub (fun _ h => List.mem_cons_of_mem _ (List.mem_append_left _ (List.mem_append_right _ h))) (by decide +kernel))
set_option maxRecDepth 20000 in
theorem gX7_draw_X7_needOfficer : GoodIn wsX7_draw (va_wsS RX7 56 yX7_needOfficer wsX7_needOfficer) := goodIn_app (goodIn_of _ (by decide +kernel)) ggX7_draw_X7_needOfficer
set_option maxRecDepth 20000 in
theorem ggX7_draw_X7_needDayOfAct : GoodIn wsX7_draw wsX7_needDayOfAct := goodIn_ca (goodIn_r _ [19, 20, 21, 8, 22, 23, 12, 24, 25, 162, 163, 164, 165, 166, 167, 168, 169, 170, 171, 172] (by decide +kernel) (by decide +kernel)) (goodIn_sub (fun _ h => List.mem_cons_of_mem _ (List.mem_append_right _ h)) (by decide +kernel))
set_option maxRecDepth 20000 in
theorem gX7_draw_X7_needDayOfAct : GoodIn wsX7_draw (wsV RX7 122 RX7 yX7_needDayOfAct wsX7_needDayOfAct) := goodIn_app (goodIn_of _ (by decide +kernel)) ggX7_draw_X7_needDayOfAct
set_option maxRecDepth 20000 in
theorem ggX7_draw_X7_needRight : GoodIn wsX7_draw wsX7_needRight := goodIn_ca (goodIn_r _ [29, 1, 2, 30, 162, 163, 164, 165, 166, 167, 168, 169, 170, 171, 172] (by decide +kernel) (by decide +kernel)) (goodIn_sub (fun _ h => List.mem_cons_of_mem _ (List.mem_append_left _ (List.mem_append_left _ (List.mem_append_right _ h)))) (by decide +kernel))
set_option maxRecDepth 20000 in
theorem gX7_draw_X7_needRight : GoodIn wsX7_draw (wsV RX7 212 RX7 yX7_needRight wsX7_needRight) := goodIn_app (goodIn_of _ (by decide +kernel)) ggX7_draw_X7_needRight
set_option maxRecDepth 20000 in
theorem ggX7_draw_X7_needRoom : GoodIn wsX7_draw wsX7_needRoom := goodIn_ca (goodIn_r _ [34, 1, 2, 9, 35, 162, 163, 164, 165, 166, 167, 168, 169, 170, 171, 172, 177, 178, 179] (by decide +kernel) (by decide +kernel)) (goodIn_sub (fun _ h => List.mem_cons_of_mem _ (List.mem_append_left _ (List.mem_append_left _ (List.mem_append_right _ h)))) (by decide +kernel))
set_option maxRecDepth 20000 in
theorem gX7_draw_X7_needRoom : GoodIn wsX7_draw (wsV RX7 83 RX7 yX7_needRoom wsX7_needRoom) := goodIn_app (goodIn_of _ (by decide +kernel)) ggX7_draw_X7_needRoom
set_option maxRecDepth 20000 in
theorem ggX7_draw_X7_ripeOn : GoodIn wsX7_draw wsX7_ripeOn := goodIn_r _ [39, 40, 41, 42, 43, 44, 45, 12, 46, 47, 48, 49, 50, 51, 52, 53, 54, 55, 56, 57, 58, 59, 60, 61, 62, 63, 64, 65, 66, 67, 68, 69, 70, 71, 72, 73, 74, 75, 76, 77, 78, 79, 80, 81, 82, 83, 84, 85, 86, 87, 88, 89, 90, 91, 92, 93, 94, 95, 96, 97, 98, 99, 100, 101, 102, 103, 104, 105, 106, 107, 108, 109, 110, 111, 112, 113, 114, 115, 116, 117, 162, 163, 164, 165, 166, 167, 168, 169, 170, 171, 172, 180, 181, 182, 183, 184, 185, 186, 187, 188, 189, 190, 191, 192, 193, 194, 195, 196, 197, 198, 199, 200, 201, 202] (by decide +kernel) (by decide +kernel)
set_option maxRecDepth 20000 in
theorem gX7_draw_X7_ripeOn : GoodIn wsX7_draw (wsV RX7 220 RX7 yX7_ripeOn wsX7_ripeOn) := goodIn_app (goodIn_of _ (by decide +kernel)) ggX7_draw_X7_ripeOn
set_option maxRecDepth 20000 in
theorem ggX7_draw_X2_init : GoodIn wsX7_draw wsX2_init := goodIn_r _ [120, 121, 122, 123, 124, 125, 126, 173, 174, 175, 176] (by decide +kernel) (by decide +kernel)
set_option maxRecDepth 20000 in
theorem gX7_draw_X2_init : GoodIn wsX7_draw (wsX2_init) := ggX7_draw_X2_init
set_option maxRecDepth 20000 in
theorem ggX7_draw_X2_size : GoodIn wsX7_draw wsX2_size := goodIn_r _ [130, 126, 131, 132, 133, 134, 135, 136, 137, 173, 174, 175, 176] (by decide +kernel) (by decide +kernel)
set_option maxRecDepth 20000 in
theorem gX7_draw_X2_size : GoodIn wsX7_draw (wsV RX7 229 RX2 yX2_size wsX2_size) := goodIn_app (goodIn_of _ (by decide +kernel)) ggX7_draw_X2_size
set_option maxRecDepth 20000 in
theorem ggX7_draw_X0_write : GoodIn wsX7_draw wsX0_write := goodIn_r _ [142, 143, 144, 145, 146, 147, 141, 148, 149, 150, 151, 152, 153, 154, 155, 156, 157, 158, 159, 160, 161, 177, 178, 179] (by decide +kernel) (by decide +kernel)
set_option maxRecDepth 20000 in
theorem gX7_draw_X0_write : GoodIn wsX7_draw (wsV RX7 98 RX0 yX0_write wsX0_write) := goodIn_app (goodIn_of _ (by decide +kernel)) ggX7_draw_X0_write
set_option maxRecDepth 20000 in
theorem ggX7_listed_X7_listAt : GoodIn wsX7_listed wsX7_listAt := goodIn_ca (goodIn_r _ [7, 1, 2, 8, 9, 20, 21, 22, 23, 24, 25, 26, 27, 28, 29, 30] (by decide +kernel) (by decide +kernel)) (goodIn_sub (fun _ h => List.mem_cons_of_mem _ (List.mem_append_right _ h)) (by decide +kernel))
set_option maxRecDepth 20000 in
theorem gX7_listed_X7_listAt : GoodIn wsX7_listed (wsV RX7 231 RX7 yX7_listAt wsX7_listAt) := goodIn_app (goodIn_of _ (by decide +kernel)) ggX7_listed_X7_listAt
set_option maxRecDepth 20000 in
theorem ggX7_listed_X2_recordAtPlace : GoodIn wsX7_listed wsX2_recordAtPlace := goodIn_r _ [14, 15, 16, 17, 13, 18, 19, 31, 32, 33, 34] (by decide +kernel) (by decide +kernel)
set_option maxRecDepth 20000 in
theorem gX7_listed_X2_recordAtPlace : GoodIn wsX7_listed (wsV RX7 237 RX2 yX2_recordAtPlace wsX2_recordAtPlace) := goodIn_app (goodIn_of _ (by decide +kernel)) ggX7_listed_X2_recordAtPlace
set_option maxRecDepth 20000 in
theorem ggX7_approve_X7_listAt : GoodIn wsX7_approve wsX7_listAt := goodIn_ca (goodIn_r _ [9, 10, 11, 12, 13, 80, 81, 82, 83, 84, 85, 86, 87, 88, 89, 90] (by decide +kernel) (by decide +kernel)) (goodIn_sub (fun _ h => List.mem_cons_of_mem _ (List.mem_append_right _ h)) (by decide +kernel))
set_option maxRecDepth 20000 in
theorem gX7_approve_X7_listAt : GoodIn wsX7_approve (wsV RX7 231 RX7 yX7_listAt wsX7_listAt) := goodIn_app (goodIn_of _ (by decide +kernel)) ggX7_approve_X7_listAt
set_option maxRecDepth 20000 in
theorem ggX7_approve_X7_needOfficer : GoodIn wsX7_approve wsX7_needOfficer := goodIn_ca (goodIn_r _ [16, 10, 11] (by decide +kernel) (by decide +kernel)) (goodIn_sub (fun _ h => List.mem_cons_of_mem _ (List.mem_append_right _ h)) (by decide +kernel))
set_option maxRecDepth 20000 in
theorem gX7_approve_X7_needOfficer : GoodIn wsX7_approve (va_wsS RX7 56 yX7_needOfficer wsX7_needOfficer) := goodIn_app (goodIn_of _ (by decide +kernel)) ggX7_approve_X7_needOfficer
set_option maxRecDepth 20000 in
theorem ggX7_approve_X7_needOpen : GoodIn wsX7_approve wsX7_needOpen := goodIn_ca (goodIn_r _ [19, 1, 2, 20, 76, 77, 78, 79] (by decide +kernel) (by decide +kernel)) (goodIn_sub (fun _ h => List.mem_cons_of_mem _ (List.mem_append_left _ (List.mem_append_right _ h))) (by decide +kernel))
set_option maxRecDepth 20000 in
theorem gX7_approve_X7_needOpen : GoodIn wsX7_approve (va_wsS RX7 241 yX7_needOpen wsX7_needOpen) := goodIn_app (goodIn_of _ (by decide +kernel)) ggX7_approve_X7_needOpen
set_option maxRecDepth 20000 in
theorem ggX7_approve_X7_needRight : GoodIn wsX7_approve wsX7_needRight := goodIn_ca (goodIn_r _ [24, 1, 2, 25, 80, 81, 82, 83, 84, 85, 86, 87, 88, 89, 90] (by decide +kernel) (by decide +kernel)) (goodIn_sub (fun _ h => List.mem_cons_of_mem _ (List.mem_append_left _ (List.mem_append_right _ h))) (by decide +kernel))
set_option maxRecDepth 20000 in
theorem gX7_approve_X7_needRight : GoodIn wsX7_approve (wsV RX7 212 RX7 yX7_needRight wsX7_needRight) := goodIn_app (goodIn_of _ (by decide +kernel)) ggX7_approve_X7_needRight
set_option maxRecDepth 20000 in
theorem ggX7_approve_X7_needRoom : GoodIn wsX7_approve wsX7_needRoom := goodIn_ca (goodIn_r _ [29, 1, 2, 4, 30, 80, 81, 82, 83, 84, 85, 86, 87, 88, 89, 90, 91, 92, 93] (by decide +kernel) (by decide +kernel)) (goodIn_sub (fun _ h => List.mem_cons_of_mem _ (List.mem_append_left _ (List.mem_append_right _ h))) (by decide +kernel))
set_option maxRecDepth 20000 in
theorem gX7_approve_X7_needRoom : GoodIn wsX7_approve (wsV RX7 83 RX7 yX7_needRoom wsX7_needRoom) := goodIn_app (goodIn_of _ (by decide +kernel)) ggX7_approve_X7_needRoom
set_option maxRecDepth 20000 in
theorem ggX7_approve_X2_isApprovedBy : GoodIn wsX7_approve wsX2_isApprovedBy := goodIn_r _ [35, 36, 76, 77, 78, 79] (by decide +kernel) (by decide +kernel)
set_option maxRecDepth 20000 in
theorem gX7_approve_X2_isApprovedBy : GoodIn wsX7_approve (wsV RX7 248 RX2 yX2_isApprovedBy wsX2_isApprovedBy) := goodIn_app (goodIn_of _ (by decide +kernel)) ggX7_approve_X2_isApprovedBy
set_option maxRecDepth 20000 in
theorem ggX7_approve_X2_addApproval : GoodIn wsX7_approve wsX2_addApproval := goodIn_r _ [40, 36, 76, 77, 78, 79] (by decide +kernel) (by decide +kernel)
set_option maxRecDepth 20000 in
theorem gX7_approve_X2_addApproval : GoodIn wsX7_approve (wsV RX7 253 RX2 yX2_addApproval wsX2_addApproval) := goodIn_app (goodIn_of _ (by decide +kernel)) ggX7_approve_X2_addApproval
set_option maxRecDepth 20000 in
theorem ggX7_approve_X0_write : GoodIn wsX7_approve wsX0_write := goodIn_r _ [45, 46, 47, 48, 49, 50, 44, 51, 52, 53, 54, 55, 56, 57, 58, 59, 60, 61, 62, 63, 64, 91, 92, 93] (by decide +kernel) (by decide +kernel)
set_option maxRecDepth 20000 in
theorem gX7_approve_X0_write : GoodIn wsX7_approve (wsV RX7 98 RX0 yX0_write wsX0_write) := goodIn_app (goodIn_of _ (by decide +kernel)) ggX7_approve_X0_write
set_option maxRecDepth 20000 in
theorem ggX7_approve_X2_approvals : GoodIn wsX7_approve wsX2_approvals := goodIn_r _ [68, 36, 69, 70, 71, 72, 73, 74, 75, 76, 77, 78, 79] (by decide +kernel) (by decide +kernel)
set_option maxRecDepth 20000 in
theorem gX7_approve_X2_approvals : GoodIn wsX7_approve (wsV RX7 256 RX2 yX2_approvals wsX2_approvals) := goodIn_app (goodIn_of _ (by decide +kernel)) ggX7_approve_X2_approvals
set_option maxRecDepth 20000 in
theorem ggX7_strike_X7_listAt : GoodIn wsX7_strike wsX7_listAt := goodIn_ca (goodIn_r _ [8, 1, 2, 9, 10, 68, 69, 70, 71, 72, 73, 74, 75, 76, 77, 78] (by decide +kernel) (by decide +kernel)) (goodIn_sub (fun _ h => List.mem_cons_of_mem _ (List.mem_append_left _ (List.mem_append_right _ h))) (by decide +kernel))
set_option maxRecDepth 20000 in
theorem gX7_strike_X7_listAt : GoodIn wsX7_strike (wsV RX7 231 RX7 yX7_listAt wsX7_listAt) := goodIn_app (goodIn_of _ (by decide +kernel)) ggX7_strike_X7_listAt
set_option maxRecDepth 20000 in
theorem ggX7_strike_X2_has : GoodIn wsX7_strike wsX2_has := goodIn_r _ [15, 16, 79, 80, 81, 82] (by decide +kernel) (by decide +kernel)
set_option maxRecDepth 20000 in
theorem gX7_strike_X2_has : GoodIn wsX7_strike (wsV RX7 259 RX2 yX2_has wsX2_has) := goodIn_app (goodIn_of _ (by decide +kernel)) ggX7_strike_X2_has
set_option maxRecDepth 20000 in
theorem ggX7_strike_X7_needOpen : GoodIn wsX7_strike wsX7_needOpen := goodIn_ca (goodIn_r _ [19, 20, 21, 22, 79, 80, 81, 82] (by decide +kernel) (by decide +kernel)) (goodIn_sub (fun _ h => List.mem_cons_of_mem _ (List.mem_append_right _ h)) (by decide +kernel))
set_option maxRecDepth 20000 in
theorem gX7_strike_X7_needOpen : GoodIn wsX7_strike (va_wsS RX7 241 yX7_needOpen wsX7_needOpen) := goodIn_app (goodIn_of _ (by decide +kernel)) ggX7_strike_X7_needOpen
set_option maxRecDepth 20000 in
theorem ggX7_strike_X7_needRoom : GoodIn wsX7_strike wsX7_needRoom := goodIn_ca (goodIn_r _ [26, 20, 21, 3, 27, 68, 69, 70, 71, 72, 73, 74, 75, 76, 77, 78, 83, 84, 85] (by decide +kernel) (by decide +kernel)) (goodIn_sub (fun _ h => List.mem_cons_of_mem _ (List.mem_append_right _ h)) (by decide +kernel))
set_option maxRecDepth 20000 in
theorem gX7_strike_X7_needRoom : GoodIn wsX7_strike (wsV RX7 83 RX7 yX7_needRoom wsX7_needRoom) := goodIn_app (goodIn_of _ (by decide +kernel)) ggX7_strike_X7_needRoom
set_option maxRecDepth 20000 in
theorem ggX7_strike_X2_remove : GoodIn wsX7_strike wsX2_remove := goodIn_r _ [31, 16, 32, 79, 80, 81, 82] (by decide +kernel) (by decide +kernel)
set_option maxRecDepth 20000 in
theorem gX7_strike_X2_remove : GoodIn wsX7_strike (wsV RX7 264 RX2 yX2_remove wsX2_remove) := goodIn_app (goodIn_of _ (by decide +kernel)) ggX7_strike_X2_remove
set_option maxRecDepth 20000 in
theorem ggX7_strike_X0_write : GoodIn wsX7_strike wsX0_write := goodIn_r _ [37, 38, 39, 40, 41, 42, 36, 43, 44, 45, 46, 47, 48, 49, 50, 51, 52, 53, 54, 55, 56, 83, 84, 85] (by decide +kernel) (by decide +kernel)
set_option maxRecDepth 20000 in
theorem gX7_strike_X0_write : GoodIn wsX7_strike (wsV RX7 98 RX0 yX0_write wsX0_write) := goodIn_app (goodIn_of _ (by decide +kernel)) ggX7_strike_X0_write
set_option maxRecDepth 20000 in
theorem ggX7_strike_X2_size : GoodIn wsX7_strike wsX2_size := goodIn_r _ [60, 16, 61, 62, 63, 64, 65, 66, 67, 79, 80, 81, 82] (by decide +kernel) (by decide +kernel)
set_option maxRecDepth 20000 in
theorem gX7_strike_X2_size : GoodIn wsX7_strike (wsV RX7 229 RX2 yX2_size wsX2_size) := goodIn_app (goodIn_of _ (by decide +kernel)) ggX7_strike_X2_size
set_option maxRecDepth 20000 in
theorem ggX7_carry_X7_listAt : GoodIn wsX7_carry wsX7_listAt := goodIn_ca (goodIn_r _ [11, 12, 13, 14, 15, 183, 184, 185, 186, 187, 188, 189, 190, 191, 192, 193] (by decide +kernel) (by decide +kernel)) (goodIn_sub (fun _ h => List.mem_cons_of_mem _ (List.mem_append_left _ (List.mem_append_right _ h))) (by decide +kernel))
set_option maxRecDepth 20000 in
theorem gX7_carry_X7_listAt : GoodIn wsX7_carry (wsV RX7 231 RX7 yX7_listAt wsX7_listAt) := goodIn_app (goodIn_of _ (by decide +kernel)) ggX7_carry_X7_listAt
set_option maxRecDepth 20000 in
theorem ggX7_carry_X7_needOfficer : GoodIn wsX7_carry wsX7_needOfficer := goodIn_ca (goodIn_r _ [18, 12, 13] (by decide +kernel) (by decide +kernel)) (goodIn_sub (fun _ h => List.mem_cons_of_mem _ (List.mem_append_left _ (List.mem_append_right _ h))) (by decide +kernel))
set_option maxRecDepth 20000 in
theorem gX7_carry_X7_needOfficer : GoodIn wsX7_carry (va_wsS RX7 56 yX7_needOfficer wsX7_needOfficer) := goodIn_app (goodIn_of _ (by decide +kernel)) ggX7_carry_X7_needOfficer
set_option maxRecDepth 20000 in
theorem ggX7_carry_X7_needDayOfAct : GoodIn wsX7_carry wsX7_needDayOfAct := goodIn_ca (goodIn_r _ [22, 23, 24, 5, 25, 26, 10, 27, 28, 183, 184, 185, 186, 187, 188, 189, 190, 191, 192, 193] (by decide +kernel) (by decide +kernel)) (goodIn_sub (fun _ h => List.mem_cons_of_mem _ (List.mem_append_right _ h)) (by decide +kernel))
set_option maxRecDepth 20000 in
theorem gX7_carry_X7_needDayOfAct : GoodIn wsX7_carry (wsV RX7 122 RX7 yX7_needDayOfAct wsX7_needDayOfAct) := goodIn_app (goodIn_of _ (by decide +kernel)) ggX7_carry_X7_needDayOfAct
set_option maxRecDepth 20000 in
theorem ggX7_carry_X7_needOpen : GoodIn wsX7_carry wsX7_needOpen := goodIn_ca (goodIn_r _ [31, 1, 2, 4, 179, 180, 181, 182] (by decide +kernel) (by decide +kernel)) (goodIn_sub (fun _ h => List.mem_cons_of_mem _ (List.mem_append_left _ (List.mem_append_left _ (List.mem_append_right _ h)))) (by decide +kernel))
set_option maxRecDepth 20000 in
theorem gX7_carry_X7_needOpen : GoodIn wsX7_carry (va_wsS RX7 241 yX7_needOpen wsX7_needOpen) := goodIn_app (goodIn_of _ (by decide +kernel)) ggX7_carry_X7_needOpen
set_option maxRecDepth 20000 in
theorem ggX7_carry_X7_needRight : GoodIn wsX7_carry wsX7_needRight := goodIn_ca (goodIn_r _ [35, 1, 2, 36, 183, 184, 185, 186, 187, 188, 189, 190, 191, 192, 193] (by decide +kernel) (by decide +kernel)) (goodIn_sub (fun _ h => List.mem_cons_of_mem _ (List.mem_append_left _ (List.mem_append_left _ (List.mem_append_right _ h)))) (by decide +kernel))
set_option maxRecDepth 20000 in
theorem gX7_carry_X7_needRight : GoodIn wsX7_carry (wsV RX7 212 RX7 yX7_needRight wsX7_needRight) := goodIn_app (goodIn_of _ (by decide +kernel)) ggX7_carry_X7_needRight
set_option maxRecDepth 20000 in
theorem ggX7_carry_X2_approvals : GoodIn wsX7_carry wsX2_approvals := goodIn_r _ [41, 42, 43, 44, 45, 46, 47, 48, 49, 179, 180, 181, 182] (by decide +kernel) (by decide +kernel)
set_option maxRecDepth 20000 in
theorem gX7_carry_X2_approvals : GoodIn wsX7_carry (wsV RX7 256 RX2 yX2_approvals wsX2_approvals) := goodIn_app (goodIn_of _ (by decide +kernel)) ggX7_carry_X2_approvals
set_option maxRecDepth 20000 in
theorem ggX7_carry_X7_ripeOn : GoodIn wsX7_carry wsX7_ripeOn := goodIn_r _ [53, 54, 55, 56, 57, 58, 59, 10, 60, 61, 62, 63, 64, 65, 66, 67, 68, 69, 70, 71, 72, 73, 74, 75, 76, 77, 78, 79, 80, 81, 82, 83, 84, 85, 86, 87, 88, 89, 90, 91, 92, 93, 94, 95, 96, 97, 98, 99, 100, 101, 102, 103, 104, 105, 106, 107, 108, 109, 110, 111, 112, 113, 114, 115, 116, 117, 118, 119, 120, 121, 122, 123, 124, 125, 126, 127, 128, 129, 130, 131, 183, 184, 185, 186, 187, 188, 189, 190, 191, 192, 193, 194, 195, 196, 197, 198, 199, 200, 201, 202, 203, 204, 205, 206, 207, 208, 209, 210, 211, 212, 213, 214, 215, 216] (by decide +kernel) (by decide +kernel)
set_option maxRecDepth 20000 in
theorem gX7_carry_X7_ripeOn : GoodIn wsX7_carry (wsV RX7 220 RX7 yX7_ripeOn wsX7_ripeOn) := goodIn_app (goodIn_of _ (by decide +kernel)) ggX7_carry_X7_ripeOn
set_option maxRecDepth 20000 in
theorem ggX7_carry_J13_bitCount_95d88 : GoodIn wsX7_carry wsJ13_bitCount_95d88 := goodIn_r _ [135, 136, 137, 138] (by decide +kernel) (by decide +kernel)
set_option maxRecDepth 20000 in
theorem gX7_carry_J13_bitCount_95d88 : GoodIn wsX7_carry (va_wsS RX7 272 yJ13_bitCount_95d88 wsJ13_bitCount_95d88) := goodIn_app (goodIn_of _ (by decide +kernel)) ggX7_carry_J13_bitCount_95d88
set_option maxRecDepth 20000 in
theorem ggX7_carry_X7_needRoom : GoodIn wsX7_carry wsX7_needRoom := goodIn_ca (goodIn_r _ [142, 1, 2, 6, 143, 183, 184, 185, 186, 187, 188, 189, 190, 191, 192, 193, 217, 218, 219] (by decide +kernel) (by decide +kernel)) (goodIn_sub (fun _ h => List.mem_cons_of_mem _ (List.mem_append_left _ (List.mem_append_left _ (List.mem_append_right _ h)))) (by decide +kernel))
set_option maxRecDepth 20000 in
theorem gX7_carry_X7_needRoom : GoodIn wsX7_carry (wsV RX7 83 RX7 yX7_needRoom wsX7_needRoom) := goodIn_app (goodIn_of _ (by decide +kernel)) ggX7_carry_X7_needRoom
set_option maxRecDepth 20000 in
theorem ggX7_carry_X7_destroyAll : GoodIn wsX7_carry wsX7_destroyAll := goodIn_r _ [147, 54, 55, 56, 6, 148, 149, 150, 151, 152, 153, 154, 155, 156, 157, 158, 159, 160, 161, 162, 163, 164, 165, 166, 167, 168, 169, 170, 171, 172, 183, 184, 185, 186, 187, 188, 189, 190, 191, 192, 193, 194, 195, 196, 197, 198, 199, 200, 201, 217, 218, 219] (by decide +kernel) (by decide +kernel)
set_option maxRecDepth 20000 in
theorem gX7_carry_X7_destroyAll : GoodIn wsX7_carry (wsV RX7 278 RX7 yX7_destroyAll wsX7_destroyAll) := goodIn_app (goodIn_of _ (by decide +kernel)) ggX7_carry_X7_destroyAll
set_option maxRecDepth 20000 in
theorem ggX7_carry_X2_size : GoodIn wsX7_carry wsX2_size := goodIn_r _ [176, 177, 178, 133, 134, 135, 136, 137, 138, 179, 180, 181, 182] (by decide +kernel) (by decide +kernel)
set_option maxRecDepth 20000 in
theorem gX7_carry_X2_size : GoodIn wsX7_carry (wsV RX7 229 RX2 yX2_size wsX2_size) := goodIn_app (goodIn_of _ (by decide +kernel)) ggX7_carry_X2_size
set_option maxRecDepth 20000 in
theorem ggX7_carry_X0_write : GoodIn wsX7_carry wsX0_write := goodIn_r _ [153, 154, 155, 156, 157, 158, 152, 159, 160, 161, 162, 163, 164, 165, 166, 167, 168, 169, 170, 171, 172, 217, 218, 219] (by decide +kernel) (by decide +kernel)
set_option maxRecDepth 20000 in
theorem gX7_carry_X0_write : GoodIn wsX7_carry (wsV RX7 98 RX0 yX0_write wsX0_write) := goodIn_app (goodIn_of _ (by decide +kernel)) ggX7_carry_X0_write
set_option maxRecDepth 20000 in
theorem ggX7_count_X7_bytesKept : GoodIn wsX7_count wsX7_bytesKept := goodIn_r _ [12, 3, 13, 14, 15, 16, 17, 18, 19, 20, 21, 22, 23, 24, 25, 26, 30, 31, 32, 33, 34, 35, 36, 37] (by decide +kernel) (by decide +kernel)
set_option maxRecDepth 20000 in
theorem gX7_count_X7_bytesKept : GoodIn wsX7_count (wsV RX7 286 RX7 yX7_bytesKept wsX7_bytesKept) := goodIn_app (goodIn_of _ (by decide +kernel)) ggX7_count_X7_bytesKept
set_option maxRecDepth 20000 in
theorem ggX7_act_X7_needAct : GoodIn wsX7_act wsX7_needAct := goodIn_ca (goodIn_r _ [6, 7, 8, 1, 9, 21, 22, 23, 24, 25, 26, 27, 28, 29, 30, 31, 32, 33, 34] (by decide +kernel) (by decide +kernel)) (goodIn_sub (fun _ h => List.mem_cons_of_mem _ (List.mem_append_left _ (List.mem_append_right _ h))) (by decide +kernel))
set_option maxRecDepth 20000 in
theorem gX7_act_X7_needAct : GoodIn wsX7_act (wsV RX7 291 RX7 yX7_needAct wsX7_needAct) := goodIn_app (goodIn_of _ (by decide +kernel)) ggX7_act_X7_needAct
set_option maxRecDepth 20000 in
theorem ggX7_act_X7_needNumberOfAct : GoodIn wsX7_act wsX7_needNumberOfAct := goodIn_ca (goodIn_r _ [12, 13, 14] (by decide +kernel) (by decide +kernel)) (goodIn_sub (fun _ h => List.mem_cons_of_mem _ (List.mem_append_right _ h)) (by decide +kernel))
set_option maxRecDepth 20000 in
theorem gX7_act_X7_needNumberOfAct : GoodIn wsX7_act (va_wsS RX7 294 yX7_needNumberOfAct wsX7_needNumberOfAct) := goodIn_app (goodIn_of _ (by decide +kernel)) ggX7_act_X7_needNumberOfAct
set_option maxRecDepth 20000 in
theorem ggX7_act_X0_number : GoodIn wsX7_act wsX0_number := goodIn_r _ [19, 20, 32, 33, 34] (by decide +kernel) (by decide +kernel)
set_option maxRecDepth 20000 in
theorem gX7_act_X0_number : GoodIn wsX7_act (wsV RX7 297 RX0 yX0_number wsX0_number) := goodIn_app (goodIn_of _ (by decide +kernel)) ggX7_act_X0_number
set_option maxRecDepth 20000 in
theorem ggX7_link_X7_needAct : GoodIn wsX7_link wsX7_needAct := goodIn_ca (goodIn_r _ [7, 8, 9, 1, 10, 11, 12, 13, 14, 15, 16, 17, 18, 19, 20, 21, 22, 23, 24] (by decide +kernel) (by decide +kernel)) (goodIn_sub (fun _ h => List.mem_cons_of_mem _ (List.mem_append_right _ h)) (by decide +kernel))
set_option maxRecDepth 20000 in
theorem gX7_link_X7_needAct : GoodIn wsX7_link (wsV RX7 291 RX7 yX7_needAct wsX7_needAct) := goodIn_app (goodIn_of _ (by decide +kernel)) ggX7_link_X7_needAct
set_option maxRecDepth 20000 in
theorem ggX7_spoil_X7_needAct : GoodIn wsX7_spoil wsX7_needAct := goodIn_ca (goodIn_r _ [6, 7, 8, 1, 9, 21, 22, 23, 24, 25, 26, 27, 28, 29, 30, 31, 32, 33, 34] (by decide +kernel) (by decide +kernel)) (goodIn_sub (fun _ h => List.mem_cons_of_mem _ (List.mem_append_left _ (List.mem_append_right _ h))) (by decide +kernel))
set_option maxRecDepth 20000 in
theorem gX7_spoil_X7_needAct : GoodIn wsX7_spoil (wsV RX7 291 RX7 yX7_needAct wsX7_needAct) := goodIn_app (goodIn_of _ (by decide +kernel)) ggX7_spoil_X7_needAct
set_option maxRecDepth 20000 in
theorem ggX7_spoil_X7_needNumberOfAct : GoodIn wsX7_spoil wsX7_needNumberOfAct := goodIn_ca (goodIn_r _ [12, 13, 14] (by decide +kernel) (by decide +kernel)) (goodIn_sub (fun _ h => List.mem_cons_of_mem _ (List.mem_append_right _ h)) (by decide +kernel))
set_option maxRecDepth 20000 in
theorem gX7_spoil_X7_needNumberOfAct : GoodIn wsX7_spoil (va_wsS RX7 294 yX7_needNumberOfAct wsX7_needNumberOfAct) := goodIn_app (goodIn_of _ (by decide +kernel)) ggX7_spoil_X7_needNumberOfAct
set_option maxRecDepth 20000 in
theorem ggX7_spoil_X0_setNumber : GoodIn wsX7_spoil wsX0_setNumber := goodIn_r _ [19, 20, 32, 33, 34] (by decide +kernel) (by decide +kernel)
set_option maxRecDepth 20000 in
theorem gX7_spoil_X0_setNumber : GoodIn wsX7_spoil (wsV RX7 304 RX0 yX0_setNumber wsX0_setNumber) := goodIn_app (goodIn_of _ (by decide +kernel)) ggX7_spoil_X0_setNumber
set_option maxRecDepth 20000 in
theorem ggX7_later_X7_needDay : GoodIn wsX7_later wsX7_needDay := goodIn_ca (goodIn_r _ [4, 5, 6, 7] (by decide +kernel) (by decide +kernel)) (goodIn_sub (fun _ h => List.mem_cons_of_mem _ (List.mem_append_right _ h)) (by decide +kernel))
set_option maxRecDepth 20000 in
theorem gX7_later_X7_needDay : GoodIn wsX7_later (va_wsS RX7 74 yX7_needDay wsX7_needDay) := goodIn_app (goodIn_of _ (by decide +kernel)) ggX7_later_X7_needDay
set_option maxRecDepth 20000 in
theorem ggX7_later_X7_needTerm : GoodIn wsX7_later wsX7_needTerm := goodIn_ca (goodIn_r _ [10, 5, 6] (by decide +kernel) (by decide +kernel)) (goodIn_sub (fun _ h => List.mem_cons_of_mem _ (List.mem_append_right _ h)) (by decide +kernel))
set_option maxRecDepth 20000 in
theorem gX7_later_X7_needTerm : GoodIn wsX7_later (va_wsS RX7 70 yX7_needTerm wsX7_needTerm) := goodIn_app (goodIn_of _ (by decide +kernel)) ggX7_later_X7_needTerm
set_option maxRecDepth 20000 in
theorem ggX7_later_X1_plus : GoodIn wsX7_later wsX1_plus := goodIn_r _ [14, 15, 16, 17, 18, 19, 20, 13, 21, 22, 23, 24, 25] (by decide +kernel) (by decide +kernel)
set_option maxRecDepth 20000 in
theorem gX7_later_X1_plus : GoodIn wsX7_later (va_wsS RX7 315 yX1_plus wsX1_plus) := goodIn_app (goodIn_of _ (by decide +kernel)) ggX7_later_X1_plus
set_option maxRecDepth 20000 in
theorem ggX7_needDayOfAct_X7_needDay : GoodIn wsX7_needDayOfAct wsX7_needDay := goodIn_ca (goodIn_r _ [7, 1, 2, 8] (by decide +kernel) (by decide +kernel)) (goodIn_sub (fun _ h => List.mem_cons_of_mem _ (List.mem_append_right _ h)) (by decide +kernel))
set_option maxRecDepth 20000 in
theorem gX7_needDayOfAct_X7_needDay : GoodIn wsX7_needDayOfAct (va_wsS RX7 74 yX7_needDay wsX7_needDay) := goodIn_app (goodIn_of _ (by decide +kernel)) ggX7_needDayOfAct_X7_needDay
