def wsX12_thrown : List Cond := .code yX12_thrown cX12_thrown 1 (some .int) :: ([.fieldLink RX12 289 "ScriptTypesModel" "thrown" "I"] ++ wsX120)
def wsX12_in : List Cond := .code yX12_in cX12_in 3 (some .boolean) :: ([])
def wsX12_begin_r1 : List Cond := [Cond.fieldLink RX12 770 "ScriptTypesModel" "hasScript" "Z", Cond.fieldLink RX12 289 "ScriptTypesModel" "thrown" "I", Cond.fieldLink RX12 773 "ScriptTypesModel" "state" "I", Cond.fieldLink RX12 861 "ScriptTypesModel" "steps" "I", Cond.fieldLink RX12 794 "ScriptTypesModel" "noRoom" "Z", Cond.fieldLink RX12 762 "ScriptTypesModel" "names" "I", Cond.fieldLink RX12 296 "ScriptTypesModel" "strings" "I", Cond.fieldLink RX12 843 "ScriptTypesModel" "objects" "I", Cond.fieldLink RX12 849 "ScriptTypesModel" "properties" "I", Cond.fieldLink RX12 855 "ScriptTypesModel" "serials" "I", Cond.fieldLink RX12 852 "ScriptTypesModel" "free" "I", Cond.fieldLink RX12 167 "ScriptTypesModel" "propertyNext" "[I", Cond.fieldLink RX12 864 "ScriptTypesModel" "printedMany" "I", Cond.fieldLink RX12 872 "ScriptTypesModel" "frames" "I", Cond.methodLink RX12 867 yX12_build, Cond.instanceMethod yX12_build, Cond.selects RX12 yX12_build yX12_build, Cond.initialized RX12, Cond.code yX12_build cX12_build 5 none, Cond.methodLink RX12 858 yX12_newObject, Cond.instanceMethod yX12_newObject, Cond.selects RX12 yX12_newObject yX12_newObject, Cond.code yX12_newObject cX12_newObject 5 (some .int), Cond.fieldLink RX12 134 "ScriptTypesModel" "label" "[I"]
def wsX12_begin_r2 : List Cond := [Cond.fieldLink RX12 137 "ScriptTypesModel" "proto" "[I", Cond.fieldLink RX12 140 "ScriptTypesModel" "link" "[I", Cond.fieldLink RX12 143 "ScriptTypesModel" "sortOf" "[I", Cond.fieldLink RX12 146 "ScriptTypesModel" "codeOf" "[I", Cond.fieldLink RX12 149 "ScriptTypesModel" "firstOf" "[I", Cond.fieldLink RX12 152 "ScriptTypesModel" "lastOf" "[I", Cond.methodLink RX12 870 yX12_set_, Cond.instanceMethod yX12_set_, Cond.selects RX12 yX12_set_ yX12_set_, Cond.code yX12_set_ cX12_set_ 6 none, Cond.fieldLink RX12 155 "ScriptTypesModel" "propertyName" "[I", Cond.fieldLink RX12 164 "ScriptTypesModel" "propertySerial" "[I", Cond.fieldLink RX12 158 "ScriptTypesModel" "propertySort" "[I", Cond.fieldLink RX12 161 "ScriptTypesModel" "propertyValue" "[I", Cond.methodLink RX12 846 yX12_findProperty, Cond.instanceMethod yX12_findProperty, Cond.selects RX12 yX12_findProperty yX12_findProperty, Cond.code yX12_findProperty cX12_findProperty 4 (some .int), Cond.methodLink RX12 875 yX12_enterFrame, Cond.instanceMethod yX12_enterFrame, Cond.selects RX12 yX12_enterFrame yX12_enterFrame, Cond.code yX12_enterFrame cX12_enterFrame 7 none, Cond.fieldLink RX12 170 "ScriptTypesModel" "frameFunction" "[I", Cond.fieldLink RX12 173 "ScriptTypesModel" "frameScope" "[I"]
def wsX12_begin_r3 : List Cond := [Cond.fieldLink RX12 176 "ScriptTypesModel" "frameThisSort" "[I", Cond.fieldLink RX12 179 "ScriptTypesModel" "frameThis" "[I", Cond.fieldLink RX12 182 "ScriptTypesModel" "framePlace" "[I", Cond.fieldLink RX12 101 "ScriptTypesModel" "beginOf" "[I", Cond.fieldLink RX12 185 "ScriptTypesModel" "frameHeight" "[I", Cond.fieldLink RX12 188 "ScriptTypesModel" "frameNew" "[I", Cond.fieldLink RX12 191 "ScriptTypesModel" "frameTries" "[I"]
def wsX12_begin : List Cond := .code yX12_begin cX12_begin 2 none :: ((wsX12_begin_r1 ++ (wsX12_begin_r2 ++ wsX12_begin_r3)) ++ wsX120)
def wsX12_count : List Cond := .code yX12_count cX12_count 3 (some .int) :: ([.fieldLink RX12 289 "ScriptTypesModel" "thrown" "I", .fieldLink RX12 773 "ScriptTypesModel" "state" "I", .fieldLink RX12 770 "ScriptTypesModel" "hasScript" "Z", .fieldLink RX12 606 "ScriptTypesModel" "instructions" "I", .fieldLink RX12 527 "ScriptTypesModel" "functions" "I", .fieldLink RX12 762 "ScriptTypesModel" "names" "I", .fieldLink RX12 765 "ScriptTypesModel" "labels" "I", .fieldLink RX12 689 "ScriptTypesModel" "sites" "I", .fieldLink RX12 293 "ScriptTypesModel" "taped" "I", .fieldLink RX12 861 "ScriptTypesModel" "steps" "I", .fieldLink RX12 843 "ScriptTypesModel" "objects" "I", .fieldLink RX12 296 "ScriptTypesModel" "strings" "I", .fieldLink RX12 864 "ScriptTypesModel" "printedMany" "I", .fieldLink RX12 872 "ScriptTypesModel" "frames" "I", .fieldLink RX12 776 "ScriptTypesModel" "solved" "Z", .fieldLink RX12 1034 "ScriptTypesModel" "reachedMany" "I"] ++ wsX120)
def wsX12_letter : List Cond := .code yX12_letter cX12_letter 3 (some .int) :: ([.fieldLink RX12 289 "ScriptTypesModel" "thrown" "I", .fieldLink RX12 770 "ScriptTypesModel" "hasScript" "Z", .fieldLink RX12 296 "ScriptTypesModel" "strings" "I", .fieldLink RX12 20 "ScriptTypesModel" "lengths" "[I", .fieldLink RX12 16 "ScriptTypesModel" "signs" "[C", .methodLink RX12 899 yX12_in, .static yX12_in, .initialized RX12, .code yX12_in cX12_in 3 (some .boolean)] ++ wsX120)
def wsX12_instruction : List Cond := .code yX12_instruction cX12_instruction 3 (some .int) :: ([.fieldLink RX12 289 "ScriptTypesModel" "thrown" "I", .fieldLink RX12 770 "ScriptTypesModel" "hasScript" "Z", .fieldLink RX12 606 "ScriptTypesModel" "instructions" "I", .fieldLink RX12 89 "ScriptTypesModel" "operation" "[I", .fieldLink RX12 92 "ScriptTypesModel" "a" "[I", .fieldLink RX12 95 "ScriptTypesModel" "b" "[I", .fieldLink RX12 98 "ScriptTypesModel" "functionOf" "[I", .methodLink RX12 899 yX12_in, .static yX12_in, .initialized RX12, .code yX12_in cX12_in 3 (some .boolean)] ++ wsX120)
def wsX12_frame : List Cond := .code yX12_frame cX12_frame 4 (some .int) :: ([.fieldLink RX12 289 "ScriptTypesModel" "thrown" "I", .fieldLink RX12 773 "ScriptTypesModel" "state" "I", .fieldLink RX12 872 "ScriptTypesModel" "frames" "I", .fieldLink RX12 170 "ScriptTypesModel" "frameFunction" "[I", .fieldLink RX12 182 "ScriptTypesModel" "framePlace" "[I", .fieldLink RX12 185 "ScriptTypesModel" "frameHeight" "[I", .fieldLink RX12 173 "ScriptTypesModel" "frameScope" "[I", .fieldLink RX12 191 "ScriptTypesModel" "frameTries" "[I", .methodLink RX12 899 yX12_in, .static yX12_in, .initialized RX12, .code yX12_in cX12_in 3 (some .boolean)] ++ wsX120)
def wsX12_value__r1 : List Cond := [Cond.fieldLink RX12 289 "ScriptTypesModel" "thrown" "I", Cond.fieldLink RX12 773 "ScriptTypesModel" "state" "I", Cond.fieldLink RX12 872 "ScriptTypesModel" "frames" "I", Cond.fieldLink RX12 176 "ScriptTypesModel" "frameThisSort" "[I", Cond.fieldLink RX12 179 "ScriptTypesModel" "frameThis" "[I", Cond.fieldLink RX12 185 "ScriptTypesModel" "frameHeight" "[I", Cond.fieldLink RX12 200 "ScriptTypesModel" "stackSort" "[I", Cond.fieldLink RX12 203 "ScriptTypesModel" "stackValue" "[I", Cond.methodLink RX12 899 yX12_in, Cond.static yX12_in, Cond.initialized RX12, Cond.code yX12_in cX12_in 3 (some .boolean), Cond.methodLink RX12 1037 yX12_told, Cond.instanceMethod yX12_told, Cond.selects RX12 yX12_told yX12_told, Cond.code yX12_told cX12_told 4 (some .int), Cond.methodLink RX12 1040 yX12_leftOf, Cond.instanceMethod yX12_leftOf, Cond.selects RX12 yX12_leftOf yX12_leftOf, Cond.code yX12_leftOf cX12_leftOf 6 (some .int), Cond.fieldLink RX12 149 "ScriptTypesModel" "firstOf" "[I", Cond.fieldLink RX12 164 "ScriptTypesModel" "propertySerial" "[I", Cond.fieldLink RX12 206 "ScriptTypesModel" "stackGiven" "[I", Cond.fieldLink RX12 209 "ScriptTypesModel" "stackLast" "[I"]
def wsX12_value__r2 : List Cond := [Cond.fieldLink RX12 143 "ScriptTypesModel" "sortOf" "[I", Cond.fieldLink RX12 155 "ScriptTypesModel" "propertyName" "[I", Cond.fieldLink RX12 167 "ScriptTypesModel" "propertyNext" "[I"]
def wsX12_value_ : List Cond := .code yX12_value_ cX12_value_ 6 (some .int) :: ((wsX12_value__r1 ++ wsX12_value__r2) ++ wsX120)
def wsX12_object_ : List Cond := .code yX12_object_ cX12_object_ 5 (some .int) :: ([.fieldLink RX12 289 "ScriptTypesModel" "thrown" "I", .fieldLink RX12 773 "ScriptTypesModel" "state" "I", .fieldLink RX12 843 "ScriptTypesModel" "objects" "I", .fieldLink RX12 134 "ScriptTypesModel" "label" "[I", .fieldLink RX12 137 "ScriptTypesModel" "proto" "[I", .fieldLink RX12 140 "ScriptTypesModel" "link" "[I", .fieldLink RX12 149 "ScriptTypesModel" "firstOf" "[I", .fieldLink RX12 167 "ScriptTypesModel" "propertyNext" "[I", .fieldLink RX12 143 "ScriptTypesModel" "sortOf" "[I", .methodLink RX12 899 yX12_in, .static yX12_in, .initialized RX12, .code yX12_in cX12_in 3 (some .boolean)] ++ wsX120)
def wsX12_property : List Cond := .code yX12_property cX12_property 6 (some .int) :: ([.fieldLink RX12 289 "ScriptTypesModel" "thrown" "I", .fieldLink RX12 773 "ScriptTypesModel" "state" "I", .fieldLink RX12 843 "ScriptTypesModel" "objects" "I", .fieldLink RX12 149 "ScriptTypesModel" "firstOf" "[I", .fieldLink RX12 167 "ScriptTypesModel" "propertyNext" "[I", .fieldLink RX12 155 "ScriptTypesModel" "propertyName" "[I", .fieldLink RX12 158 "ScriptTypesModel" "propertySort" "[I", .fieldLink RX12 161 "ScriptTypesModel" "propertyValue" "[I", .methodLink RX12 899 yX12_in, .static yX12_in, .initialized RX12, .code yX12_in cX12_in 3 (some .boolean), .methodLink RX12 1037 yX12_told, .instanceMethod yX12_told, .selects RX12 yX12_told yX12_told, .code yX12_told cX12_told 4 (some .int)] ++ wsX120)
def wsX12_printed : List Cond := .code yX12_printed cX12_printed 4 (some .int) :: ([.fieldLink RX12 289 "ScriptTypesModel" "thrown" "I", .fieldLink RX12 773 "ScriptTypesModel" "state" "I", .fieldLink RX12 864 "ScriptTypesModel" "printedMany" "I", .fieldLink RX12 212 "ScriptTypesModel" "printedLines" "[I", .fieldLink RX12 20 "ScriptTypesModel" "lengths" "[I", .fieldLink RX12 16 "ScriptTypesModel" "signs" "[C", .methodLink RX12 899 yX12_in, .static yX12_in, .initialized RX12, .code yX12_in cX12_in 3 (some .boolean)] ++ wsX120)
def wsX12_uncaught : List Cond := .code yX12_uncaught cX12_uncaught 2 (some .int) :: ([.fieldLink RX12 289 "ScriptTypesModel" "thrown" "I", .fieldLink RX12 773 "ScriptTypesModel" "state" "I", .fieldLink RX12 891 "ScriptTypesModel" "tossedSort" "I", .fieldLink RX12 894 "ScriptTypesModel" "tossed" "I", .methodLink RX12 1037 yX12_told, .instanceMethod yX12_told, .selects RX12 yX12_told yX12_told, .initialized RX12, .code yX12_told cX12_told 4 (some .int)] ++ wsX120)
def wsX12_solve_r1 : List Cond := [Cond.fieldLink RX12 770 "ScriptTypesModel" "hasScript" "Z", Cond.fieldLink RX12 289 "ScriptTypesModel" "thrown" "I", Cond.fieldLink RX12 776 "ScriptTypesModel" "solved" "Z", Cond.fieldLink RX12 1034 "ScriptTypesModel" "reachedMany" "I", Cond.fieldLink RX12 606 "ScriptTypesModel" "instructions" "I", Cond.fieldLink RX12 527 "ScriptTypesModel" "functions" "I", Cond.fieldLink RX12 1376 "ScriptTypesModel" "points" "I", Cond.fieldLink RX12 226 "ScriptTypesModel" "reached" "[Z", Cond.fieldLink RX12 229 "ScriptTypesModel" "due" "[Z", Cond.constant RX12 1379 (465000), Cond.fieldLink RX12 1107 "ScriptTypesModel" "stacked" "I", Cond.fieldLink RX12 238 "ScriptTypesModel" "stackAt" "[I", Cond.constant RX12 1380 (647340), Cond.methodLink RX12 1373 yX12_findSorts, Cond.instanceMethod yX12_findSorts, Cond.selects RX12 yX12_findSorts yX12_findSorts, Cond.initialized RX12, Cond.code yX12_findSorts cX12_findSorts 4 none, Cond.fieldLink RX12 762 "ScriptTypesModel" "names" "I", Cond.fieldLink RX12 277 "ScriptTypesModel" "isIndex" "[Z", Cond.fieldLink RX12 280 "ScriptTypesModel" "isHundred" "[Z", Cond.fieldLink RX12 20 "ScriptTypesModel" "lengths" "[I", Cond.fieldLink RX12 16 "ScriptTypesModel" "signs" "[C", Cond.fieldLink RX12 806 "ScriptTypesModel" "isNumbe\x72" "Z"]
def wsX12_solve_r2 : List Cond := [Cond.fieldLink RX12 299 "ScriptTypesModel" "textLength" "I", Cond.fieldLink RX12 274 "ScriptTypesModel" "isInt" "[Z", Cond.fieldLink RX12 89 "ScriptTypesModel" "operation" "[I", Cond.fieldLink RX12 283 "ScriptTypesModel" "isArraySite" "[Z", Cond.fieldLink RX12 92 "ScriptTypesModel" "a" "[I", Cond.fieldLink RX12 95 "ScriptTypesModel" "b" "[I", Cond.methodLink RX12 975 yX12_indexOf, Cond.instanceMethod yX12_indexOf, Cond.selects RX12 yX12_indexOf yX12_indexOf, Cond.code yX12_indexOf cX12_indexOf 5 (some .int), Cond.methodLink RX12 341 yX12_isDigit, Cond.static yX12_isDigit, Cond.code yX12_isDigit cX12_isDigit 1 (some .boolean), Cond.methodLink RX12 809 yX12_numberOfString, Cond.instanceMethod yX12_numberOfString, Cond.selects RX12 yX12_numberOfString yX12_numberOfString, Cond.code yX12_numberOfString cX12_numberOfString 8 (some .int), Cond.constantLong RX12 381 (10), Cond.constantLong RX12 383 (48), Cond.methodLink RX12 410 yX12_putNumber, Cond.instanceMethod yX12_putNumber, Cond.selects RX12 yX12_putNumber yX12_putNumber, Cond.code yX12_putNumber cX12_putNumber 6 none, Cond.constantLong RX12 416 (9)]
def wsX12_solve_r3 : List Cond := [Cond.methodLink RX12 324 yX12_put, Cond.instanceMethod yX12_put, Cond.selects RX12 yX12_put yX12_put, Cond.code yX12_put cX12_put 2 none, Cond.fieldLink RX12 24 "ScriptTypesModel" "text" "[C", Cond.methodLink RX12 302 yX12_findText, Cond.instanceMethod yX12_findText, Cond.selects RX12 yX12_findText yX12_findText, Cond.code yX12_findText cX12_findText 4 (some .int), Cond.fieldLink RX12 296 "ScriptTypesModel" "strings" "I", Cond.methodLink RX12 1381 yX12_beginWork, Cond.instanceMethod yX12_beginWork, Cond.selects RX12 yX12_beginWork yX12_beginWork, Cond.code yX12_beginWork cX12_beginWork 2 none, Cond.fieldLink RX12 235 "ScriptTypesModel" "heights" "[I", Cond.fieldLink RX12 247 "ScriptTypesModel" "tries" "[I", Cond.methodLink RX12 1104 yX12_clearState, Cond.instanceMethod yX12_clearState, Cond.selects RX12 yX12_clearState yX12_clearState, Cond.code yX12_clearState cX12_clearState 5 none, Cond.fieldLink RX12 765 "ScriptTypesModel" "labels" "I", Cond.fieldLink RX12 256 "ScriptTypesModel" "isThere" "[Z", Cond.fieldLink RX12 259 "ScriptTypesModel" "mayBeNull" "[Z", Cond.fieldLink RX12 262 "ScriptTypesModel" "protoLow" "[J"]
def wsX12_solve_r4 : List Cond := [Cond.fieldLink RX12 265 "ScriptTypesModel" "protoHigh" "[J", Cond.fieldLink RX12 268 "ScriptTypesModel" "linkLow" "[J", Cond.fieldLink RX12 271 "ScriptTypesModel" "linkHigh" "[J", Cond.fieldLink RX12 241 "ScriptTypesModel" "scopeLow" "[J", Cond.fieldLink RX12 244 "ScriptTypesModel" "scopeHigh" "[J", Cond.methodLink RX12 1085 yX12_fieldsAt, Cond.instanceMethod yX12_fieldsAt, Cond.selects RX12 yX12_fieldsAt yX12_fieldsAt, Cond.code yX12_fieldsAt cX12_fieldsAt 2 (some .int), Cond.constant RX12 1084 (635640), Cond.methodLink RX12 1066 yX12_empty, Cond.instanceMethod yX12_empty, Cond.selects RX12 yX12_empty yX12_empty, Cond.code yX12_empty cX12_empty 2 none, Cond.fieldLink RX12 216 "ScriptTypesModel" "bits" "[J", Cond.fieldLink RX12 220 "ScriptTypesModel" "low" "[J", Cond.fieldLink RX12 223 "ScriptTypesModel" "high" "[J", Cond.methodLink RX12 1101 yX12_of, Cond.instanceMethod yX12_of, Cond.selects RX12 yX12_of yX12_of, Cond.code yX12_of cX12_of 3 (some .int), Cond.methodLink RX12 1088 yX12_labelsAt, Cond.instanceMethod yX12_labelsAt, Cond.selects RX12 yX12_labelsAt yX12_labelsAt]
def wsX12_solve_r5 : List Cond := [Cond.code yX12_labelsAt cX12_labelsAt 2 (some .int), Cond.methodLink RX12 1098 yX12_thisAt, Cond.instanceMethod yX12_thisAt, Cond.selects RX12 yX12_thisAt yX12_thisAt, Cond.code yX12_thisAt cX12_thisAt 2 (some .int), Cond.constant RX12 1091 (635000), Cond.methodLink RX12 1182 yX12_newLabel, Cond.instanceMethod yX12_newLabel, Cond.selects RX12 yX12_newLabel yX12_newLabel, Cond.code yX12_newLabel cX12_newLabel 5 none, Cond.methodLink RX12 1163 yX12_field, Cond.instanceMethod yX12_field, Cond.selects RX12 yX12_field yX12_field, Cond.code yX12_field cX12_field 4 (some .int), Cond.methodLink RX12 1056 yX12_write, Cond.instanceMethod yX12_write, Cond.selects RX12 yX12_write yX12_write, Cond.code yX12_write cX12_write 5 none, Cond.methodLink RX12 1370 yX12_hasField, Cond.instanceMethod yX12_hasField, Cond.selects RX12 yX12_hasField yX12_hasField, Cond.code yX12_hasField cX12_hasField 4 none, Cond.methodLink RX12 1244 yX12_fresh_, Cond.instanceMethod yX12_fresh_]
def wsX12_solve_r6 : List Cond := [Cond.selects RX12 yX12_fresh_ yX12_fresh_, Cond.code yX12_fresh_ cX12_fresh_ 4 (some .int), Cond.methodLink RX12 1081 yX12_addLabel, Cond.instanceMethod yX12_addLabel, Cond.selects RX12 yX12_addLabel yX12_addLabel, Cond.code yX12_addLabel cX12_addLabel 3 none, Cond.methodLink RX12 1078 yX12_addString, Cond.instanceMethod yX12_addString, Cond.selects RX12 yX12_addString yX12_addString, Cond.code yX12_addString cX12_addString 5 none, Cond.constant RX12 1065 (647790), Cond.methodLink RX12 1069 yX12_join, Cond.instanceMethod yX12_join, Cond.selects RX12 yX12_join yX12_join, Cond.code yX12_join cX12_join 13 (some .boolean), Cond.methodLink RX12 1047 yX12_has, Cond.instanceMethod yX12_has, Cond.selects RX12 yX12_has yX12_has, Cond.code yX12_has cX12_has 2 (some .int), Cond.constantLong RX12 1043 (1023), Cond.methodLink RX12 1050 yX12_number, Cond.instanceMethod yX12_number, Cond.selects RX12 yX12_number yX12_number, Cond.code yX12_number cX12_number 2 (some .int)]
def wsX12_solve_r7 : List Cond := [Cond.methodLink RX12 1053 yX12_name, Cond.instanceMethod yX12_name, Cond.selects RX12 yX12_name yX12_name, Cond.code yX12_name cX12_name 2 (some .int), Cond.constantLong RX12 1045 (127), Cond.methodLink RX12 1072 yX12_addSort, Cond.instanceMethod yX12_addSort, Cond.selects RX12 yX12_addSort yX12_addSort, Cond.code yX12_addSort cX12_addSort 5 none, Cond.methodLink RX12 1191 yX12_flow, Cond.instanceMethod yX12_flow, Cond.selects RX12 yX12_flow yX12_flow, Cond.code yX12_flow cX12_flow 5 none, Cond.fieldLink RX12 250 "ScriptTypesModel" "triesPlace" "[I", Cond.fieldLink RX12 253 "ScriptTypesModel" "triesHeight" "[I", Cond.constantLong RX12 1110 (-1), Cond.methodLink RX12 1112 yX12_joinLabel, Cond.instanceMethod yX12_joinLabel, Cond.selects RX12 yX12_joinLabel yX12_joinLabel, Cond.code yX12_joinLabel cX12_joinLabel 4 (some .boolean), Cond.methodLink RX12 1384 yX12_ways, Cond.instanceMethod yX12_ways, Cond.selects RX12 yX12_ways yX12_ways, Cond.code yX12_ways cX12_ways 6 none]
def wsX12_solve_r8 : List Cond := [Cond.fieldLink RX12 1188 "ScriptTypesModel" "at0" "I", Cond.fieldLink RX12 1208 "ScriptTypesModel" "warning" "I", Cond.fieldLink RX12 1185 "ScriptTypesModel" "goesOn" "Z", Cond.fieldLink RX12 1178 "ScriptTypesModel" "handedMany" "I", Cond.constant RX12 1218 (647740), Cond.fieldLink RX12 232 "ScriptTypesModel" "warnings" "[I", Cond.methodLink RX12 1211 yX12_load, Cond.instanceMethod yX12_load, Cond.selects RX12 yX12_load yX12_load, Cond.code yX12_load cX12_load 4 none, Cond.methodLink RX12 1092 yX12_copySet, Cond.instanceMethod yX12_copySet, Cond.selects RX12 yX12_copySet yX12_copySet, Cond.code yX12_copySet cX12_copySet 3 none, Cond.methodLink RX12 1095 yX12_loadRest, Cond.instanceMethod yX12_loadRest, Cond.selects RX12 yX12_loadRest yX12_loadRest, Cond.code yX12_loadRest cX12_loadRest 5 none, Cond.methodLink RX12 1219 yX12_addValue, Cond.instanceMethod yX12_addValue, Cond.selects RX12 yX12_addValue yX12_addValue, Cond.code yX12_addValue cX12_addValue 4 none, Cond.methodLink RX12 1075 yX12_addNumber, Cond.instanceMethod yX12_addNumber]
def wsX12_solve_r9 : List Cond := [Cond.selects RX12 yX12_addNumber yX12_addNumber, Cond.code yX12_addNumber cX12_addNumber 5 none, Cond.methodLink RX12 1201 yX12_pushSet, Cond.instanceMethod yX12_pushSet, Cond.selects RX12 yX12_pushSet yX12_pushSet, Cond.code yX12_pushSet cX12_pushSet 2 (some .int), Cond.methodLink RX12 1222 yX12_on, Cond.instanceMethod yX12_on, Cond.selects RX12 yX12_on yX12_on, Cond.code yX12_on cX12_on 1 none, Cond.methodLink RX12 1225 yX12_scopesAt, Cond.instanceMethod yX12_scopesAt, Cond.selects RX12 yX12_scopesAt yX12_scopesAt, Cond.code yX12_scopesAt cX12_scopesAt 6 none, Cond.constant RX12 1217 (647793), Cond.methodLink RX12 1125 yX12_isIn, Cond.static yX12_isIn, Cond.code yX12_isIn cX12_isIn 5 (some .boolean), Cond.methodLink RX12 1135 yX12_noKeys, Cond.instanceMethod yX12_noKeys, Cond.selects RX12 yX12_noKeys yX12_noKeys, Cond.code yX12_noKeys cX12_noKeys 1 none, Cond.fieldLink RX12 1118 "ScriptTypesModel" "keysLow" "J", Cond.fieldLink RX12 1122 "ScriptTypesModel" "keysHigh" "J"]
def wsX12_solve_r10 : List Cond := [Cond.methodLink RX12 1138 yX12_addKey, Cond.instanceMethod yX12_addKey, Cond.selects RX12 yX12_addKey yX12_addKey, Cond.code yX12_addKey cX12_addKey 2 none, Cond.methodLink RX12 1228 yX12_joinPlain, Cond.instanceMethod yX12_joinPlain, Cond.selects RX12 yX12_joinPlain yX12_joinPlain, Cond.code yX12_joinPlain cX12_joinPlain 5 none, Cond.constant RX12 1273 (647794), Cond.methodLink RX12 1059 yX12_plainly, Cond.instanceMethod yX12_plainly, Cond.selects RX12 yX12_plainly yX12_plainly, Cond.code yX12_plainly cX12_plainly 2 (some .int), Cond.methodLink RX12 1231 yX12_isEmpty, Cond.instanceMethod yX12_isEmpty, Cond.selects RX12 yX12_isEmpty yX12_isEmpty, Cond.code yX12_isEmpty cX12_isEmpty 2 (some .boolean), Cond.methodLink RX12 1062 yX12_hasLabels, Cond.instanceMethod yX12_hasLabels, Cond.selects RX12 yX12_hasLabels yX12_hasLabels, Cond.code yX12_hasLabels cX12_hasLabels 2 (some .boolean), Cond.methodLink RX12 1195 yX12_fromTop, Cond.instanceMethod yX12_fromTop, Cond.selects RX12 yX12_fromTop yX12_fromTop]
def wsX12_solve_r11 : List Cond := [Cond.code yX12_fromTop cX12_fromTop 2 (some .int), Cond.methodLink RX12 1234 yX12_writeTo, Cond.instanceMethod yX12_writeTo, Cond.selects RX12 yX12_writeTo yX12_writeTo, Cond.code yX12_writeTo cX12_writeTo 14 none, Cond.methodLink RX12 1129 yJ13_bitCount_95d88, Cond.static yJ13_bitCount_95d88, Cond.initialized RJ13, Cond.code yJ13_bitCount_95d88 cJ13_bitCount_95d88 2 (some .int), Cond.constantLong RJ13 314 (6148914691236517205), Cond.constantLong RJ13 316 (3689348814741910323), Cond.constantLong RJ13 318 (1085102592571150095), Cond.methodLink RX12 1166 yX12_isSingle, Cond.static yX12_isSingle, Cond.code yX12_isSingle cX12_isSingle 1 (some .boolean), Cond.methodLink RX12 1150 yX12_manyKeys, Cond.instanceMethod yX12_manyKeys, Cond.selects RX12 yX12_manyKeys yX12_manyKeys, Cond.code yX12_manyKeys cX12_manyKeys 1 (some .int), Cond.methodLink RX12 1153 yX12_hasKey, Cond.instanceMethod yX12_hasKey, Cond.selects RX12 yX12_hasKey yX12_hasKey, Cond.code yX12_hasKey cX12_hasKey 2 (some .boolean), Cond.methodLink RX12 1169 yX12_isArrayLabel]
def wsX12_solve_r12 : List Cond := [Cond.instanceMethod yX12_isArrayLabel, Cond.selects RX12 yX12_isArrayLabel yX12_isArrayLabel, Cond.code yX12_isArrayLabel cX12_isArrayLabel 3 (some .boolean), Cond.methodLink RX12 1238 yX12_waysOfGlobal, Cond.instanceMethod yX12_waysOfGlobal, Cond.selects RX12 yX12_waysOfGlobal yX12_waysOfGlobal, Cond.code yX12_waysOfGlobal cX12_waysOfGlobal 7 none, Cond.methodLink RX12 1289 yX12_typesOf, Cond.instanceMethod yX12_typesOf, Cond.selects RX12 yX12_typesOf yX12_typesOf, Cond.code yX12_typesOf cX12_typesOf 5 none, Cond.methodLink RX12 1115 yX12_isFunctionLabel, Cond.instanceMethod yX12_isFunctionLabel, Cond.selects RX12 yX12_isFunctionLabel yX12_isFunctionLabel, Cond.code yX12_isFunctionLabel cX12_isFunctionLabel 2 (some .boolean), Cond.methodLink RX12 1258 yX12_replace, Cond.instanceMethod yX12_replace, Cond.selects RX12 yX12_replace yX12_replace, Cond.code yX12_replace cX12_replace 3 none, Cond.methodLink RX12 1292 yX12_error_, Cond.instanceMethod yX12_error_, Cond.selects RX12 yX12_error_ yX12_error_, Cond.code yX12_error_ cX12_error_ 3 none, Cond.methodLink RX12 1214 yX12_errorNow]
def wsX12_solve_r13 : List Cond := [Cond.instanceMethod yX12_errorNow, Cond.selects RX12 yX12_errorNow yX12_errorNow, Cond.code yX12_errorNow cX12_errorNow 3 none, Cond.constant RX12 1194 (647792), Cond.methodLink RX12 1204 yX12_addNew, Cond.instanceMethod yX12_addNew, Cond.selects RX12 yX12_addNew yX12_addNew, Cond.code yX12_addNew cX12_addNew 8 none, Cond.methodLink RX12 1172 yX12_addTextOf, Cond.instanceMethod yX12_addTextOf, Cond.selects RX12 yX12_addTextOf yX12_addTextOf, Cond.code yX12_addTextOf cX12_addTextOf 5 none, Cond.methodLink RX12 1147 yX12_keysOf, Cond.instanceMethod yX12_keysOf, Cond.selects RX12 yX12_keysOf yX12_keysOf, Cond.code yX12_keysOf cX12_keysOf 5 none, Cond.methodLink RX12 1141 yX12_nameOfNumber, Cond.instanceMethod yX12_nameOfNumber, Cond.selects RX12 yX12_nameOfNumber yX12_nameOfNumber, Cond.code yX12_nameOfNumber cX12_nameOfNumber 2 (some .int), Cond.methodLink RX12 1144 yX12_findName, Cond.instanceMethod yX12_findName, Cond.selects RX12 yX12_findName yX12_findName, Cond.code yX12_findName cX12_findName 2 (some .int)]
def wsX12_solve_r14 : List Cond := [Cond.methodLink RX12 1198 yX12_tossSet, Cond.instanceMethod yX12_tossSet, Cond.selects RX12 yX12_tossSet yX12_tossSet, Cond.code yX12_tossSet cX12_tossSet 3 none, Cond.fieldLink RX12 98 "ScriptTypesModel" "functionOf" "[I", Cond.methodLink RX12 920 yX12_siteLabel, Cond.instanceMethod yX12_siteLabel, Cond.selects RX12 yX12_siteLabel yX12_siteLabel, Cond.code yX12_siteLabel cX12_siteLabel 2 (some .int), Cond.methodLink RX12 1241 yX12_make, Cond.instanceMethod yX12_make, Cond.selects RX12 yX12_make yX12_make, Cond.code yX12_make cX12_make 6 none, Cond.fieldLink RX12 286 "ScriptTypesModel" "handed" "[I", Cond.constant RX12 1181 (647791), Cond.methodLink RX12 1175 yX12_renameIn, Cond.instanceMethod yX12_renameIn, Cond.selects RX12 yX12_renameIn yX12_renameIn, Cond.code yX12_renameIn cX12_renameIn 3 none, Cond.methodLink RX12 1246 yX12_waysOfGet, Cond.instanceMethod yX12_waysOfGet, Cond.selects RX12 yX12_waysOfGet yX12_waysOfGet, Cond.code yX12_waysOfGet cX12_waysOfGet 6 none, Cond.fieldLink RX12 1156 "ScriptTypesModel" "missed" "Z"]
def wsX12_solve_r15 : List Cond := [Cond.methodLink RX12 1303 yX12_getOfString, Cond.instanceMethod yX12_getOfString, Cond.selects RX12 yX12_getOfString yX12_getOfString, Cond.code yX12_getOfString cX12_getOfString 4 none, Cond.constantLong RX12 1310 (-2), Cond.constantLong RX12 1312 (16), Cond.methodLink RX12 1294 yX12_isAlone, Cond.instanceMethod yX12_isAlone, Cond.selects RX12 yX12_isAlone yX12_isAlone, Cond.code yX12_isAlone cX12_isAlone 3 (some .boolean), Cond.methodLink RX12 1306 yX12_readFrom, Cond.instanceMethod yX12_readFrom, Cond.selects RX12 yX12_readFrom yX12_readFrom, Cond.code yX12_readFrom cX12_readFrom 7 none, Cond.methodLink RX12 1159 yX12_readKey, Cond.instanceMethod yX12_readKey, Cond.selects RX12 yX12_readKey yX12_readKey, Cond.code yX12_readKey cX12_readKey 19 none, Cond.methodLink RX12 1249 yX12_waysOfPut, Cond.instanceMethod yX12_waysOfPut, Cond.selects RX12 yX12_waysOfPut yX12_waysOfPut, Cond.code yX12_waysOfPut cX12_waysOfPut 7 none, Cond.methodLink RX12 1252 yX12_waysOfDelete, Cond.instanceMethod yX12_waysOfDelete]
def wsX12_solve_r16 : List Cond := [Cond.selects RX12 yX12_waysOfDelete yX12_waysOfDelete, Cond.code yX12_waysOfDelete cX12_waysOfDelete 11 none, Cond.methodLink RX12 1255 yX12_unarySet, Cond.instanceMethod yX12_unarySet, Cond.selects RX12 yX12_unarySet yX12_unarySet, Cond.code yX12_unarySet cX12_unarySet 4 none, Cond.fieldLink RX12 788 "ScriptTypesModel" "gotSort" "I", Cond.fieldLink RX12 791 "ScriptTypesModel" "got" "I", Cond.methodLink RX12 1297 yX12_sortOfAlone, Cond.instanceMethod yX12_sortOfAlone, Cond.selects RX12 yX12_sortOfAlone yX12_sortOfAlone, Cond.code yX12_sortOfAlone cX12_sortOfAlone 3 (some .int), Cond.methodLink RX12 1300 yX12_valueOfAlone, Cond.instanceMethod yX12_valueOfAlone, Cond.selects RX12 yX12_valueOfAlone yX12_valueOfAlone, Cond.code yX12_valueOfAlone cX12_valueOfAlone 2 (some .int), Cond.methodLink RX12 940 yX12_unaryOf, Cond.instanceMethod yX12_unaryOf, Cond.selects RX12 yX12_unaryOf yX12_unaryOf, Cond.code yX12_unaryOf cX12_unaryOf 5 none, Cond.methodLink RX12 824 yX12_isTrue, Cond.instanceMethod yX12_isTrue, Cond.selects RX12 yX12_isTrue yX12_isTrue, Cond.code yX12_isTrue cX12_isTrue 3 (some .boolean)]
def wsX12_solve_r17 : List Cond := [Cond.methodLink RX12 827 yX12_truth, Cond.instanceMethod yX12_truth, Cond.selects RX12 yX12_truth yX12_truth, Cond.code yX12_truth cX12_truth 2 none, Cond.methodLink RX12 822 yX12_give_, Cond.instanceMethod yX12_give_, Cond.selects RX12 yX12_give_ yX12_give_, Cond.code yX12_give_ cX12_give_ 3 none, Cond.methodLink RX12 816 yX12_numberOf, Cond.instanceMethod yX12_numberOf, Cond.selects RX12 yX12_numberOf yX12_numberOf, Cond.code yX12_numberOf cX12_numberOf 3 (some .int), Cond.methodLink RX12 1286 yX12_mayBeFalse, Cond.instanceMethod yX12_mayBeFalse, Cond.selects RX12 yX12_mayBeFalse yX12_mayBeFalse, Cond.code yX12_mayBeFalse cX12_mayBeFalse 3 (some .boolean), Cond.methodLink RX12 1283 yX12_mayBeTrue, Cond.instanceMethod yX12_mayBeTrue, Cond.selects RX12 yX12_mayBeTrue yX12_mayBeTrue, Cond.code yX12_mayBeTrue cX12_mayBeTrue 3 (some .boolean), Cond.methodLink RX12 1261 yX12_waysOfBinary, Cond.instanceMethod yX12_waysOfBinary, Cond.selects RX12 yX12_waysOfBinary yX12_waysOfBinary, Cond.code yX12_waysOfBinary cX12_waysOfBinary 6 none]
def wsX12_solve_r18 : List Cond := [Cond.methodLink RX12 1314 yX12_isMadeBySet, Cond.instanceMethod yX12_isMadeBySet, Cond.selects RX12 yX12_isMadeBySet yX12_isMadeBySet, Cond.code yX12_isMadeBySet cX12_isMadeBySet 10 (some .boolean), Cond.methodLink RX12 1317 yX12_binarySet, Cond.instanceMethod yX12_binarySet, Cond.selects RX12 yX12_binarySet yX12_binarySet, Cond.code yX12_binarySet cX12_binarySet 7 none, Cond.methodLink RX12 990 yX12_binaryOf_, Cond.instanceMethod yX12_binaryOf_, Cond.selects RX12 yX12_binaryOf_ yX12_binaryOf_, Cond.code yX12_binaryOf_ cX12_binaryOf_ 10 none, Cond.methodLink RX12 830 yX12_joinsTexts, Cond.instanceMethod yX12_joinsTexts, Cond.selects RX12 yX12_joinsTexts yX12_joinsTexts, Cond.code yX12_joinsTexts cX12_joinsTexts 4 (some .boolean), Cond.methodLink RX12 800 yX12_putText, Cond.instanceMethod yX12_putText, Cond.selects RX12 yX12_putText yX12_putText, Cond.code yX12_putText cX12_putText 3 none, Cond.methodLink RX12 797 yX12_putString, Cond.instanceMethod yX12_putString, Cond.selects RX12 yX12_putString yX12_putString, Cond.code yX12_putString cX12_putString 3 none]
def wsX12_solve_r19 : List Cond := [Cond.methodLink RX12 834 yX12_isEqual, Cond.instanceMethod yX12_isEqual, Cond.selects RX12 yX12_isEqual yX12_isEqual, Cond.code yX12_isEqual cX12_isEqual 8 (some .boolean), Cond.methodLink RX12 812 yX12_isSame, Cond.static yX12_isSame, Cond.code yX12_isSame cX12_isSame 4 (some .boolean), Cond.methodLink RX12 837 yX12_compares, Cond.instanceMethod yX12_compares, Cond.selects RX12 yX12_compares yX12_compares, Cond.code yX12_compares cX12_compares 11 (some .boolean), Cond.methodLink RX12 819 yX12_orderOf, Cond.instanceMethod yX12_orderOf, Cond.selects RX12 yX12_orderOf yX12_orderOf, Cond.code yX12_orderOf cX12_orderOf 4 (some .int), Cond.methodLink RX12 841 yX12_bits, Cond.static yX12_bits, Cond.code yX12_bits cX12_bits 3 (some .int), Cond.methodLink RX12 1264 yX12_waysOfCall, Cond.instanceMethod yX12_waysOfCall, Cond.selects RX12 yX12_waysOfCall yX12_waysOfCall, Cond.code yX12_waysOfCall cX12_waysOfCall 3 none, Cond.methodLink RX12 1320 yX12_callWays, Cond.instanceMethod yX12_callWays]
def wsX12_solve_r20 : List Cond := [Cond.selects RX12 yX12_callWays yX12_callWays, Cond.code yX12_callWays cX12_callWays 14 none, Cond.methodLink RX12 1323 yX12_onStack, Cond.instanceMethod yX12_onStack, Cond.selects RX12 yX12_onStack yX12_onStack, Cond.code yX12_onStack cX12_onStack 3 (some .int), Cond.methodLink RX12 1326 yX12_codeOfLabel, Cond.instanceMethod yX12_codeOfLabel, Cond.selects RX12 yX12_codeOfLabel yX12_codeOfLabel, Cond.code yX12_codeOfLabel cX12_codeOfLabel 2 (some .int), Cond.methodLink RX12 1329 yX12_nativeWays, Cond.instanceMethod yX12_nativeWays, Cond.selects RX12 yX12_nativeWays yX12_nativeWays, Cond.code yX12_nativeWays cX12_nativeWays 10 none, Cond.constant RX12 1358 (647760), Cond.constant RX12 1359 (647761), Cond.constant RX12 1360 (647762), Cond.methodLink RX12 1361 yX12_isNaNOf, Cond.instanceMethod yX12_isNaNOf, Cond.selects RX12 yX12_isNaNOf yX12_isNaNOf, Cond.code yX12_isNaNOf cX12_isNaNOf 4 none, Cond.methodLink RX12 1364 yX12_rowWays, Cond.instanceMethod yX12_rowWays, Cond.selects RX12 yX12_rowWays yX12_rowWays]
def wsX12_solve_r21 : List Cond := [Cond.code yX12_rowWays cX12_rowWays 10 (some .boolean), Cond.methodLink RX12 1367 yX12_ownWays, Cond.instanceMethod yX12_ownWays, Cond.selects RX12 yX12_ownWays yX12_ownWays, Cond.code yX12_ownWays cX12_ownWays 6 (some .boolean), Cond.methodLink RX12 1332 yX12_codeWays, Cond.instanceMethod yX12_codeWays, Cond.selects RX12 yX12_codeWays yX12_codeWays, Cond.code yX12_codeWays cX12_codeWays 16 none, Cond.constant RX12 1349 (647751), Cond.methodLink RX12 1336 yX12_prepare, Cond.instanceMethod yX12_prepare, Cond.selects RX12 yX12_prepare yX12_prepare, Cond.code yX12_prepare cX12_prepare 13 none, Cond.constant RX12 1339 (647750), Cond.constantLong RX12 1340 (2), Cond.methodLink RX12 1342 yX12_enterCode, Cond.instanceMethod yX12_enterCode, Cond.selects RX12 yX12_enterCode yX12_enterCode, Cond.code yX12_enterCode cX12_enterCode 14 none, Cond.fieldLink RX12 110 "ScriptTypesModel" "variableMany" "[I", Cond.fieldLink RX12 107 "ScriptTypesModel" "variables" "[I", Cond.fieldLink RX12 71 "ScriptTypesModel" "parameterMany" "[I", Cond.fieldLink RX12 65 "ScriptTypesModel" "isDeclared" "[Z"]
def wsX12_solve_r22 : List Cond := [Cond.fieldLink RX12 62 "ScriptTypesModel" "calledBy" "[I", Cond.constant RX12 1357 (647753), Cond.fieldLink RX12 101 "ScriptTypesModel" "beginOf" "[I", Cond.methodLink RX12 1346 yX12_comeBack, Cond.instanceMethod yX12_comeBack, Cond.selects RX12 yX12_comeBack yX12_comeBack, Cond.code yX12_comeBack cX12_comeBack 3 none, Cond.constant RX12 1353 (647752), Cond.methodLink RX12 1350 yX12_age, Cond.instanceMethod yX12_age, Cond.selects RX12 yX12_age yX12_age, Cond.code yX12_age cX12_age 3 none, Cond.methodLink RX12 1354 yX12_loadLabels, Cond.instanceMethod yX12_loadLabels, Cond.selects RX12 yX12_loadLabels yX12_loadLabels, Cond.code yX12_loadLabels cX12_loadLabels 4 none, Cond.methodLink RX12 1267 yX12_waysOfNew, Cond.instanceMethod yX12_waysOfNew, Cond.selects RX12 yX12_waysOfNew yX12_waysOfNew, Cond.code yX12_waysOfNew cX12_waysOfNew 13 none, Cond.methodLink RX12 1270 yX12_waysOfOther, Cond.instanceMethod yX12_waysOfOther, Cond.selects RX12 yX12_waysOfOther yX12_waysOfOther, Cond.code yX12_waysOfOther cX12_waysOfOther 5 none]
def wsX12_solve_r23 : List Cond := [Cond.methodLink RX12 1274 yX12_to, Cond.instanceMethod yX12_to, Cond.selects RX12 yX12_to yX12_to, Cond.code yX12_to cX12_to 2 none, Cond.methodLink RX12 1277 yX12_waysOfTest, Cond.instanceMethod yX12_waysOfTest, Cond.selects RX12 yX12_waysOfTest yX12_waysOfTest, Cond.code yX12_waysOfTest cX12_waysOfTest 8 none, Cond.methodLink RX12 1280 yX12_tossTop, Cond.instanceMethod yX12_tossTop, Cond.selects RX12 yX12_tossTop yX12_tossTop, Cond.code yX12_tossTop cX12_tossTop 2 none]
def wsX12_solve : List Cond := .code yX12_solve cX12_solve 3 (some .int) :: ((wsX12_solve_r1 ++ (wsX12_solve_r2 ++ (wsX12_solve_r3 ++ (wsX12_solve_r4 ++ (wsX12_solve_r5 ++ (wsX12_solve_r6 ++ (wsX12_solve_r7 ++ (wsX12_solve_r8 ++ (wsX12_solve_r9 ++ (wsX12_solve_r10 ++ (wsX12_solve_r11 ++ (wsX12_solve_r12 ++ (wsX12_solve_r13 ++ (wsX12_solve_r14 ++ (wsX12_solve_r15 ++ (wsX12_solve_r16 ++ (wsX12_solve_r17 ++ (wsX12_solve_r18 ++ (wsX12_solve_r19 ++ (wsX12_solve_r20 ++ (wsX12_solve_r21 ++ (wsX12_solve_r22 ++ wsX12_solve_r23)))))))))))))))))))))) ++ wsX120)
def wsX12_isReached : List Cond := .code yX12_isReached cX12_isReached 2 (some .boolean) :: ([.fieldLink RX12 289 "ScriptTypesModel" "thrown" "I", .fieldLink RX12 776 "ScriptTypesModel" "solved" "Z", .fieldLink RX12 606 "ScriptTypesModel" "instructions" "I", .fieldLink RX12 226 "ScriptTypesModel" "reached" "[Z", .methodLink RX12 899 yX12_in, .static yX12_in, .initialized RX12, .code yX12_in cX12_in 3 (some .boolean)] ++ wsX120)
def wsX12_height : List Cond := .code yX12_height cX12_height 2 (some .int) :: ([.fieldLink RX12 235 "ScriptTypesModel" "heights" "[I", .methodLink RX12 1387 yX12_isReached, .instanceMethod yX12_isReached, .selects RX12 yX12_isReached yX12_isReached, .initialized RX12, .code yX12_isReached cX12_isReached 2 (some .boolean), .fieldLink RX12 289 "ScriptTypesModel" "thrown" "I", .fieldLink RX12 776 "ScriptTypesModel" "solved" "Z", .fieldLink RX12 606 "ScriptTypesModel" "instructions" "I", .fieldLink RX12 226 "ScriptTypesModel" "reached" "[Z", .methodLink RX12 899 yX12_in, .static yX12_in, .code yX12_in cX12_in 3 (some .boolean)] ++ wsX120)
def wsX12_slot_r1 : List Cond := [Cond.fieldLink RX12 235 "ScriptTypesModel" "heights" "[I", Cond.methodLink RX12 1387 yX12_isReached, Cond.instanceMethod yX12_isReached, Cond.selects RX12 yX12_isReached yX12_isReached, Cond.initialized RX12, Cond.code yX12_isReached cX12_isReached 2 (some .boolean), Cond.fieldLink RX12 289 "ScriptTypesModel" "thrown" "I", Cond.fieldLink RX12 776 "ScriptTypesModel" "solved" "Z", Cond.fieldLink RX12 606 "ScriptTypesModel" "instructions" "I", Cond.fieldLink RX12 226 "ScriptTypesModel" "reached" "[Z", Cond.methodLink RX12 899 yX12_in, Cond.static yX12_in, Cond.code yX12_in cX12_in 3 (some .boolean), Cond.methodLink RX12 1098 yX12_thisAt, Cond.instanceMethod yX12_thisAt, Cond.selects RX12 yX12_thisAt yX12_thisAt, Cond.code yX12_thisAt cX12_thisAt 2 (some .int), Cond.constant RX12 1091 (635000), Cond.methodLink RX12 1323 yX12_onStack, Cond.instanceMethod yX12_onStack, Cond.selects RX12 yX12_onStack yX12_onStack, Cond.code yX12_onStack cX12_onStack 3 (some .int), Cond.fieldLink RX12 238 "ScriptTypesModel" "stackAt" "[I", Cond.methodLink RX12 1390 yX12_tell]
def wsX12_slot_r2 : List Cond := [Cond.instanceMethod yX12_tell, Cond.selects RX12 yX12_tell yX12_tell, Cond.code yX12_tell cX12_tell 3 (some .long), Cond.fieldLink RX12 220 "ScriptTypesModel" "low" "[J", Cond.fieldLink RX12 223 "ScriptTypesModel" "high" "[J", Cond.methodLink RX12 1047 yX12_has, Cond.instanceMethod yX12_has, Cond.selects RX12 yX12_has yX12_has, Cond.code yX12_has cX12_has 2 (some .int), Cond.fieldLink RX12 216 "ScriptTypesModel" "bits" "[J", Cond.constantLong RX12 1043 (1023), Cond.methodLink RX12 1050 yX12_number, Cond.instanceMethod yX12_number, Cond.selects RX12 yX12_number yX12_number, Cond.code yX12_number cX12_number 2 (some .int), Cond.methodLink RX12 1053 yX12_name, Cond.instanceMethod yX12_name, Cond.selects RX12 yX12_name yX12_name, Cond.code yX12_name cX12_name 2 (some .int), Cond.constantLong RX12 1045 (127)]
def wsX12_slot : List Cond := .code yX12_slot cX12_slot 4 (some .long) :: ((wsX12_slot_r1 ++ wsX12_slot_r2) ++ wsX120)
def wsX12_field__r1 : List Cond := [Cond.fieldLink RX12 765 "ScriptTypesModel" "labels" "I", Cond.fieldLink RX12 762 "ScriptTypesModel" "names" "I", Cond.fieldLink RX12 256 "ScriptTypesModel" "isThere" "[Z", Cond.methodLink RX12 1387 yX12_isReached, Cond.instanceMethod yX12_isReached, Cond.selects RX12 yX12_isReached yX12_isReached, Cond.initialized RX12, Cond.code yX12_isReached cX12_isReached 2 (some .boolean), Cond.fieldLink RX12 289 "ScriptTypesModel" "thrown" "I", Cond.fieldLink RX12 776 "ScriptTypesModel" "solved" "Z", Cond.fieldLink RX12 606 "ScriptTypesModel" "instructions" "I", Cond.fieldLink RX12 226 "ScriptTypesModel" "reached" "[Z", Cond.methodLink RX12 899 yX12_in, Cond.static yX12_in, Cond.code yX12_in cX12_in 3 (some .boolean), Cond.methodLink RX12 1101 yX12_of, Cond.instanceMethod yX12_of, Cond.selects RX12 yX12_of yX12_of, Cond.code yX12_of cX12_of 3 (some .int), Cond.methodLink RX12 1088 yX12_labelsAt, Cond.instanceMethod yX12_labelsAt, Cond.selects RX12 yX12_labelsAt yX12_labelsAt, Cond.code yX12_labelsAt cX12_labelsAt 2 (some .int), Cond.methodLink RX12 1163 yX12_field]
def wsX12_field__r2 : List Cond := [Cond.instanceMethod yX12_field, Cond.selects RX12 yX12_field yX12_field, Cond.code yX12_field cX12_field 4 (some .int), Cond.methodLink RX12 1085 yX12_fieldsAt, Cond.instanceMethod yX12_fieldsAt, Cond.selects RX12 yX12_fieldsAt yX12_fieldsAt, Cond.code yX12_fieldsAt cX12_fieldsAt 2 (some .int), Cond.constant RX12 1084 (635640), Cond.methodLink RX12 1390 yX12_tell, Cond.instanceMethod yX12_tell, Cond.selects RX12 yX12_tell yX12_tell, Cond.code yX12_tell cX12_tell 3 (some .long), Cond.fieldLink RX12 220 "ScriptTypesModel" "low" "[J", Cond.fieldLink RX12 223 "ScriptTypesModel" "high" "[J", Cond.methodLink RX12 1047 yX12_has, Cond.instanceMethod yX12_has, Cond.selects RX12 yX12_has yX12_has, Cond.code yX12_has cX12_has 2 (some .int), Cond.fieldLink RX12 216 "ScriptTypesModel" "bits" "[J", Cond.constantLong RX12 1043 (1023), Cond.methodLink RX12 1050 yX12_number, Cond.instanceMethod yX12_number, Cond.selects RX12 yX12_number yX12_number, Cond.code yX12_number cX12_number 2 (some .int)]
def wsX12_field__r3 : List Cond := [Cond.methodLink RX12 1053 yX12_name, Cond.instanceMethod yX12_name, Cond.selects RX12 yX12_name yX12_name, Cond.code yX12_name cX12_name 2 (some .int), Cond.constantLong RX12 1045 (127)]
def wsX12_field_ : List Cond := .code yX12_field_ cX12_field_ 6 (some .long) :: ((wsX12_field__r1 ++ (wsX12_field__r2 ++ wsX12_field__r3)) ++ wsX120)
def wsX12_link_r1 : List Cond := [Cond.fieldLink RX12 765 "ScriptTypesModel" "labels" "I", Cond.fieldLink RX12 241 "ScriptTypesModel" "scopeLow" "[J", Cond.fieldLink RX12 244 "ScriptTypesModel" "scopeHigh" "[J", Cond.fieldLink RX12 262 "ScriptTypesModel" "protoLow" "[J", Cond.fieldLink RX12 265 "ScriptTypesModel" "protoHigh" "[J", Cond.fieldLink RX12 259 "ScriptTypesModel" "mayBeNull" "[Z", Cond.fieldLink RX12 268 "ScriptTypesModel" "linkLow" "[J", Cond.fieldLink RX12 271 "ScriptTypesModel" "linkHigh" "[J", Cond.fieldLink RX12 256 "ScriptTypesModel" "isThere" "[Z", Cond.methodLink RX12 1387 yX12_isReached, Cond.instanceMethod yX12_isReached, Cond.selects RX12 yX12_isReached yX12_isReached, Cond.initialized RX12, Cond.code yX12_isReached cX12_isReached 2 (some .boolean), Cond.fieldLink RX12 289 "ScriptTypesModel" "thrown" "I", Cond.fieldLink RX12 776 "ScriptTypesModel" "solved" "Z", Cond.fieldLink RX12 606 "ScriptTypesModel" "instructions" "I", Cond.fieldLink RX12 226 "ScriptTypesModel" "reached" "[Z", Cond.methodLink RX12 899 yX12_in, Cond.static yX12_in, Cond.code yX12_in cX12_in 3 (some .boolean), Cond.methodLink RX12 1101 yX12_of, Cond.instanceMethod yX12_of, Cond.selects RX12 yX12_of yX12_of]
def wsX12_link_r2 : List Cond := [Cond.code yX12_of cX12_of 3 (some .int), Cond.methodLink RX12 1088 yX12_labelsAt, Cond.instanceMethod yX12_labelsAt, Cond.selects RX12 yX12_labelsAt yX12_labelsAt, Cond.code yX12_labelsAt cX12_labelsAt 2 (some .int)]
def wsX12_link : List Cond := .code yX12_link cX12_link 5 (some .long) :: ((wsX12_link_r1 ++ wsX12_link_r2) ++ wsX120)
def wsX12_result_r1 : List Cond := [Cond.fieldLink RX12 289 "ScriptTypesModel" "thrown" "I", Cond.fieldLink RX12 776 "ScriptTypesModel" "solved" "Z", Cond.fieldLink RX12 527 "ScriptTypesModel" "functions" "I", Cond.fieldLink RX12 606 "ScriptTypesModel" "instructions" "I", Cond.fieldLink RX12 226 "ScriptTypesModel" "reached" "[Z", Cond.fieldLink RX12 238 "ScriptTypesModel" "stackAt" "[I", Cond.methodLink RX12 899 yX12_in, Cond.static yX12_in, Cond.initialized RX12, Cond.code yX12_in cX12_in 3 (some .boolean), Cond.methodLink RX12 1390 yX12_tell, Cond.instanceMethod yX12_tell, Cond.selects RX12 yX12_tell yX12_tell, Cond.code yX12_tell cX12_tell 3 (some .long), Cond.fieldLink RX12 220 "ScriptTypesModel" "low" "[J", Cond.fieldLink RX12 223 "ScriptTypesModel" "high" "[J", Cond.methodLink RX12 1047 yX12_has, Cond.instanceMethod yX12_has, Cond.selects RX12 yX12_has yX12_has, Cond.code yX12_has cX12_has 2 (some .int), Cond.fieldLink RX12 216 "ScriptTypesModel" "bits" "[J", Cond.constantLong RX12 1043 (1023), Cond.methodLink RX12 1050 yX12_number, Cond.instanceMethod yX12_number]
def wsX12_result_r2 : List Cond := [Cond.selects RX12 yX12_number yX12_number, Cond.code yX12_number cX12_number 2 (some .int), Cond.methodLink RX12 1053 yX12_name, Cond.instanceMethod yX12_name, Cond.selects RX12 yX12_name yX12_name, Cond.code yX12_name cX12_name 2 (some .int), Cond.constantLong RX12 1045 (127)]
def wsX12_result : List Cond := .code yX12_result cX12_result 5 (some .long) :: ((wsX12_result_r1 ++ wsX12_result_r2) ++ wsX120)
def wsX12_warns : List Cond := .code yX12_warns cX12_warns 2 (some .int) :: ([.fieldLink RX12 232 "ScriptTypesModel" "warnings" "[I", .methodLink RX12 1387 yX12_isReached, .instanceMethod yX12_isReached, .selects RX12 yX12_isReached yX12_isReached, .initialized RX12, .code yX12_isReached cX12_isReached 2 (some .boolean), .fieldLink RX12 289 "ScriptTypesModel" "thrown" "I", .fieldLink RX12 776 "ScriptTypesModel" "solved" "Z", .fieldLink RX12 606 "ScriptTypesModel" "instructions" "I", .fieldLink RX12 226 "ScriptTypesModel" "reached" "[Z", .methodLink RX12 899 yX12_in, .static yX12_in, .code yX12_in cX12_in 3 (some .boolean)] ++ wsX120)
theorem dX12_thrown_0 : decode cX12_thrown 0 = .ok (.aload_n 0, 1) := by decide +kernel
theorem dX12_thrown_1 : decode cX12_thrown 1 = .ok (.getfield 289, 3) := by decide +kernel
theorem dX12_thrown_4 : decode cX12_thrown 4 = .ok (.ireturn, 1) := by decide +kernel
theorem dX12_in_0 : decode cX12_in 0 = .ok (.iload_n 0, 1) := by decide +kernel
theorem dX12_in_1 : decode cX12_in 1 = .ok (.iload_n 1, 1) := by decide +kernel
theorem dX12_in_2 : decode cX12_in 2 = .ok (.if_icmp .lt 12, 3) := by decide +kernel
theorem dX12_in_5 : decode cX12_in 5 = .ok (.iload_n 0, 1) := by decide +kernel
theorem dX12_in_6 : decode cX12_in 6 = .ok (.iload_n 2, 1) := by decide +kernel
theorem dX12_in_7 : decode cX12_in 7 = .ok (.if_icmp .gt 7, 3) := by decide +kernel
theorem dX12_in_10 : decode cX12_in 10 = .ok (.iconst 1, 1) := by decide +kernel
theorem dX12_in_11 : decode cX12_in 11 = .ok (.goto 4, 3) := by decide +kernel
theorem dX12_in_14 : decode cX12_in 14 = .ok (.iconst 0, 1) := by decide +kernel
theorem dX12_in_15 : decode cX12_in 15 = .ok (.ireturn, 1) := by decide +kernel
theorem dX12_begin_0 : decode cX12_begin 0 = .ok (.aload_n 0, 1) := by decide +kernel
theorem dX12_begin_1 : decode cX12_begin 1 = .ok (.aload_n 0, 1) := by decide +kernel
theorem dX12_begin_2 : decode cX12_begin 2 = .ok (.getfield 770, 3) := by decide +kernel
theorem dX12_begin_5 : decode cX12_begin 5 = .ok (.ifCond .eq 7, 3) := by decide +kernel
theorem dX12_begin_8 : decode cX12_begin 8 = .ok (.iconst 0, 1) := by decide +kernel
theorem dX12_begin_9 : decode cX12_begin 9 = .ok (.goto 4, 3) := by decide +kernel
theorem dX12_begin_12 : decode cX12_begin 12 = .ok (.iconst 1, 1) := by decide +kernel
theorem dX12_begin_13 : decode cX12_begin 13 = .ok (.putfield 289, 3) := by decide +kernel
theorem dX12_begin_16 : decode cX12_begin 16 = .ok (.aload_n 0, 1) := by decide +kernel
theorem dX12_begin_17 : decode cX12_begin 17 = .ok (.getfield 289, 3) := by decide +kernel
theorem dX12_begin_20 : decode cX12_begin 20 = .ok (.ifCond .le 4, 3) := by decide +kernel
theorem dX12_begin_23 : decode cX12_begin 23 = .ok (.return_, 1) := by decide +kernel
theorem dX12_begin_24 : decode cX12_begin 24 = .ok (.aload_n 0, 1) := by decide +kernel
theorem dX12_begin_25 : decode cX12_begin 25 = .ok (.iconst 1, 1) := by decide +kernel
theorem dX12_begin_26 : decode cX12_begin 26 = .ok (.putfield 773, 3) := by decide +kernel
theorem dX12_begin_29 : decode cX12_begin 29 = .ok (.aload_n 0, 1) := by decide +kernel
theorem dX12_begin_30 : decode cX12_begin 30 = .ok (.iconst 0, 1) := by decide +kernel
theorem dX12_begin_31 : decode cX12_begin 31 = .ok (.putfield 861, 3) := by decide +kernel
theorem dX12_begin_34 : decode cX12_begin 34 = .ok (.aload_n 0, 1) := by decide +kernel
theorem dX12_begin_35 : decode cX12_begin 35 = .ok (.iconst 0, 1) := by decide +kernel
theorem dX12_begin_36 : decode cX12_begin 36 = .ok (.putfield 794, 3) := by decide +kernel
theorem dX12_begin_39 : decode cX12_begin 39 = .ok (.aload_n 0, 1) := by decide +kernel
theorem dX12_begin_40 : decode cX12_begin 40 = .ok (.aload_n 0, 1) := by decide +kernel
theorem dX12_begin_41 : decode cX12_begin 41 = .ok (.getfield 762, 3) := by decide +kernel
theorem dX12_begin_44 : decode cX12_begin 44 = .ok (.putfield 296, 3) := by decide +kernel
theorem dX12_begin_47 : decode cX12_begin 47 = .ok (.aload_n 0, 1) := by decide +kernel
theorem dX12_begin_48 : decode cX12_begin 48 = .ok (.iconst 0, 1) := by decide +kernel
theorem dX12_begin_49 : decode cX12_begin 49 = .ok (.putfield 843, 3) := by decide +kernel
theorem dX12_begin_52 : decode cX12_begin 52 = .ok (.aload_n 0, 1) := by decide +kernel
theorem dX12_begin_53 : decode cX12_begin 53 = .ok (.iconst 0, 1) := by decide +kernel
theorem dX12_begin_54 : decode cX12_begin 54 = .ok (.putfield 849, 3) := by decide +kernel
theorem dX12_begin_57 : decode cX12_begin 57 = .ok (.aload_n 0, 1) := by decide +kernel
theorem dX12_begin_58 : decode cX12_begin 58 = .ok (.iconst 0, 1) := by decide +kernel
theorem dX12_begin_59 : decode cX12_begin 59 = .ok (.putfield 855, 3) := by decide +kernel
theorem dX12_begin_62 : decode cX12_begin 62 = .ok (.aload_n 0, 1) := by decide +kernel
theorem dX12_begin_63 : decode cX12_begin 63 = .ok (.iconst 0, 1) := by decide +kernel
theorem dX12_begin_64 : decode cX12_begin 64 = .ok (.putfield 852, 3) := by decide +kernel
theorem dX12_begin_67 : decode cX12_begin 67 = .ok (.iconst 0, 1) := by decide +kernel
theorem dX12_begin_68 : decode cX12_begin 68 = .ok (.istore_n 1, 1) := by decide +kernel
theorem dX12_begin_69 : decode cX12_begin 69 = .ok (.iload_n 1, 1) := by decide +kernel
theorem dX12_begin_70 : decode cX12_begin 70 = .ok (.sipush 3000, 3) := by decide +kernel
theorem dX12_begin_73 : decode cX12_begin 73 = .ok (.if_icmp .ge 18, 3) := by decide +kernel
theorem dX12_begin_76 : decode cX12_begin 76 = .ok (.aload_n 0, 1) := by decide +kernel
theorem dX12_begin_77 : decode cX12_begin 77 = .ok (.getfield 167, 3) := by decide +kernel
theorem dX12_begin_80 : decode cX12_begin 80 = .ok (.iload_n 1, 1) := by decide +kernel
theorem dX12_begin_81 : decode cX12_begin 81 = .ok (.iload_n 1, 1) := by decide +kernel
theorem dX12_begin_82 : decode cX12_begin 82 = .ok (.iconst 1, 1) := by decide +kernel
theorem dX12_begin_83 : decode cX12_begin 83 = .ok (.iadd, 1) := by decide +kernel
theorem dX12_begin_84 : decode cX12_begin 84 = .ok (.iastore, 1) := by decide +kernel
theorem dX12_begin_85 : decode cX12_begin 85 = .ok (.iinc 1 1, 3) := by decide +kernel
theorem dX12_begin_88 : decode cX12_begin 88 = .ok (.goto (-19), 3) := by decide +kernel
theorem dX12_begin_91 : decode cX12_begin 91 = .ok (.aload_n 0, 1) := by decide +kernel
theorem dX12_begin_92 : decode cX12_begin 92 = .ok (.iconst 0, 1) := by decide +kernel
theorem dX12_begin_93 : decode cX12_begin 93 = .ok (.putfield 864, 3) := by decide +kernel
theorem dX12_begin_96 : decode cX12_begin 96 = .ok (.aload_n 0, 1) := by decide +kernel
theorem dX12_begin_97 : decode cX12_begin 97 = .ok (.iconst 0, 1) := by decide +kernel
theorem dX12_begin_98 : decode cX12_begin 98 = .ok (.iconst 1, 1) := by decide +kernel
theorem dX12_begin_99 : decode cX12_begin 99 = .ok (.iconst 0, 1) := by decide +kernel
theorem dX12_begin_100 : decode cX12_begin 100 = .ok (.invokevirtual 867, 3) := by decide +kernel
theorem dX12_begin_103 : decode cX12_begin 103 = .ok (.aload_n 0, 1) := by decide +kernel
theorem dX12_begin_104 : decode cX12_begin 104 = .ok (.iconst 1, 1) := by decide +kernel
theorem dX12_begin_105 : decode cX12_begin 105 = .ok (.iconst (-1), 1) := by decide +kernel
theorem dX12_begin_106 : decode cX12_begin 106 = .ok (.iconst 0, 1) := by decide +kernel
theorem dX12_begin_107 : decode cX12_begin 107 = .ok (.invokevirtual 867, 3) := by decide +kernel
theorem dX12_begin_110 : decode cX12_begin 110 = .ok (.aload_n 0, 1) := by decide +kernel
theorem dX12_begin_111 : decode cX12_begin 111 = .ok (.iconst 2, 1) := by decide +kernel
theorem dX12_begin_112 : decode cX12_begin 112 = .ok (.iconst 1, 1) := by decide +kernel
theorem dX12_begin_113 : decode cX12_begin 113 = .ok (.iconst 0, 1) := by decide +kernel
theorem dX12_begin_114 : decode cX12_begin 114 = .ok (.invokevirtual 867, 3) := by decide +kernel
theorem dX12_begin_117 : decode cX12_begin 117 = .ok (.aload_n 0, 1) := by decide +kernel
theorem dX12_begin_118 : decode cX12_begin 118 = .ok (.iconst 3, 1) := by decide +kernel
theorem dX12_begin_119 : decode cX12_begin 119 = .ok (.iconst 1, 1) := by decide +kernel
theorem dX12_begin_120 : decode cX12_begin 120 = .ok (.iconst 0, 1) := by decide +kernel
theorem dX12_begin_121 : decode cX12_begin 121 = .ok (.invokevirtual 867, 3) := by decide +kernel
theorem dX12_begin_124 : decode cX12_begin 124 = .ok (.aload_n 0, 1) := by decide +kernel
theorem dX12_begin_125 : decode cX12_begin 125 = .ok (.iconst 4, 1) := by decide +kernel
theorem dX12_begin_126 : decode cX12_begin 126 = .ok (.iconst 1, 1) := by decide +kernel
theorem dX12_begin_127 : decode cX12_begin 127 = .ok (.iconst 0, 1) := by decide +kernel
theorem dX12_begin_128 : decode cX12_begin 128 = .ok (.invokevirtual 867, 3) := by decide +kernel
theorem dX12_begin_131 : decode cX12_begin 131 = .ok (.aload_n 0, 1) := by decide +kernel
theorem dX12_begin_132 : decode cX12_begin 132 = .ok (.iconst 5, 1) := by decide +kernel
theorem dX12_begin_133 : decode cX12_begin 133 = .ok (.iconst 1, 1) := by decide +kernel
theorem dX12_begin_134 : decode cX12_begin 134 = .ok (.iconst 0, 1) := by decide +kernel
theorem dX12_begin_135 : decode cX12_begin 135 = .ok (.invokevirtual 867, 3) := by decide +kernel
theorem dX12_begin_138 : decode cX12_begin 138 = .ok (.bipush 6, 2) := by decide +kernel
theorem dX12_begin_140 : decode cX12_begin 140 = .ok (.istore_n 1, 1) := by decide +kernel
theorem dX12_begin_141 : decode cX12_begin 141 = .ok (.iload_n 1, 1) := by decide +kernel
theorem dX12_begin_142 : decode cX12_begin 142 = .ok (.bipush 9, 2) := by decide +kernel
theorem dX12_begin_144 : decode cX12_begin 144 = .ok (.if_icmp .ge 16, 3) := by decide +kernel
theorem dX12_begin_147 : decode cX12_begin 147 = .ok (.aload_n 0, 1) := by decide +kernel
theorem dX12_begin_148 : decode cX12_begin 148 = .ok (.iload_n 1, 1) := by decide +kernel
theorem dX12_begin_149 : decode cX12_begin 149 = .ok (.iconst 5, 1) := by decide +kernel
theorem dX12_begin_150 : decode cX12_begin 150 = .ok (.iconst 0, 1) := by decide +kernel
theorem dX12_begin_151 : decode cX12_begin 151 = .ok (.invokevirtual 867, 3) := by decide +kernel
theorem dX12_begin_154 : decode cX12_begin 154 = .ok (.iinc 1 1, 3) := by decide +kernel
theorem dX12_begin_157 : decode cX12_begin 157 = .ok (.goto (-16), 3) := by decide +kernel
theorem dX12_begin_160 : decode cX12_begin 160 = .ok (.bipush 9, 2) := by decide +kernel
theorem dX12_begin_162 : decode cX12_begin 162 = .ok (.istore_n 1, 1) := by decide +kernel
theorem dX12_begin_163 : decode cX12_begin 163 = .ok (.iload_n 1, 1) := by decide +kernel
theorem dX12_begin_164 : decode cX12_begin 164 = .ok (.bipush 23, 2) := by decide +kernel
theorem dX12_begin_166 : decode cX12_begin 166 = .ok (.if_icmp .ge 16, 3) := by decide +kernel
theorem dX12_begin_169 : decode cX12_begin 169 = .ok (.aload_n 0, 1) := by decide +kernel
theorem dX12_begin_170 : decode cX12_begin 170 = .ok (.iload_n 1, 1) := by decide +kernel
theorem dX12_begin_171 : decode cX12_begin 171 = .ok (.iconst 2, 1) := by decide +kernel
theorem dX12_begin_172 : decode cX12_begin 172 = .ok (.iconst 1, 1) := by decide +kernel
theorem dX12_begin_173 : decode cX12_begin 173 = .ok (.invokevirtual 867, 3) := by decide +kernel
theorem dX12_begin_176 : decode cX12_begin 176 = .ok (.iinc 1 1, 3) := by decide +kernel
theorem dX12_begin_179 : decode cX12_begin 179 = .ok (.goto (-16), 3) := by decide +kernel
theorem dX12_begin_182 : decode cX12_begin 182 = .ok (.iconst 0, 1) := by decide +kernel
theorem dX12_begin_183 : decode cX12_begin 183 = .ok (.istore_n 1, 1) := by decide +kernel
theorem dX12_begin_184 : decode cX12_begin 184 = .ok (.iload_n 1, 1) := by decide +kernel
theorem dX12_begin_185 : decode cX12_begin 185 = .ok (.bipush 9, 2) := by decide +kernel
theorem dX12_begin_187 : decode cX12_begin 187 = .ok (.if_icmp .ge 23, 3) := by decide +kernel
theorem dX12_begin_190 : decode cX12_begin 190 = .ok (.aload_n 0, 1) := by decide +kernel
theorem dX12_begin_191 : decode cX12_begin 191 = .ok (.iconst 0, 1) := by decide +kernel
theorem dX12_begin_192 : decode cX12_begin 192 = .ok (.iconst 5, 1) := by decide +kernel
theorem dX12_begin_193 : decode cX12_begin 193 = .ok (.iload_n 1, 1) := by decide +kernel
theorem dX12_begin_194 : decode cX12_begin 194 = .ok (.iadd, 1) := by decide +kernel
theorem dX12_begin_195 : decode cX12_begin 195 = .ok (.bipush 7, 2) := by decide +kernel
theorem dX12_begin_197 : decode cX12_begin 197 = .ok (.bipush 9, 2) := by decide +kernel
theorem dX12_begin_199 : decode cX12_begin 199 = .ok (.iload_n 1, 1) := by decide +kernel
theorem dX12_begin_200 : decode cX12_begin 200 = .ok (.iadd, 1) := by decide +kernel
theorem dX12_begin_201 : decode cX12_begin 201 = .ok (.invokevirtual 870, 3) := by decide +kernel
theorem dX12_begin_204 : decode cX12_begin 204 = .ok (.iinc 1 1, 3) := by decide +kernel
theorem dX12_begin_207 : decode cX12_begin 207 = .ok (.goto (-23), 3) := by decide +kernel
theorem dX12_begin_210 : decode cX12_begin 210 = .ok (.aload_n 0, 1) := by decide +kernel
theorem dX12_begin_211 : decode cX12_begin 211 = .ok (.iconst 1, 1) := by decide +kernel
theorem dX12_begin_212 : decode cX12_begin 212 = .ok (.iconst 2, 1) := by decide +kernel
theorem dX12_begin_213 : decode cX12_begin 213 = .ok (.bipush 7, 2) := by decide +kernel
theorem dX12_begin_215 : decode cX12_begin 215 = .ok (.bipush 10, 2) := by decide +kernel
theorem dX12_begin_217 : decode cX12_begin 217 = .ok (.invokevirtual 870, 3) := by decide +kernel
theorem dX12_begin_220 : decode cX12_begin 220 = .ok (.aload_n 0, 1) := by decide +kernel
theorem dX12_begin_221 : decode cX12_begin 221 = .ok (.iconst 1, 1) := by decide +kernel
theorem dX12_begin_222 : decode cX12_begin 222 = .ok (.bipush 17, 2) := by decide +kernel
theorem dX12_begin_224 : decode cX12_begin 224 = .ok (.bipush 7, 2) := by decide +kernel
theorem dX12_begin_226 : decode cX12_begin 226 = .ok (.bipush 21, 2) := by decide +kernel
theorem dX12_begin_228 : decode cX12_begin 228 = .ok (.invokevirtual 870, 3) := by decide +kernel
theorem dX12_begin_231 : decode cX12_begin 231 = .ok (.aload_n 0, 1) := by decide +kernel
theorem dX12_begin_232 : decode cX12_begin 232 = .ok (.iconst 2, 1) := by decide +kernel
theorem dX12_begin_233 : decode cX12_begin 233 = .ok (.bipush 16, 2) := by decide +kernel
theorem dX12_begin_235 : decode cX12_begin 235 = .ok (.bipush 7, 2) := by decide +kernel
theorem dX12_begin_237 : decode cX12_begin 237 = .ok (.bipush 20, 2) := by decide +kernel
theorem dX12_begin_239 : decode cX12_begin 239 = .ok (.invokevirtual 870, 3) := by decide +kernel
theorem dX12_begin_242 : decode cX12_begin 242 = .ok (.aload_n 0, 1) := by decide +kernel
theorem dX12_begin_243 : decode cX12_begin 243 = .ok (.iconst 3, 1) := by decide +kernel
theorem dX12_begin_244 : decode cX12_begin 244 = .ok (.iconst 2, 1) := by decide +kernel
theorem dX12_begin_245 : decode cX12_begin 245 = .ok (.bipush 7, 2) := by decide +kernel
theorem dX12_begin_247 : decode cX12_begin 247 = .ok (.bipush 11, 2) := by decide +kernel
theorem dX12_begin_249 : decode cX12_begin 249 = .ok (.invokevirtual 870, 3) := by decide +kernel
theorem dX12_begin_252 : decode cX12_begin 252 = .ok (.aload_n 0, 1) := by decide +kernel
theorem dX12_begin_253 : decode cX12_begin 253 = .ok (.iconst 3, 1) := by decide +kernel
theorem dX12_begin_254 : decode cX12_begin 254 = .ok (.bipush 14, 2) := by decide +kernel
theorem dX12_begin_256 : decode cX12_begin 256 = .ok (.bipush 7, 2) := by decide +kernel
theorem dX12_begin_258 : decode cX12_begin 258 = .ok (.bipush 18, 2) := by decide +kernel
theorem dX12_begin_260 : decode cX12_begin 260 = .ok (.invokevirtual 870, 3) := by decide +kernel
theorem dX12_begin_263 : decode cX12_begin 263 = .ok (.aload_n 0, 1) := by decide +kernel
theorem dX12_begin_264 : decode cX12_begin 264 = .ok (.iconst 3, 1) := by decide +kernel
theorem dX12_begin_265 : decode cX12_begin 265 = .ok (.bipush 15, 2) := by decide +kernel
theorem dX12_begin_267 : decode cX12_begin 267 = .ok (.bipush 7, 2) := by decide +kernel
theorem dX12_begin_269 : decode cX12_begin 269 = .ok (.bipush 19, 2) := by decide +kernel
theorem dX12_begin_271 : decode cX12_begin 271 = .ok (.invokevirtual 870, 3) := by decide +kernel
theorem dX12_begin_274 : decode cX12_begin 274 = .ok (.aload_n 0, 1) := by decide +kernel
theorem dX12_begin_275 : decode cX12_begin 275 = .ok (.iconst 4, 1) := by decide +kernel
theorem dX12_begin_276 : decode cX12_begin 276 = .ok (.iconst 2, 1) := by decide +kernel
theorem dX12_begin_277 : decode cX12_begin 277 = .ok (.bipush 7, 2) := by decide +kernel
theorem dX12_begin_279 : decode cX12_begin 279 = .ok (.bipush 12, 2) := by decide +kernel
theorem dX12_begin_281 : decode cX12_begin 281 = .ok (.invokevirtual 870, 3) := by decide +kernel
theorem dX12_begin_284 : decode cX12_begin 284 = .ok (.aload_n 0, 1) := by decide +kernel
theorem dX12_begin_285 : decode cX12_begin 285 = .ok (.iconst 4, 1) := by decide +kernel
theorem dX12_begin_286 : decode cX12_begin 286 = .ok (.bipush 18, 2) := by decide +kernel
theorem dX12_begin_288 : decode cX12_begin 288 = .ok (.bipush 7, 2) := by decide +kernel
theorem dX12_begin_290 : decode cX12_begin 290 = .ok (.bipush 22, 2) := by decide +kernel
theorem dX12_begin_292 : decode cX12_begin 292 = .ok (.invokevirtual 870, 3) := by decide +kernel
theorem dX12_begin_295 : decode cX12_begin 295 = .ok (.iconst 0, 1) := by decide +kernel
theorem dX12_begin_296 : decode cX12_begin 296 = .ok (.istore_n 1, 1) := by decide +kernel
theorem dX12_begin_297 : decode cX12_begin 297 = .ok (.iload_n 1, 1) := by decide +kernel
theorem dX12_begin_298 : decode cX12_begin 298 = .ok (.iconst 4, 1) := by decide +kernel
theorem dX12_begin_299 : decode cX12_begin 299 = .ok (.if_icmp .ge 37, 3) := by decide +kernel
theorem dX12_begin_302 : decode cX12_begin 302 = .ok (.aload_n 0, 1) := by decide +kernel
theorem dX12_begin_303 : decode cX12_begin 303 = .ok (.iconst 5, 1) := by decide +kernel
theorem dX12_begin_304 : decode cX12_begin 304 = .ok (.iload_n 1, 1) := by decide +kernel
theorem dX12_begin_305 : decode cX12_begin 305 = .ok (.iadd, 1) := by decide +kernel
theorem dX12_begin_306 : decode cX12_begin 306 = .ok (.iconst 2, 1) := by decide +kernel
theorem dX12_begin_307 : decode cX12_begin 307 = .ok (.bipush 7, 2) := by decide +kernel
theorem dX12_begin_309 : decode cX12_begin 309 = .ok (.bipush 14, 2) := by decide +kernel
theorem dX12_begin_311 : decode cX12_begin 311 = .ok (.iload_n 1, 1) := by decide +kernel
theorem dX12_begin_312 : decode cX12_begin 312 = .ok (.iadd, 1) := by decide +kernel
theorem dX12_begin_313 : decode cX12_begin 313 = .ok (.invokevirtual 870, 3) := by decide +kernel
theorem dX12_begin_316 : decode cX12_begin 316 = .ok (.aload_n 0, 1) := by decide +kernel
theorem dX12_begin_317 : decode cX12_begin 317 = .ok (.iconst 5, 1) := by decide +kernel
theorem dX12_begin_318 : decode cX12_begin 318 = .ok (.iload_n 1, 1) := by decide +kernel
theorem dX12_begin_319 : decode cX12_begin 319 = .ok (.iadd, 1) := by decide +kernel
theorem dX12_begin_320 : decode cX12_begin 320 = .ok (.iconst 4, 1) := by decide +kernel
theorem dX12_begin_321 : decode cX12_begin 321 = .ok (.bipush 6, 2) := by decide +kernel
theorem dX12_begin_323 : decode cX12_begin 323 = .ok (.bipush 10, 2) := by decide +kernel
theorem dX12_begin_325 : decode cX12_begin 325 = .ok (.iload_n 1, 1) := by decide +kernel
theorem dX12_begin_326 : decode cX12_begin 326 = .ok (.iadd, 1) := by decide +kernel
theorem dX12_begin_327 : decode cX12_begin 327 = .ok (.invokevirtual 870, 3) := by decide +kernel
theorem dX12_begin_330 : decode cX12_begin 330 = .ok (.iinc 1 1, 3) := by decide +kernel
theorem dX12_begin_333 : decode cX12_begin 333 = .ok (.goto (-36), 3) := by decide +kernel
theorem dX12_begin_336 : decode cX12_begin 336 = .ok (.aload_n 0, 1) := by decide +kernel
theorem dX12_begin_337 : decode cX12_begin 337 = .ok (.bipush 10, 2) := by decide +kernel
theorem dX12_begin_339 : decode cX12_begin 339 = .ok (.iconst 1, 1) := by decide +kernel
theorem dX12_begin_340 : decode cX12_begin 340 = .ok (.bipush 7, 2) := by decide +kernel
theorem dX12_begin_342 : decode cX12_begin 342 = .ok (.iconst 1, 1) := by decide +kernel
theorem dX12_begin_343 : decode cX12_begin 343 = .ok (.invokevirtual 870, 3) := by decide +kernel
theorem dX12_begin_346 : decode cX12_begin 346 = .ok (.aload_n 0, 1) := by decide +kernel
theorem dX12_begin_347 : decode cX12_begin 347 = .ok (.bipush 11, 2) := by decide +kernel
theorem dX12_begin_349 : decode cX12_begin 349 = .ok (.iconst 1, 1) := by decide +kernel
theorem dX12_begin_350 : decode cX12_begin 350 = .ok (.bipush 7, 2) := by decide +kernel
theorem dX12_begin_352 : decode cX12_begin 352 = .ok (.iconst 3, 1) := by decide +kernel
theorem dX12_begin_353 : decode cX12_begin 353 = .ok (.invokevirtual 870, 3) := by decide +kernel
theorem dX12_begin_356 : decode cX12_begin 356 = .ok (.aload_n 0, 1) := by decide +kernel
theorem dX12_begin_357 : decode cX12_begin 357 = .ok (.bipush 12, 2) := by decide +kernel
theorem dX12_begin_359 : decode cX12_begin 359 = .ok (.iconst 1, 1) := by decide +kernel
theorem dX12_begin_360 : decode cX12_begin 360 = .ok (.bipush 7, 2) := by decide +kernel
theorem dX12_begin_362 : decode cX12_begin 362 = .ok (.iconst 4, 1) := by decide +kernel
theorem dX12_begin_363 : decode cX12_begin 363 = .ok (.invokevirtual 870, 3) := by decide +kernel
theorem dX12_begin_366 : decode cX12_begin 366 = .ok (.iconst 0, 1) := by decide +kernel
theorem dX12_begin_367 : decode cX12_begin 367 = .ok (.istore_n 1, 1) := by decide +kernel
theorem dX12_begin_368 : decode cX12_begin 368 = .ok (.iload_n 1, 1) := by decide +kernel
theorem dX12_begin_369 : decode cX12_begin 369 = .ok (.iconst 4, 1) := by decide +kernel
theorem dX12_begin_370 : decode cX12_begin 370 = .ok (.if_icmp .ge 23, 3) := by decide +kernel
theorem dX12_begin_373 : decode cX12_begin 373 = .ok (.aload_n 0, 1) := by decide +kernel
theorem dX12_begin_374 : decode cX12_begin 374 = .ok (.bipush 14, 2) := by decide +kernel
theorem dX12_begin_376 : decode cX12_begin 376 = .ok (.iload_n 1, 1) := by decide +kernel
theorem dX12_begin_377 : decode cX12_begin 377 = .ok (.iadd, 1) := by decide +kernel
theorem dX12_begin_378 : decode cX12_begin 378 = .ok (.iconst 1, 1) := by decide +kernel
theorem dX12_begin_379 : decode cX12_begin 379 = .ok (.bipush 7, 2) := by decide +kernel
theorem dX12_begin_381 : decode cX12_begin 381 = .ok (.iconst 5, 1) := by decide +kernel
theorem dX12_begin_382 : decode cX12_begin 382 = .ok (.iload_n 1, 1) := by decide +kernel
theorem dX12_begin_383 : decode cX12_begin 383 = .ok (.iadd, 1) := by decide +kernel
theorem dX12_begin_384 : decode cX12_begin 384 = .ok (.invokevirtual 870, 3) := by decide +kernel
theorem dX12_begin_387 : decode cX12_begin 387 = .ok (.iinc 1 1, 3) := by decide +kernel
theorem dX12_begin_390 : decode cX12_begin 390 = .ok (.goto (-22), 3) := by decide +kernel
theorem dX12_begin_393 : decode cX12_begin 393 = .ok (.aload_n 0, 1) := by decide +kernel
theorem dX12_begin_394 : decode cX12_begin 394 = .ok (.iconst 0, 1) := by decide +kernel
theorem dX12_begin_395 : decode cX12_begin 395 = .ok (.putfield 872, 3) := by decide +kernel
theorem dX12_begin_398 : decode cX12_begin 398 = .ok (.aload_n 0, 1) := by decide +kernel
theorem dX12_begin_399 : decode cX12_begin 399 = .ok (.iconst 0, 1) := by decide +kernel
theorem dX12_begin_400 : decode cX12_begin 400 = .ok (.iconst (-1), 1) := by decide +kernel
theorem dX12_begin_401 : decode cX12_begin 401 = .ok (.iconst 0, 1) := by decide +kernel
theorem dX12_begin_402 : decode cX12_begin 402 = .ok (.iconst 0, 1) := by decide +kernel
theorem dX12_begin_403 : decode cX12_begin 403 = .ok (.iconst (-1), 1) := by decide +kernel
theorem dX12_begin_404 : decode cX12_begin 404 = .ok (.invokevirtual 875, 3) := by decide +kernel
theorem dX12_begin_407 : decode cX12_begin 407 = .ok (.return_, 1) := by decide +kernel
theorem dX12_count_0 : decode cX12_count 0 = .ok (.aload_n 0, 1) := by decide +kernel
theorem dX12_count_1 : decode cX12_count 1 = .ok (.iconst 0, 1) := by decide +kernel
theorem dX12_count_2 : decode cX12_count 2 = .ok (.putfield 289, 3) := by decide +kernel
theorem dX12_count_5 : decode cX12_count 5 = .ok (.aload_n 0, 1) := by decide +kernel
theorem dX12_count_6 : decode cX12_count 6 = .ok (.getfield 773, 3) := by decide +kernel
theorem dX12_count_9 : decode cX12_count 9 = .ok (.ifCond .le 7, 3) := by decide +kernel
theorem dX12_count_12 : decode cX12_count 12 = .ok (.iconst 1, 1) := by decide +kernel
theorem dX12_count_13 : decode cX12_count 13 = .ok (.goto 4, 3) := by decide +kernel
theorem dX12_count_16 : decode cX12_count 16 = .ok (.iconst 0, 1) := by decide +kernel
theorem dX12_count_17 : decode cX12_count 17 = .ok (.istore_n 2, 1) := by decide +kernel
theorem dX12_count_18 : decode cX12_count 18 = .ok (.iload_n 1, 1) := by decide +kernel
theorem dX12_count_19 : decode cX12_count 19 = .ok (.tableswitch 236 0 12 #[65, 81, 97, 113, 129, 145, 150, 155, 168, 181, 194, 207, 220], 65) := by decide +kernel
theorem dX12_count_84 : decode cX12_count 84 = .ok (.aload_n 0, 1) := by decide +kernel
theorem dX12_count_85 : decode cX12_count 85 = .ok (.getfield 770, 3) := by decide +kernel
theorem dX12_count_88 : decode cX12_count 88 = .ok (.ifCond .eq 10, 3) := by decide +kernel
theorem dX12_count_91 : decode cX12_count 91 = .ok (.aload_n 0, 1) := by decide +kernel
theorem dX12_count_92 : decode cX12_count 92 = .ok (.getfield 606, 3) := by decide +kernel
theorem dX12_count_95 : decode cX12_count 95 = .ok (.goto 4, 3) := by decide +kernel
theorem dX12_count_98 : decode cX12_count 98 = .ok (.iconst 0, 1) := by decide +kernel
theorem dX12_count_99 : decode cX12_count 99 = .ok (.ireturn, 1) := by decide +kernel
theorem dX12_count_100 : decode cX12_count 100 = .ok (.aload_n 0, 1) := by decide +kernel
theorem dX12_count_101 : decode cX12_count 101 = .ok (.getfield 770, 3) := by decide +kernel
theorem dX12_count_104 : decode cX12_count 104 = .ok (.ifCond .eq 10, 3) := by decide +kernel
theorem dX12_count_107 : decode cX12_count 107 = .ok (.aload_n 0, 1) := by decide +kernel
theorem dX12_count_108 : decode cX12_count 108 = .ok (.getfield 527, 3) := by decide +kernel
theorem dX12_count_111 : decode cX12_count 111 = .ok (.goto 4, 3) := by decide +kernel
theorem dX12_count_114 : decode cX12_count 114 = .ok (.iconst 0, 1) := by decide +kernel
theorem dX12_count_115 : decode cX12_count 115 = .ok (.ireturn, 1) := by decide +kernel
theorem dX12_count_116 : decode cX12_count 116 = .ok (.aload_n 0, 1) := by decide +kernel
theorem dX12_count_117 : decode cX12_count 117 = .ok (.getfield 770, 3) := by decide +kernel
theorem dX12_count_120 : decode cX12_count 120 = .ok (.ifCond .eq 10, 3) := by decide +kernel
theorem dX12_count_123 : decode cX12_count 123 = .ok (.aload_n 0, 1) := by decide +kernel
theorem dX12_count_124 : decode cX12_count 124 = .ok (.getfield 762, 3) := by decide +kernel
theorem dX12_count_127 : decode cX12_count 127 = .ok (.goto 4, 3) := by decide +kernel
theorem dX12_count_130 : decode cX12_count 130 = .ok (.iconst 0, 1) := by decide +kernel
theorem dX12_count_131 : decode cX12_count 131 = .ok (.ireturn, 1) := by decide +kernel
theorem dX12_count_132 : decode cX12_count 132 = .ok (.aload_n 0, 1) := by decide +kernel
theorem dX12_count_133 : decode cX12_count 133 = .ok (.getfield 770, 3) := by decide +kernel
theorem dX12_count_136 : decode cX12_count 136 = .ok (.ifCond .eq 10, 3) := by decide +kernel
theorem dX12_count_139 : decode cX12_count 139 = .ok (.aload_n 0, 1) := by decide +kernel
theorem dX12_count_140 : decode cX12_count 140 = .ok (.getfield 765, 3) := by decide +kernel
theorem dX12_count_143 : decode cX12_count 143 = .ok (.goto 4, 3) := by decide +kernel
theorem dX12_count_146 : decode cX12_count 146 = .ok (.iconst 0, 1) := by decide +kernel
theorem dX12_count_147 : decode cX12_count 147 = .ok (.ireturn, 1) := by decide +kernel
theorem dX12_count_148 : decode cX12_count 148 = .ok (.aload_n 0, 1) := by decide +kernel
theorem dX12_count_149 : decode cX12_count 149 = .ok (.getfield 770, 3) := by decide +kernel
theorem dX12_count_152 : decode cX12_count 152 = .ok (.ifCond .eq 10, 3) := by decide +kernel
theorem dX12_count_155 : decode cX12_count 155 = .ok (.aload_n 0, 1) := by decide +kernel
theorem dX12_count_156 : decode cX12_count 156 = .ok (.getfield 689, 3) := by decide +kernel
theorem dX12_count_159 : decode cX12_count 159 = .ok (.goto 4, 3) := by decide +kernel
theorem dX12_count_162 : decode cX12_count 162 = .ok (.iconst 0, 1) := by decide +kernel
theorem dX12_count_163 : decode cX12_count 163 = .ok (.ireturn, 1) := by decide +kernel
theorem dX12_count_164 : decode cX12_count 164 = .ok (.aload_n 0, 1) := by decide +kernel
theorem dX12_count_165 : decode cX12_count 165 = .ok (.getfield 293, 3) := by decide +kernel
theorem dX12_count_168 : decode cX12_count 168 = .ok (.ireturn, 1) := by decide +kernel
theorem dX12_count_169 : decode cX12_count 169 = .ok (.aload_n 0, 1) := by decide +kernel
theorem dX12_count_170 : decode cX12_count 170 = .ok (.getfield 773, 3) := by decide +kernel
theorem dX12_count_173 : decode cX12_count 173 = .ok (.ireturn, 1) := by decide +kernel
theorem dX12_count_174 : decode cX12_count 174 = .ok (.iload_n 2, 1) := by decide +kernel
theorem dX12_count_175 : decode cX12_count 175 = .ok (.ifCond .eq 10, 3) := by decide +kernel
theorem dX12_count_178 : decode cX12_count 178 = .ok (.aload_n 0, 1) := by decide +kernel
theorem dX12_count_179 : decode cX12_count 179 = .ok (.getfield 861, 3) := by decide +kernel
theorem dX12_count_182 : decode cX12_count 182 = .ok (.goto 4, 3) := by decide +kernel
theorem dX12_count_185 : decode cX12_count 185 = .ok (.iconst 0, 1) := by decide +kernel
theorem dX12_count_186 : decode cX12_count 186 = .ok (.ireturn, 1) := by decide +kernel
theorem dX12_count_187 : decode cX12_count 187 = .ok (.iload_n 2, 1) := by decide +kernel
theorem dX12_count_188 : decode cX12_count 188 = .ok (.ifCond .eq 10, 3) := by decide +kernel
theorem dX12_count_191 : decode cX12_count 191 = .ok (.aload_n 0, 1) := by decide +kernel
theorem dX12_count_192 : decode cX12_count 192 = .ok (.getfield 843, 3) := by decide +kernel
theorem dX12_count_195 : decode cX12_count 195 = .ok (.goto 4, 3) := by decide +kernel
theorem dX12_count_198 : decode cX12_count 198 = .ok (.iconst 0, 1) := by decide +kernel
theorem dX12_count_199 : decode cX12_count 199 = .ok (.ireturn, 1) := by decide +kernel
theorem dX12_count_200 : decode cX12_count 200 = .ok (.iload_n 2, 1) := by decide +kernel
theorem dX12_count_201 : decode cX12_count 201 = .ok (.ifCond .eq 10, 3) := by decide +kernel
theorem dX12_count_204 : decode cX12_count 204 = .ok (.aload_n 0, 1) := by decide +kernel
theorem dX12_count_205 : decode cX12_count 205 = .ok (.getfield 296, 3) := by decide +kernel
theorem dX12_count_208 : decode cX12_count 208 = .ok (.goto 4, 3) := by decide +kernel
theorem dX12_count_211 : decode cX12_count 211 = .ok (.iconst 0, 1) := by decide +kernel
theorem dX12_count_212 : decode cX12_count 212 = .ok (.ireturn, 1) := by decide +kernel
theorem dX12_count_213 : decode cX12_count 213 = .ok (.iload_n 2, 1) := by decide +kernel
theorem dX12_count_214 : decode cX12_count 214 = .ok (.ifCond .eq 10, 3) := by decide +kernel
theorem dX12_count_217 : decode cX12_count 217 = .ok (.aload_n 0, 1) := by decide +kernel
theorem dX12_count_218 : decode cX12_count 218 = .ok (.getfield 864, 3) := by decide +kernel
theorem dX12_count_221 : decode cX12_count 221 = .ok (.goto 4, 3) := by decide +kernel
theorem dX12_count_224 : decode cX12_count 224 = .ok (.iconst 0, 1) := by decide +kernel
theorem dX12_count_225 : decode cX12_count 225 = .ok (.ireturn, 1) := by decide +kernel
theorem dX12_count_226 : decode cX12_count 226 = .ok (.iload_n 2, 1) := by decide +kernel
theorem dX12_count_227 : decode cX12_count 227 = .ok (.ifCond .eq 10, 3) := by decide +kernel
theorem dX12_count_230 : decode cX12_count 230 = .ok (.aload_n 0, 1) := by decide +kernel
theorem dX12_count_231 : decode cX12_count 231 = .ok (.getfield 872, 3) := by decide +kernel
theorem dX12_count_234 : decode cX12_count 234 = .ok (.goto 4, 3) := by decide +kernel
theorem dX12_count_237 : decode cX12_count 237 = .ok (.iconst 0, 1) := by decide +kernel
theorem dX12_count_238 : decode cX12_count 238 = .ok (.ireturn, 1) := by decide +kernel
theorem dX12_count_239 : decode cX12_count 239 = .ok (.aload_n 0, 1) := by decide +kernel
theorem dX12_count_240 : decode cX12_count 240 = .ok (.getfield 776, 3) := by decide +kernel
theorem dX12_count_243 : decode cX12_count 243 = .ok (.ifCond .eq 10, 3) := by decide +kernel
theorem dX12_count_246 : decode cX12_count 246 = .ok (.aload_n 0, 1) := by decide +kernel
theorem dX12_count_247 : decode cX12_count 247 = .ok (.getfield 1034, 3) := by decide +kernel
theorem dX12_count_250 : decode cX12_count 250 = .ok (.goto 4, 3) := by decide +kernel
theorem dX12_count_253 : decode cX12_count 253 = .ok (.iconst (-1), 1) := by decide +kernel
theorem dX12_count_254 : decode cX12_count 254 = .ok (.ireturn, 1) := by decide +kernel
theorem dX12_count_255 : decode cX12_count 255 = .ok (.iconst (-1), 1) := by decide +kernel
theorem dX12_count_256 : decode cX12_count 256 = .ok (.ireturn, 1) := by decide +kernel
theorem dX12_letter_0 : decode cX12_letter 0 = .ok (.aload_n 0, 1) := by decide +kernel
theorem dX12_letter_1 : decode cX12_letter 1 = .ok (.iconst 0, 1) := by decide +kernel
theorem dX12_letter_2 : decode cX12_letter 2 = .ok (.putfield 289, 3) := by decide +kernel
theorem dX12_letter_5 : decode cX12_letter 5 = .ok (.aload_n 0, 1) := by decide +kernel
theorem dX12_letter_6 : decode cX12_letter 6 = .ok (.getfield 770, 3) := by decide +kernel
theorem dX12_letter_9 : decode cX12_letter 9 = .ok (.ifCond .eq 47, 3) := by decide +kernel
theorem dX12_letter_12 : decode cX12_letter 12 = .ok (.iload_n 1, 1) := by decide +kernel
theorem dX12_letter_13 : decode cX12_letter 13 = .ok (.iconst 0, 1) := by decide +kernel
theorem dX12_letter_14 : decode cX12_letter 14 = .ok (.aload_n 0, 1) := by decide +kernel
theorem dX12_letter_15 : decode cX12_letter 15 = .ok (.getfield 296, 3) := by decide +kernel
theorem dX12_letter_18 : decode cX12_letter 18 = .ok (.iconst 1, 1) := by decide +kernel
theorem dX12_letter_19 : decode cX12_letter 19 = .ok (.isub, 1) := by decide +kernel
theorem dX12_letter_20 : decode cX12_letter 20 = .ok (.invokestatic 899, 3) := by decide +kernel
theorem dX12_letter_23 : decode cX12_letter 23 = .ok (.ifCond .eq 33, 3) := by decide +kernel
theorem dX12_letter_26 : decode cX12_letter 26 = .ok (.iload_n 2, 1) := by decide +kernel
theorem dX12_letter_27 : decode cX12_letter 27 = .ok (.iconst 0, 1) := by decide +kernel
theorem dX12_letter_28 : decode cX12_letter 28 = .ok (.aload_n 0, 1) := by decide +kernel
theorem dX12_letter_29 : decode cX12_letter 29 = .ok (.getfield 20, 3) := by decide +kernel
theorem dX12_letter_32 : decode cX12_letter 32 = .ok (.iload_n 1, 1) := by decide +kernel
theorem dX12_letter_33 : decode cX12_letter 33 = .ok (.iaload, 1) := by decide +kernel
theorem dX12_letter_34 : decode cX12_letter 34 = .ok (.iconst 1, 1) := by decide +kernel
theorem dX12_letter_35 : decode cX12_letter 35 = .ok (.isub, 1) := by decide +kernel
theorem dX12_letter_36 : decode cX12_letter 36 = .ok (.invokestatic 899, 3) := by decide +kernel
theorem dX12_letter_39 : decode cX12_letter 39 = .ok (.ifCond .eq 17, 3) := by decide +kernel
theorem dX12_letter_42 : decode cX12_letter 42 = .ok (.aload_n 0, 1) := by decide +kernel
theorem dX12_letter_43 : decode cX12_letter 43 = .ok (.getfield 16, 3) := by decide +kernel
theorem dX12_letter_46 : decode cX12_letter 46 = .ok (.bipush 60, 2) := by decide +kernel
theorem dX12_letter_48 : decode cX12_letter 48 = .ok (.iload_n 1, 1) := by decide +kernel
theorem dX12_letter_49 : decode cX12_letter 49 = .ok (.imul, 1) := by decide +kernel
theorem dX12_letter_50 : decode cX12_letter 50 = .ok (.iload_n 2, 1) := by decide +kernel
theorem dX12_letter_51 : decode cX12_letter 51 = .ok (.iadd, 1) := by decide +kernel
theorem dX12_letter_52 : decode cX12_letter 52 = .ok (.caload, 1) := by decide +kernel
theorem dX12_letter_53 : decode cX12_letter 53 = .ok (.goto 4, 3) := by decide +kernel
theorem dX12_letter_56 : decode cX12_letter 56 = .ok (.iconst (-1), 1) := by decide +kernel
theorem dX12_letter_57 : decode cX12_letter 57 = .ok (.ireturn, 1) := by decide +kernel
theorem dX12_instruction_0 : decode cX12_instruction 0 = .ok (.aload_n 0, 1) := by decide +kernel
theorem dX12_instruction_1 : decode cX12_instruction 1 = .ok (.iconst 0, 1) := by decide +kernel
theorem dX12_instruction_2 : decode cX12_instruction 2 = .ok (.putfield 289, 3) := by decide +kernel
theorem dX12_instruction_5 : decode cX12_instruction 5 = .ok (.aload_n 0, 1) := by decide +kernel
theorem dX12_instruction_6 : decode cX12_instruction 6 = .ok (.getfield 770, 3) := by decide +kernel
theorem dX12_instruction_9 : decode cX12_instruction 9 = .ok (.ifCond .eq 26, 3) := by decide +kernel
theorem dX12_instruction_12 : decode cX12_instruction 12 = .ok (.iload_n 1, 1) := by decide +kernel
theorem dX12_instruction_13 : decode cX12_instruction 13 = .ok (.iconst 0, 1) := by decide +kernel
theorem dX12_instruction_14 : decode cX12_instruction 14 = .ok (.aload_n 0, 1) := by decide +kernel
theorem dX12_instruction_15 : decode cX12_instruction 15 = .ok (.getfield 606, 3) := by decide +kernel
theorem dX12_instruction_18 : decode cX12_instruction 18 = .ok (.iconst 1, 1) := by decide +kernel
theorem dX12_instruction_19 : decode cX12_instruction 19 = .ok (.isub, 1) := by decide +kernel
theorem dX12_instruction_20 : decode cX12_instruction 20 = .ok (.invokestatic 899, 3) := by decide +kernel
theorem dX12_instruction_23 : decode cX12_instruction 23 = .ok (.ifCond .eq 12, 3) := by decide +kernel
theorem dX12_instruction_26 : decode cX12_instruction 26 = .ok (.iload_n 2, 1) := by decide +kernel
theorem dX12_instruction_27 : decode cX12_instruction 27 = .ok (.iconst 0, 1) := by decide +kernel
theorem dX12_instruction_28 : decode cX12_instruction 28 = .ok (.iconst 3, 1) := by decide +kernel
theorem dX12_instruction_29 : decode cX12_instruction 29 = .ok (.invokestatic 899, 3) := by decide +kernel
theorem dX12_instruction_32 : decode cX12_instruction 32 = .ok (.ifCond .ne 5, 3) := by decide +kernel
theorem dX12_instruction_35 : decode cX12_instruction 35 = .ok (.iconst (-1), 1) := by decide +kernel
theorem dX12_instruction_36 : decode cX12_instruction 36 = .ok (.ireturn, 1) := by decide +kernel
theorem dX12_instruction_37 : decode cX12_instruction 37 = .ok (.iload_n 2, 1) := by decide +kernel
theorem dX12_instruction_38 : decode cX12_instruction 38 = .ok (.ifCond .ne 12, 3) := by decide +kernel
theorem dX12_instruction_41 : decode cX12_instruction 41 = .ok (.aload_n 0, 1) := by decide +kernel
theorem dX12_instruction_42 : decode cX12_instruction 42 = .ok (.getfield 89, 3) := by decide +kernel
theorem dX12_instruction_45 : decode cX12_instruction 45 = .ok (.iload_n 1, 1) := by decide +kernel
theorem dX12_instruction_46 : decode cX12_instruction 46 = .ok (.iaload, 1) := by decide +kernel
theorem dX12_instruction_47 : decode cX12_instruction 47 = .ok (.goto 37, 3) := by decide +kernel
theorem dX12_instruction_50 : decode cX12_instruction 50 = .ok (.iload_n 2, 1) := by decide +kernel
theorem dX12_instruction_51 : decode cX12_instruction 51 = .ok (.iconst 1, 1) := by decide +kernel
theorem dX12_instruction_52 : decode cX12_instruction 52 = .ok (.if_icmp .ne 12, 3) := by decide +kernel
theorem dX12_instruction_55 : decode cX12_instruction 55 = .ok (.aload_n 0, 1) := by decide +kernel
theorem dX12_instruction_56 : decode cX12_instruction 56 = .ok (.getfield 92, 3) := by decide +kernel
theorem dX12_instruction_59 : decode cX12_instruction 59 = .ok (.iload_n 1, 1) := by decide +kernel
theorem dX12_instruction_60 : decode cX12_instruction 60 = .ok (.iaload, 1) := by decide +kernel
theorem dX12_instruction_61 : decode cX12_instruction 61 = .ok (.goto 23, 3) := by decide +kernel
theorem dX12_instruction_64 : decode cX12_instruction 64 = .ok (.iload_n 2, 1) := by decide +kernel
theorem dX12_instruction_65 : decode cX12_instruction 65 = .ok (.iconst 2, 1) := by decide +kernel
theorem dX12_instruction_66 : decode cX12_instruction 66 = .ok (.if_icmp .ne 12, 3) := by decide +kernel
theorem dX12_instruction_69 : decode cX12_instruction 69 = .ok (.aload_n 0, 1) := by decide +kernel
theorem dX12_instruction_70 : decode cX12_instruction 70 = .ok (.getfield 95, 3) := by decide +kernel
theorem dX12_instruction_73 : decode cX12_instruction 73 = .ok (.iload_n 1, 1) := by decide +kernel
theorem dX12_instruction_74 : decode cX12_instruction 74 = .ok (.iaload, 1) := by decide +kernel
theorem dX12_instruction_75 : decode cX12_instruction 75 = .ok (.goto 9, 3) := by decide +kernel
theorem dX12_instruction_78 : decode cX12_instruction 78 = .ok (.aload_n 0, 1) := by decide +kernel
theorem dX12_instruction_79 : decode cX12_instruction 79 = .ok (.getfield 98, 3) := by decide +kernel
theorem dX12_instruction_82 : decode cX12_instruction 82 = .ok (.iload_n 1, 1) := by decide +kernel
theorem dX12_instruction_83 : decode cX12_instruction 83 = .ok (.iaload, 1) := by decide +kernel
theorem dX12_instruction_84 : decode cX12_instruction 84 = .ok (.ireturn, 1) := by decide +kernel
theorem dX12_frame_0 : decode cX12_frame 0 = .ok (.aload_n 0, 1) := by decide +kernel
theorem dX12_frame_1 : decode cX12_frame 1 = .ok (.iconst 0, 1) := by decide +kernel
theorem dX12_frame_2 : decode cX12_frame 2 = .ok (.putfield 289, 3) := by decide +kernel
theorem dX12_frame_5 : decode cX12_frame 5 = .ok (.aload_n 0, 1) := by decide +kernel
theorem dX12_frame_6 : decode cX12_frame 6 = .ok (.getfield 773, 3) := by decide +kernel
theorem dX12_frame_9 : decode cX12_frame 9 = .ok (.ifCond .eq 17, 3) := by decide +kernel
theorem dX12_frame_12 : decode cX12_frame 12 = .ok (.iload_n 1, 1) := by decide +kernel
theorem dX12_frame_13 : decode cX12_frame 13 = .ok (.iconst 0, 1) := by decide +kernel
theorem dX12_frame_14 : decode cX12_frame 14 = .ok (.aload_n 0, 1) := by decide +kernel
theorem dX12_frame_15 : decode cX12_frame 15 = .ok (.getfield 872, 3) := by decide +kernel
theorem dX12_frame_18 : decode cX12_frame 18 = .ok (.iconst 1, 1) := by decide +kernel
theorem dX12_frame_19 : decode cX12_frame 19 = .ok (.isub, 1) := by decide +kernel
theorem dX12_frame_20 : decode cX12_frame 20 = .ok (.invokestatic 899, 3) := by decide +kernel
theorem dX12_frame_23 : decode cX12_frame 23 = .ok (.ifCond .ne 5, 3) := by decide +kernel
theorem dX12_frame_26 : decode cX12_frame 26 = .ok (.iconst (-1), 1) := by decide +kernel
theorem dX12_frame_27 : decode cX12_frame 27 = .ok (.ireturn, 1) := by decide +kernel
theorem dX12_frame_28 : decode cX12_frame 28 = .ok (.aload_n 0, 1) := by decide +kernel
theorem dX12_frame_29 : decode cX12_frame 29 = .ok (.getfield 872, 3) := by decide +kernel
theorem dX12_frame_32 : decode cX12_frame 32 = .ok (.iconst 1, 1) := by decide +kernel
theorem dX12_frame_33 : decode cX12_frame 33 = .ok (.isub, 1) := by decide +kernel
theorem dX12_frame_34 : decode cX12_frame 34 = .ok (.iload_n 1, 1) := by decide +kernel
theorem dX12_frame_35 : decode cX12_frame 35 = .ok (.isub, 1) := by decide +kernel
theorem dX12_frame_36 : decode cX12_frame 36 = .ok (.istore_n 3, 1) := by decide +kernel
theorem dX12_frame_37 : decode cX12_frame 37 = .ok (.iload_n 2, 1) := by decide +kernel
theorem dX12_frame_38 : decode cX12_frame 38 = .ok (.tableswitch 69 0 4 #[34, 41, 48, 55, 62], 34) := by decide +kernel
theorem dX12_frame_72 : decode cX12_frame 72 = .ok (.aload_n 0, 1) := by decide +kernel
theorem dX12_frame_73 : decode cX12_frame 73 = .ok (.getfield 170, 3) := by decide +kernel
theorem dX12_frame_76 : decode cX12_frame 76 = .ok (.iload_n 3, 1) := by decide +kernel
theorem dX12_frame_77 : decode cX12_frame 77 = .ok (.iaload, 1) := by decide +kernel
theorem dX12_frame_78 : decode cX12_frame 78 = .ok (.ireturn, 1) := by decide +kernel
theorem dX12_frame_79 : decode cX12_frame 79 = .ok (.aload_n 0, 1) := by decide +kernel
theorem dX12_frame_80 : decode cX12_frame 80 = .ok (.getfield 182, 3) := by decide +kernel
theorem dX12_frame_83 : decode cX12_frame 83 = .ok (.iload_n 3, 1) := by decide +kernel
theorem dX12_frame_84 : decode cX12_frame 84 = .ok (.iaload, 1) := by decide +kernel
theorem dX12_frame_85 : decode cX12_frame 85 = .ok (.ireturn, 1) := by decide +kernel
theorem dX12_frame_86 : decode cX12_frame 86 = .ok (.aload_n 0, 1) := by decide +kernel
theorem dX12_frame_87 : decode cX12_frame 87 = .ok (.getfield 185, 3) := by decide +kernel
theorem dX12_frame_90 : decode cX12_frame 90 = .ok (.iload_n 3, 1) := by decide +kernel
theorem dX12_frame_91 : decode cX12_frame 91 = .ok (.iaload, 1) := by decide +kernel
theorem dX12_frame_92 : decode cX12_frame 92 = .ok (.ireturn, 1) := by decide +kernel
theorem dX12_frame_93 : decode cX12_frame 93 = .ok (.aload_n 0, 1) := by decide +kernel
theorem dX12_frame_94 : decode cX12_frame 94 = .ok (.getfield 173, 3) := by decide +kernel
theorem dX12_frame_97 : decode cX12_frame 97 = .ok (.iload_n 3, 1) := by decide +kernel
theorem dX12_frame_98 : decode cX12_frame 98 = .ok (.iaload, 1) := by decide +kernel
theorem dX12_frame_99 : decode cX12_frame 99 = .ok (.ireturn, 1) := by decide +kernel
theorem dX12_frame_100 : decode cX12_frame 100 = .ok (.aload_n 0, 1) := by decide +kernel
theorem dX12_frame_101 : decode cX12_frame 101 = .ok (.getfield 191, 3) := by decide +kernel
theorem dX12_frame_104 : decode cX12_frame 104 = .ok (.iload_n 3, 1) := by decide +kernel
theorem dX12_frame_105 : decode cX12_frame 105 = .ok (.iaload, 1) := by decide +kernel
theorem dX12_frame_106 : decode cX12_frame 106 = .ok (.ireturn, 1) := by decide +kernel
theorem dX12_frame_107 : decode cX12_frame 107 = .ok (.iconst (-1), 1) := by decide +kernel
theorem dX12_frame_108 : decode cX12_frame 108 = .ok (.ireturn, 1) := by decide +kernel
theorem dX12_value__0 : decode cX12_value_ 0 = .ok (.aload_n 0, 1) := by decide +kernel
theorem dX12_value__1 : decode cX12_value_ 1 = .ok (.iconst 0, 1) := by decide +kernel
theorem dX12_value__2 : decode cX12_value_ 2 = .ok (.putfield 289, 3) := by decide +kernel
theorem dX12_value__5 : decode cX12_value_ 5 = .ok (.aload_n 0, 1) := by decide +kernel
theorem dX12_value__6 : decode cX12_value_ 6 = .ok (.getfield 773, 3) := by decide +kernel
theorem dX12_value__9 : decode cX12_value_ 9 = .ok (.ifCond .eq 17, 3) := by decide +kernel
theorem dX12_value__12 : decode cX12_value_ 12 = .ok (.iload_n 1, 1) := by decide +kernel
theorem dX12_value__13 : decode cX12_value_ 13 = .ok (.iconst 0, 1) := by decide +kernel
theorem dX12_value__14 : decode cX12_value_ 14 = .ok (.aload_n 0, 1) := by decide +kernel
theorem dX12_value__15 : decode cX12_value_ 15 = .ok (.getfield 872, 3) := by decide +kernel
theorem dX12_value__18 : decode cX12_value_ 18 = .ok (.iconst 1, 1) := by decide +kernel
theorem dX12_value__19 : decode cX12_value_ 19 = .ok (.isub, 1) := by decide +kernel
theorem dX12_value__20 : decode cX12_value_ 20 = .ok (.invokestatic 899, 3) := by decide +kernel
theorem dX12_value__23 : decode cX12_value_ 23 = .ok (.ifCond .ne 5, 3) := by decide +kernel
theorem dX12_value__26 : decode cX12_value_ 26 = .ok (.iconst (-1), 1) := by decide +kernel
theorem dX12_value__27 : decode cX12_value_ 27 = .ok (.ireturn, 1) := by decide +kernel
theorem dX12_value__28 : decode cX12_value_ 28 = .ok (.aload_n 0, 1) := by decide +kernel
theorem dX12_value__29 : decode cX12_value_ 29 = .ok (.getfield 872, 3) := by decide +kernel
theorem dX12_value__32 : decode cX12_value_ 32 = .ok (.iconst 1, 1) := by decide +kernel
theorem dX12_value__33 : decode cX12_value_ 33 = .ok (.isub, 1) := by decide +kernel
theorem dX12_value__34 : decode cX12_value_ 34 = .ok (.iload_n 1, 1) := by decide +kernel
theorem dX12_value__35 : decode cX12_value_ 35 = .ok (.isub, 1) := by decide +kernel
theorem dX12_value__36 : decode cX12_value_ 36 = .ok (.istore 4, 2) := by decide +kernel
theorem dX12_value__38 : decode cX12_value_ 38 = .ok (.iload_n 2, 1) := by decide +kernel
theorem dX12_value__39 : decode cX12_value_ 39 = .ok (.iconst (-1), 1) := by decide +kernel
theorem dX12_value__40 : decode cX12_value_ 40 = .ok (.if_icmp .ne 23, 3) := by decide +kernel
theorem dX12_value__43 : decode cX12_value_ 43 = .ok (.aload_n 0, 1) := by decide +kernel
theorem dX12_value__44 : decode cX12_value_ 44 = .ok (.aload_n 0, 1) := by decide +kernel
theorem dX12_value__45 : decode cX12_value_ 45 = .ok (.getfield 176, 3) := by decide +kernel
theorem dX12_value__48 : decode cX12_value_ 48 = .ok (.iload 4, 2) := by decide +kernel
theorem dX12_value__50 : decode cX12_value_ 50 = .ok (.iaload, 1) := by decide +kernel
theorem dX12_value__51 : decode cX12_value_ 51 = .ok (.aload_n 0, 1) := by decide +kernel
theorem dX12_value__52 : decode cX12_value_ 52 = .ok (.getfield 179, 3) := by decide +kernel
theorem dX12_value__55 : decode cX12_value_ 55 = .ok (.iload 4, 2) := by decide +kernel
theorem dX12_value__57 : decode cX12_value_ 57 = .ok (.iaload, 1) := by decide +kernel
theorem dX12_value__58 : decode cX12_value_ 58 = .ok (.iload_n 3, 1) := by decide +kernel
theorem dX12_value__59 : decode cX12_value_ 59 = .ok (.invokevirtual 1037, 3) := by decide +kernel
theorem dX12_value__62 : decode cX12_value_ 62 = .ok (.ireturn, 1) := by decide +kernel
theorem dX12_value__63 : decode cX12_value_ 63 = .ok (.iload_n 2, 1) := by decide +kernel
theorem dX12_value__64 : decode cX12_value_ 64 = .ok (.iconst 0, 1) := by decide +kernel
theorem dX12_value__65 : decode cX12_value_ 65 = .ok (.aload_n 0, 1) := by decide +kernel
theorem dX12_value__66 : decode cX12_value_ 66 = .ok (.getfield 185, 3) := by decide +kernel
theorem dX12_value__69 : decode cX12_value_ 69 = .ok (.iload 4, 2) := by decide +kernel
theorem dX12_value__71 : decode cX12_value_ 71 = .ok (.iaload, 1) := by decide +kernel
theorem dX12_value__72 : decode cX12_value_ 72 = .ok (.iconst 1, 1) := by decide +kernel
theorem dX12_value__73 : decode cX12_value_ 73 = .ok (.isub, 1) := by decide +kernel
theorem dX12_value__74 : decode cX12_value_ 74 = .ok (.invokestatic 899, 3) := by decide +kernel
theorem dX12_value__77 : decode cX12_value_ 77 = .ok (.ifCond .ne 5, 3) := by decide +kernel
theorem dX12_value__80 : decode cX12_value_ 80 = .ok (.iconst (-1), 1) := by decide +kernel
theorem dX12_value__81 : decode cX12_value_ 81 = .ok (.ireturn, 1) := by decide +kernel
theorem dX12_value__82 : decode cX12_value_ 82 = .ok (.sipush 400, 3) := by decide +kernel
theorem dX12_value__85 : decode cX12_value_ 85 = .ok (.iload 4, 2) := by decide +kernel
theorem dX12_value__87 : decode cX12_value_ 87 = .ok (.imul, 1) := by decide +kernel
theorem dX12_value__88 : decode cX12_value_ 88 = .ok (.iload_n 2, 1) := by decide +kernel
theorem dX12_value__89 : decode cX12_value_ 89 = .ok (.iadd, 1) := by decide +kernel
theorem dX12_value__90 : decode cX12_value_ 90 = .ok (.istore 5, 2) := by decide +kernel
theorem dX12_value__92 : decode cX12_value_ 92 = .ok (.aload_n 0, 1) := by decide +kernel
theorem dX12_value__93 : decode cX12_value_ 93 = .ok (.getfield 200, 3) := by decide +kernel
theorem dX12_value__96 : decode cX12_value_ 96 = .ok (.iload 5, 2) := by decide +kernel
theorem dX12_value__98 : decode cX12_value_ 98 = .ok (.iaload, 1) := by decide +kernel
theorem dX12_value__99 : decode cX12_value_ 99 = .ok (.bipush 8, 2) := by decide +kernel
theorem dX12_value__101 : decode cX12_value_ 101 = .ok (.if_icmp .ne 15, 3) := by decide +kernel
theorem dX12_value__104 : decode cX12_value_ 104 = .ok (.iload_n 3, 1) := by decide +kernel
theorem dX12_value__105 : decode cX12_value_ 105 = .ok (.iconst 1, 1) := by decide +kernel
theorem dX12_value__106 : decode cX12_value_ 106 = .ok (.if_icmp .ne 10, 3) := by decide +kernel
theorem dX12_value__109 : decode cX12_value_ 109 = .ok (.aload_n 0, 1) := by decide +kernel
theorem dX12_value__110 : decode cX12_value_ 110 = .ok (.iload 5, 2) := by decide +kernel
theorem dX12_value__112 : decode cX12_value_ 112 = .ok (.invokevirtual 1040, 3) := by decide +kernel
theorem dX12_value__115 : decode cX12_value_ 115 = .ok (.ireturn, 1) := by decide +kernel
theorem dX12_value__116 : decode cX12_value_ 116 = .ok (.aload_n 0, 1) := by decide +kernel
theorem dX12_value__117 : decode cX12_value_ 117 = .ok (.aload_n 0, 1) := by decide +kernel
theorem dX12_value__118 : decode cX12_value_ 118 = .ok (.getfield 200, 3) := by decide +kernel
theorem dX12_value__121 : decode cX12_value_ 121 = .ok (.iload 5, 2) := by decide +kernel
theorem dX12_value__123 : decode cX12_value_ 123 = .ok (.iaload, 1) := by decide +kernel
theorem dX12_value__124 : decode cX12_value_ 124 = .ok (.aload_n 0, 1) := by decide +kernel
theorem dX12_value__125 : decode cX12_value_ 125 = .ok (.getfield 203, 3) := by decide +kernel
theorem dX12_value__128 : decode cX12_value_ 128 = .ok (.iload 5, 2) := by decide +kernel
theorem dX12_value__130 : decode cX12_value_ 130 = .ok (.iaload, 1) := by decide +kernel
theorem dX12_value__131 : decode cX12_value_ 131 = .ok (.iload_n 3, 1) := by decide +kernel
theorem dX12_value__132 : decode cX12_value_ 132 = .ok (.invokevirtual 1037, 3) := by decide +kernel
theorem dX12_value__135 : decode cX12_value_ 135 = .ok (.ireturn, 1) := by decide +kernel
theorem dX12_object__0 : decode cX12_object_ 0 = .ok (.aload_n 0, 1) := by decide +kernel
theorem dX12_object__1 : decode cX12_object_ 1 = .ok (.iconst 0, 1) := by decide +kernel
theorem dX12_object__2 : decode cX12_object_ 2 = .ok (.putfield 289, 3) := by decide +kernel
theorem dX12_object__5 : decode cX12_object_ 5 = .ok (.aload_n 0, 1) := by decide +kernel
theorem dX12_object__6 : decode cX12_object_ 6 = .ok (.getfield 773, 3) := by decide +kernel
theorem dX12_object__9 : decode cX12_object_ 9 = .ok (.ifCond .eq 17, 3) := by decide +kernel
theorem dX12_object__12 : decode cX12_object_ 12 = .ok (.iload_n 1, 1) := by decide +kernel
theorem dX12_object__13 : decode cX12_object_ 13 = .ok (.iconst 0, 1) := by decide +kernel
theorem dX12_object__14 : decode cX12_object_ 14 = .ok (.aload_n 0, 1) := by decide +kernel
theorem dX12_object__15 : decode cX12_object_ 15 = .ok (.getfield 843, 3) := by decide +kernel
theorem dX12_object__18 : decode cX12_object_ 18 = .ok (.iconst 1, 1) := by decide +kernel
theorem dX12_object__19 : decode cX12_object_ 19 = .ok (.isub, 1) := by decide +kernel
theorem dX12_object__20 : decode cX12_object_ 20 = .ok (.invokestatic 899, 3) := by decide +kernel
theorem dX12_object__23 : decode cX12_object_ 23 = .ok (.ifCond .ne 5, 3) := by decide +kernel
theorem dX12_object__26 : decode cX12_object_ 26 = .ok (.iconst (-1), 1) := by decide +kernel
theorem dX12_object__27 : decode cX12_object_ 27 = .ok (.ireturn, 1) := by decide +kernel
theorem dX12_object__28 : decode cX12_object_ 28 = .ok (.iload_n 2, 1) := by decide +kernel
theorem dX12_object__29 : decode cX12_object_ 29 = .ok (.tableswitch 96 0 4 #[35, 42, 49, 56, 89], 35) := by decide +kernel
theorem dX12_object__64 : decode cX12_object_ 64 = .ok (.aload_n 0, 1) := by decide +kernel
theorem dX12_object__65 : decode cX12_object_ 65 = .ok (.getfield 134, 3) := by decide +kernel
theorem dX12_object__68 : decode cX12_object_ 68 = .ok (.iload_n 1, 1) := by decide +kernel
theorem dX12_object__69 : decode cX12_object_ 69 = .ok (.iaload, 1) := by decide +kernel
theorem dX12_object__70 : decode cX12_object_ 70 = .ok (.ireturn, 1) := by decide +kernel
theorem dX12_object__71 : decode cX12_object_ 71 = .ok (.aload_n 0, 1) := by decide +kernel
theorem dX12_object__72 : decode cX12_object_ 72 = .ok (.getfield 137, 3) := by decide +kernel
theorem dX12_object__75 : decode cX12_object_ 75 = .ok (.iload_n 1, 1) := by decide +kernel
theorem dX12_object__76 : decode cX12_object_ 76 = .ok (.iaload, 1) := by decide +kernel
theorem dX12_object__77 : decode cX12_object_ 77 = .ok (.ireturn, 1) := by decide +kernel
theorem dX12_object__78 : decode cX12_object_ 78 = .ok (.aload_n 0, 1) := by decide +kernel
theorem dX12_object__79 : decode cX12_object_ 79 = .ok (.getfield 140, 3) := by decide +kernel
theorem dX12_object__82 : decode cX12_object_ 82 = .ok (.iload_n 1, 1) := by decide +kernel
theorem dX12_object__83 : decode cX12_object_ 83 = .ok (.iaload, 1) := by decide +kernel
theorem dX12_object__84 : decode cX12_object_ 84 = .ok (.ireturn, 1) := by decide +kernel
theorem dX12_object__85 : decode cX12_object_ 85 = .ok (.iconst 0, 1) := by decide +kernel
theorem dX12_object__86 : decode cX12_object_ 86 = .ok (.istore_n 3, 1) := by decide +kernel
theorem dX12_object__87 : decode cX12_object_ 87 = .ok (.aload_n 0, 1) := by decide +kernel
theorem dX12_object__88 : decode cX12_object_ 88 = .ok (.getfield 149, 3) := by decide +kernel
theorem dX12_object__91 : decode cX12_object_ 91 = .ok (.iload_n 1, 1) := by decide +kernel
theorem dX12_object__92 : decode cX12_object_ 92 = .ok (.iaload, 1) := by decide +kernel
theorem dX12_object__93 : decode cX12_object_ 93 = .ok (.istore 4, 2) := by decide +kernel
theorem dX12_object__95 : decode cX12_object_ 95 = .ok (.iload 4, 2) := by decide +kernel
theorem dX12_object__97 : decode cX12_object_ 97 = .ok (.iconst (-1), 1) := by decide +kernel
theorem dX12_object__98 : decode cX12_object_ 98 = .ok (.if_icmp .eq 18, 3) := by decide +kernel
theorem dX12_object__101 : decode cX12_object_ 101 = .ok (.iinc 3 1, 3) := by decide +kernel
theorem dX12_object__104 : decode cX12_object_ 104 = .ok (.aload_n 0, 1) := by decide +kernel
theorem dX12_object__105 : decode cX12_object_ 105 = .ok (.getfield 167, 3) := by decide +kernel
theorem dX12_object__108 : decode cX12_object_ 108 = .ok (.iload 4, 2) := by decide +kernel
theorem dX12_object__110 : decode cX12_object_ 110 = .ok (.iaload, 1) := by decide +kernel
theorem dX12_object__111 : decode cX12_object_ 111 = .ok (.istore 4, 2) := by decide +kernel
theorem dX12_object__113 : decode cX12_object_ 113 = .ok (.goto (-18), 3) := by decide +kernel
theorem dX12_object__116 : decode cX12_object_ 116 = .ok (.iload_n 3, 1) := by decide +kernel
theorem dX12_object__117 : decode cX12_object_ 117 = .ok (.ireturn, 1) := by decide +kernel
theorem dX12_object__118 : decode cX12_object_ 118 = .ok (.aload_n 0, 1) := by decide +kernel
theorem dX12_object__119 : decode cX12_object_ 119 = .ok (.getfield 143, 3) := by decide +kernel
theorem dX12_object__122 : decode cX12_object_ 122 = .ok (.iload_n 1, 1) := by decide +kernel
theorem dX12_object__123 : decode cX12_object_ 123 = .ok (.iaload, 1) := by decide +kernel
theorem dX12_object__124 : decode cX12_object_ 124 = .ok (.ireturn, 1) := by decide +kernel
theorem dX12_object__125 : decode cX12_object_ 125 = .ok (.iconst (-1), 1) := by decide +kernel
theorem dX12_object__126 : decode cX12_object_ 126 = .ok (.ireturn, 1) := by decide +kernel
theorem dX12_property_0 : decode cX12_property 0 = .ok (.aload_n 0, 1) := by decide +kernel
theorem dX12_property_1 : decode cX12_property 1 = .ok (.iconst 0, 1) := by decide +kernel
theorem dX12_property_2 : decode cX12_property 2 = .ok (.putfield 289, 3) := by decide +kernel
theorem dX12_property_5 : decode cX12_property 5 = .ok (.aload_n 0, 1) := by decide +kernel
theorem dX12_property_6 : decode cX12_property 6 = .ok (.getfield 773, 3) := by decide +kernel
theorem dX12_property_9 : decode cX12_property 9 = .ok (.ifCond .eq 21, 3) := by decide +kernel
theorem dX12_property_12 : decode cX12_property 12 = .ok (.iload_n 1, 1) := by decide +kernel
theorem dX12_property_13 : decode cX12_property 13 = .ok (.iconst 0, 1) := by decide +kernel
theorem dX12_property_14 : decode cX12_property 14 = .ok (.aload_n 0, 1) := by decide +kernel
theorem dX12_property_15 : decode cX12_property 15 = .ok (.getfield 843, 3) := by decide +kernel
theorem dX12_property_18 : decode cX12_property 18 = .ok (.iconst 1, 1) := by decide +kernel
theorem dX12_property_19 : decode cX12_property 19 = .ok (.isub, 1) := by decide +kernel
theorem dX12_property_20 : decode cX12_property 20 = .ok (.invokestatic 899, 3) := by decide +kernel
theorem dX12_property_23 : decode cX12_property 23 = .ok (.ifCond .eq 7, 3) := by decide +kernel
theorem dX12_property_26 : decode cX12_property 26 = .ok (.iload_n 2, 1) := by decide +kernel
theorem dX12_property_27 : decode cX12_property 27 = .ok (.ifCond .ge 5, 3) := by decide +kernel
theorem dX12_property_30 : decode cX12_property 30 = .ok (.iconst (-1), 1) := by decide +kernel
theorem dX12_property_31 : decode cX12_property 31 = .ok (.ireturn, 1) := by decide +kernel
theorem dX12_property_32 : decode cX12_property 32 = .ok (.aload_n 0, 1) := by decide +kernel
theorem dX12_property_33 : decode cX12_property 33 = .ok (.getfield 149, 3) := by decide +kernel
theorem dX12_property_36 : decode cX12_property 36 = .ok (.iload_n 1, 1) := by decide +kernel
theorem dX12_property_37 : decode cX12_property 37 = .ok (.iaload, 1) := by decide +kernel
theorem dX12_property_38 : decode cX12_property 38 = .ok (.istore 4, 2) := by decide +kernel
theorem dX12_property_40 : decode cX12_property 40 = .ok (.iconst 0, 1) := by decide +kernel
theorem dX12_property_41 : decode cX12_property 41 = .ok (.istore 5, 2) := by decide +kernel
theorem dX12_property_43 : decode cX12_property 43 = .ok (.iload 5, 2) := by decide +kernel
theorem dX12_property_45 : decode cX12_property 45 = .ok (.iload_n 2, 1) := by decide +kernel
theorem dX12_property_46 : decode cX12_property 46 = .ok (.if_icmp .ge 24, 3) := by decide +kernel
theorem dX12_property_49 : decode cX12_property 49 = .ok (.iload 4, 2) := by decide +kernel
theorem dX12_property_51 : decode cX12_property 51 = .ok (.iconst (-1), 1) := by decide +kernel
theorem dX12_property_52 : decode cX12_property 52 = .ok (.if_icmp .eq 18, 3) := by decide +kernel
theorem dX12_property_55 : decode cX12_property 55 = .ok (.aload_n 0, 1) := by decide +kernel
theorem dX12_property_56 : decode cX12_property 56 = .ok (.getfield 167, 3) := by decide +kernel
theorem dX12_property_59 : decode cX12_property 59 = .ok (.iload 4, 2) := by decide +kernel
theorem dX12_property_61 : decode cX12_property 61 = .ok (.iaload, 1) := by decide +kernel
theorem dX12_property_62 : decode cX12_property 62 = .ok (.istore 4, 2) := by decide +kernel
theorem dX12_property_64 : decode cX12_property 64 = .ok (.iinc 5 1, 3) := by decide +kernel
theorem dX12_property_67 : decode cX12_property 67 = .ok (.goto (-24), 3) := by decide +kernel
theorem dX12_property_70 : decode cX12_property 70 = .ok (.iload 4, 2) := by decide +kernel
theorem dX12_property_72 : decode cX12_property 72 = .ok (.iconst (-1), 1) := by decide +kernel
theorem dX12_property_73 : decode cX12_property 73 = .ok (.if_icmp .ne 5, 3) := by decide +kernel
theorem dX12_property_76 : decode cX12_property 76 = .ok (.iconst (-1), 1) := by decide +kernel
theorem dX12_property_77 : decode cX12_property 77 = .ok (.ireturn, 1) := by decide +kernel
theorem dX12_property_78 : decode cX12_property 78 = .ok (.iload_n 3, 1) := by decide +kernel
theorem dX12_property_79 : decode cX12_property 79 = .ok (.ifCond .ne 13, 3) := by decide +kernel
theorem dX12_property_82 : decode cX12_property 82 = .ok (.aload_n 0, 1) := by decide +kernel
theorem dX12_property_83 : decode cX12_property 83 = .ok (.getfield 155, 3) := by decide +kernel
theorem dX12_property_86 : decode cX12_property 86 = .ok (.iload 4, 2) := by decide +kernel
theorem dX12_property_88 : decode cX12_property 88 = .ok (.iaload, 1) := by decide +kernel
theorem dX12_property_89 : decode cX12_property 89 = .ok (.goto 40, 3) := by decide +kernel
theorem dX12_property_92 : decode cX12_property 92 = .ok (.aload_n 0, 1) := by decide +kernel
theorem dX12_property_93 : decode cX12_property 93 = .ok (.aload_n 0, 1) := by decide +kernel
theorem dX12_property_94 : decode cX12_property 94 = .ok (.getfield 158, 3) := by decide +kernel
theorem dX12_property_97 : decode cX12_property 97 = .ok (.iload 4, 2) := by decide +kernel
theorem dX12_property_99 : decode cX12_property 99 = .ok (.iaload, 1) := by decide +kernel
theorem dX12_property_100 : decode cX12_property 100 = .ok (.aload_n 0, 1) := by decide +kernel
theorem dX12_property_101 : decode cX12_property 101 = .ok (.getfield 161, 3) := by decide +kernel
theorem dX12_property_104 : decode cX12_property 104 = .ok (.iload 4, 2) := by decide +kernel
theorem dX12_property_106 : decode cX12_property 106 = .ok (.iaload, 1) := by decide +kernel
theorem dX12_property_107 : decode cX12_property 107 = .ok (.iload_n 3, 1) := by decide +kernel
theorem dX12_property_108 : decode cX12_property 108 = .ok (.iconst 1, 1) := by decide +kernel
theorem dX12_property_109 : decode cX12_property 109 = .ok (.if_icmp .ne 7, 3) := by decide +kernel
theorem dX12_property_112 : decode cX12_property 112 = .ok (.iconst 0, 1) := by decide +kernel
theorem dX12_property_113 : decode cX12_property 113 = .ok (.goto 13, 3) := by decide +kernel
theorem dX12_property_116 : decode cX12_property 116 = .ok (.iload_n 3, 1) := by decide +kernel
theorem dX12_property_117 : decode cX12_property 117 = .ok (.iconst 2, 1) := by decide +kernel
theorem dX12_property_118 : decode cX12_property 118 = .ok (.if_icmp .ne 7, 3) := by decide +kernel
theorem dX12_property_121 : decode cX12_property 121 = .ok (.iconst 1, 1) := by decide +kernel
theorem dX12_property_122 : decode cX12_property 122 = .ok (.goto 4, 3) := by decide +kernel
theorem dX12_property_125 : decode cX12_property 125 = .ok (.iconst (-1), 1) := by decide +kernel
theorem dX12_property_126 : decode cX12_property 126 = .ok (.invokevirtual 1037, 3) := by decide +kernel
theorem dX12_property_129 : decode cX12_property 129 = .ok (.ireturn, 1) := by decide +kernel
theorem dX12_printed_0 : decode cX12_printed 0 = .ok (.aload_n 0, 1) := by decide +kernel
theorem dX12_printed_1 : decode cX12_printed 1 = .ok (.iconst 0, 1) := by decide +kernel
theorem dX12_printed_2 : decode cX12_printed 2 = .ok (.putfield 289, 3) := by decide +kernel
theorem dX12_printed_5 : decode cX12_printed 5 = .ok (.aload_n 0, 1) := by decide +kernel
theorem dX12_printed_6 : decode cX12_printed 6 = .ok (.getfield 773, 3) := by decide +kernel
theorem dX12_printed_9 : decode cX12_printed 9 = .ok (.ifCond .eq 17, 3) := by decide +kernel
theorem dX12_printed_12 : decode cX12_printed 12 = .ok (.iload_n 1, 1) := by decide +kernel
theorem dX12_printed_13 : decode cX12_printed 13 = .ok (.iconst 0, 1) := by decide +kernel
theorem dX12_printed_14 : decode cX12_printed 14 = .ok (.aload_n 0, 1) := by decide +kernel
theorem dX12_printed_15 : decode cX12_printed 15 = .ok (.getfield 864, 3) := by decide +kernel
theorem dX12_printed_18 : decode cX12_printed 18 = .ok (.iconst 1, 1) := by decide +kernel
theorem dX12_printed_19 : decode cX12_printed 19 = .ok (.isub, 1) := by decide +kernel
theorem dX12_printed_20 : decode cX12_printed 20 = .ok (.invokestatic 899, 3) := by decide +kernel
theorem dX12_printed_23 : decode cX12_printed 23 = .ok (.ifCond .ne 5, 3) := by decide +kernel
theorem dX12_printed_26 : decode cX12_printed 26 = .ok (.iconst (-1), 1) := by decide +kernel
theorem dX12_printed_27 : decode cX12_printed 27 = .ok (.ireturn, 1) := by decide +kernel
theorem dX12_printed_28 : decode cX12_printed 28 = .ok (.aload_n 0, 1) := by decide +kernel
theorem dX12_printed_29 : decode cX12_printed 29 = .ok (.getfield 212, 3) := by decide +kernel
theorem dX12_printed_32 : decode cX12_printed 32 = .ok (.iload_n 1, 1) := by decide +kernel
theorem dX12_printed_33 : decode cX12_printed 33 = .ok (.iaload, 1) := by decide +kernel
theorem dX12_printed_34 : decode cX12_printed 34 = .ok (.istore_n 3, 1) := by decide +kernel
theorem dX12_printed_35 : decode cX12_printed 35 = .ok (.iload_n 2, 1) := by decide +kernel
theorem dX12_printed_36 : decode cX12_printed 36 = .ok (.iconst (-1), 1) := by decide +kernel
theorem dX12_printed_37 : decode cX12_printed 37 = .ok (.if_icmp .ne 5, 3) := by decide +kernel
theorem dX12_printed_40 : decode cX12_printed 40 = .ok (.iload_n 3, 1) := by decide +kernel
theorem dX12_printed_41 : decode cX12_printed 41 = .ok (.ireturn, 1) := by decide +kernel
theorem dX12_printed_42 : decode cX12_printed 42 = .ok (.iload_n 2, 1) := by decide +kernel
theorem dX12_printed_43 : decode cX12_printed 43 = .ok (.iconst 0, 1) := by decide +kernel
theorem dX12_printed_44 : decode cX12_printed 44 = .ok (.aload_n 0, 1) := by decide +kernel
theorem dX12_printed_45 : decode cX12_printed 45 = .ok (.getfield 20, 3) := by decide +kernel
theorem dX12_printed_48 : decode cX12_printed 48 = .ok (.iload_n 3, 1) := by decide +kernel
theorem dX12_printed_49 : decode cX12_printed 49 = .ok (.iaload, 1) := by decide +kernel
theorem dX12_printed_50 : decode cX12_printed 50 = .ok (.iconst 1, 1) := by decide +kernel
theorem dX12_printed_51 : decode cX12_printed 51 = .ok (.isub, 1) := by decide +kernel
theorem dX12_printed_52 : decode cX12_printed 52 = .ok (.invokestatic 899, 3) := by decide +kernel
theorem dX12_printed_55 : decode cX12_printed 55 = .ok (.ifCond .eq 17, 3) := by decide +kernel
theorem dX12_printed_58 : decode cX12_printed 58 = .ok (.aload_n 0, 1) := by decide +kernel
theorem dX12_printed_59 : decode cX12_printed 59 = .ok (.getfield 16, 3) := by decide +kernel
theorem dX12_printed_62 : decode cX12_printed 62 = .ok (.bipush 60, 2) := by decide +kernel
theorem dX12_printed_64 : decode cX12_printed 64 = .ok (.iload_n 3, 1) := by decide +kernel
theorem dX12_printed_65 : decode cX12_printed 65 = .ok (.imul, 1) := by decide +kernel
theorem dX12_printed_66 : decode cX12_printed 66 = .ok (.iload_n 2, 1) := by decide +kernel
theorem dX12_printed_67 : decode cX12_printed 67 = .ok (.iadd, 1) := by decide +kernel
theorem dX12_printed_68 : decode cX12_printed 68 = .ok (.caload, 1) := by decide +kernel
theorem dX12_printed_69 : decode cX12_printed 69 = .ok (.goto 4, 3) := by decide +kernel
theorem dX12_printed_72 : decode cX12_printed 72 = .ok (.iconst (-1), 1) := by decide +kernel
theorem dX12_printed_73 : decode cX12_printed 73 = .ok (.ireturn, 1) := by decide +kernel
theorem dX12_uncaught_0 : decode cX12_uncaught 0 = .ok (.aload_n 0, 1) := by decide +kernel
theorem dX12_uncaught_1 : decode cX12_uncaught 1 = .ok (.iconst 0, 1) := by decide +kernel
theorem dX12_uncaught_2 : decode cX12_uncaught 2 = .ok (.putfield 289, 3) := by decide +kernel
theorem dX12_uncaught_5 : decode cX12_uncaught 5 = .ok (.aload_n 0, 1) := by decide +kernel
theorem dX12_uncaught_6 : decode cX12_uncaught 6 = .ok (.getfield 773, 3) := by decide +kernel
theorem dX12_uncaught_9 : decode cX12_uncaught 9 = .ok (.iconst 3, 1) := by decide +kernel
theorem dX12_uncaught_10 : decode cX12_uncaught 10 = .ok (.if_icmp .ne 19, 3) := by decide +kernel
theorem dX12_uncaught_13 : decode cX12_uncaught 13 = .ok (.aload_n 0, 1) := by decide +kernel
theorem dX12_uncaught_14 : decode cX12_uncaught 14 = .ok (.aload_n 0, 1) := by decide +kernel
theorem dX12_uncaught_15 : decode cX12_uncaught 15 = .ok (.getfield 891, 3) := by decide +kernel
theorem dX12_uncaught_18 : decode cX12_uncaught 18 = .ok (.aload_n 0, 1) := by decide +kernel
theorem dX12_uncaught_19 : decode cX12_uncaught 19 = .ok (.getfield 894, 3) := by decide +kernel
theorem dX12_uncaught_22 : decode cX12_uncaught 22 = .ok (.iload_n 1, 1) := by decide +kernel
theorem dX12_uncaught_23 : decode cX12_uncaught 23 = .ok (.invokevirtual 1037, 3) := by decide +kernel
theorem dX12_uncaught_26 : decode cX12_uncaught 26 = .ok (.goto 4, 3) := by decide +kernel
theorem dX12_uncaught_29 : decode cX12_uncaught 29 = .ok (.iconst (-1), 1) := by decide +kernel
theorem dX12_uncaught_30 : decode cX12_uncaught 30 = .ok (.ireturn, 1) := by decide +kernel
theorem dX12_solve_0 : decode cX12_solve 0 = .ok (.aload_n 0, 1) := by decide +kernel
theorem dX12_solve_1 : decode cX12_solve 1 = .ok (.aload_n 0, 1) := by decide +kernel
theorem dX12_solve_2 : decode cX12_solve 2 = .ok (.getfield 770, 3) := by decide +kernel
theorem dX12_solve_5 : decode cX12_solve 5 = .ok (.ifCond .eq 7, 3) := by decide +kernel
theorem dX12_solve_8 : decode cX12_solve 8 = .ok (.iconst 0, 1) := by decide +kernel
theorem dX12_solve_9 : decode cX12_solve 9 = .ok (.goto 4, 3) := by decide +kernel
theorem dX12_solve_12 : decode cX12_solve 12 = .ok (.iconst 1, 1) := by decide +kernel
theorem dX12_solve_13 : decode cX12_solve 13 = .ok (.putfield 289, 3) := by decide +kernel
theorem dX12_solve_16 : decode cX12_solve 16 = .ok (.aload_n 0, 1) := by decide +kernel
theorem dX12_solve_17 : decode cX12_solve 17 = .ok (.getfield 289, 3) := by decide +kernel
theorem dX12_solve_20 : decode cX12_solve 20 = .ok (.ifCond .le 5, 3) := by decide +kernel
theorem dX12_solve_23 : decode cX12_solve 23 = .ok (.iconst 0, 1) := by decide +kernel
theorem dX12_solve_24 : decode cX12_solve 24 = .ok (.ireturn, 1) := by decide +kernel
theorem dX12_solve_25 : decode cX12_solve 25 = .ok (.aload_n 0, 1) := by decide +kernel
theorem dX12_solve_26 : decode cX12_solve 26 = .ok (.getfield 776, 3) := by decide +kernel
theorem dX12_solve_29 : decode cX12_solve 29 = .ok (.ifCond .eq 8, 3) := by decide +kernel
theorem dX12_solve_32 : decode cX12_solve 32 = .ok (.aload_n 0, 1) := by decide +kernel
theorem dX12_solve_33 : decode cX12_solve 33 = .ok (.getfield 1034, 3) := by decide +kernel
theorem dX12_solve_36 : decode cX12_solve 36 = .ok (.ireturn, 1) := by decide +kernel
theorem dX12_solve_37 : decode cX12_solve 37 = .ok (.aload_n 0, 1) := by decide +kernel
theorem dX12_solve_38 : decode cX12_solve 38 = .ok (.invokevirtual 1373, 3) := by decide +kernel
theorem dX12_solve_41 : decode cX12_solve 41 = .ok (.aload_n 0, 1) := by decide +kernel
theorem dX12_solve_42 : decode cX12_solve 42 = .ok (.aload_n 0, 1) := by decide +kernel
theorem dX12_solve_43 : decode cX12_solve 43 = .ok (.getfield 606, 3) := by decide +kernel
theorem dX12_solve_46 : decode cX12_solve 46 = .ok (.iconst 2, 1) := by decide +kernel
theorem dX12_solve_47 : decode cX12_solve 47 = .ok (.aload_n 0, 1) := by decide +kernel
theorem dX12_solve_48 : decode cX12_solve 48 = .ok (.getfield 527, 3) := by decide +kernel
theorem dX12_solve_51 : decode cX12_solve 51 = .ok (.imul, 1) := by decide +kernel
theorem dX12_solve_52 : decode cX12_solve 52 = .ok (.iadd, 1) := by decide +kernel
theorem dX12_solve_53 : decode cX12_solve 53 = .ok (.putfield 1376, 3) := by decide +kernel
theorem dX12_solve_56 : decode cX12_solve 56 = .ok (.iconst 0, 1) := by decide +kernel
theorem dX12_solve_57 : decode cX12_solve 57 = .ok (.istore_n 1, 1) := by decide +kernel
theorem dX12_solve_58 : decode cX12_solve 58 = .ok (.iload_n 1, 1) := by decide +kernel
theorem dX12_solve_59 : decode cX12_solve 59 = .ok (.aload_n 0, 1) := by decide +kernel
theorem dX12_solve_60 : decode cX12_solve 60 = .ok (.getfield 1376, 3) := by decide +kernel
theorem dX12_solve_63 : decode cX12_solve 63 = .ok (.if_icmp .ge 23, 3) := by decide +kernel
theorem dX12_solve_66 : decode cX12_solve 66 = .ok (.aload_n 0, 1) := by decide +kernel
theorem dX12_solve_67 : decode cX12_solve 67 = .ok (.getfield 226, 3) := by decide +kernel
theorem dX12_solve_70 : decode cX12_solve 70 = .ok (.iload_n 1, 1) := by decide +kernel
theorem dX12_solve_71 : decode cX12_solve 71 = .ok (.iconst 0, 1) := by decide +kernel
theorem dX12_solve_72 : decode cX12_solve 72 = .ok (.bastore, 1) := by decide +kernel
theorem dX12_solve_73 : decode cX12_solve 73 = .ok (.aload_n 0, 1) := by decide +kernel
theorem dX12_solve_74 : decode cX12_solve 74 = .ok (.getfield 229, 3) := by decide +kernel
theorem dX12_solve_77 : decode cX12_solve 77 = .ok (.iload_n 1, 1) := by decide +kernel
theorem dX12_solve_78 : decode cX12_solve 78 = .ok (.iconst 0, 1) := by decide +kernel
theorem dX12_solve_79 : decode cX12_solve 79 = .ok (.bastore, 1) := by decide +kernel
theorem dX12_solve_80 : decode cX12_solve 80 = .ok (.iinc 1 1, 3) := by decide +kernel
theorem dX12_solve_83 : decode cX12_solve 83 = .ok (.goto (-25), 3) := by decide +kernel
theorem dX12_solve_86 : decode cX12_solve 86 = .ok (.aload_n 0, 1) := by decide +kernel
theorem dX12_solve_87 : decode cX12_solve 87 = .ok (.ldc_w 1379, 3) := by decide +kernel
theorem dX12_solve_90 : decode cX12_solve 90 = .ok (.putfield 1107, 3) := by decide +kernel
theorem dX12_solve_93 : decode cX12_solve 93 = .ok (.aload_n 0, 1) := by decide +kernel
theorem dX12_solve_94 : decode cX12_solve 94 = .ok (.getfield 238, 3) := by decide +kernel
theorem dX12_solve_97 : decode cX12_solve 97 = .ok (.sipush 639, 3) := by decide +kernel
theorem dX12_solve_100 : decode cX12_solve 100 = .ok (.ldc_w 1380, 3) := by decide +kernel
theorem dX12_solve_103 : decode cX12_solve 103 = .ok (.iastore, 1) := by decide +kernel
theorem dX12_solve_104 : decode cX12_solve 104 = .ok (.aload_n 0, 1) := by decide +kernel
theorem dX12_solve_105 : decode cX12_solve 105 = .ok (.invokevirtual 1381, 3) := by decide +kernel
theorem dX12_solve_108 : decode cX12_solve 108 = .ok (.aload_n 0, 1) := by decide +kernel
theorem dX12_solve_109 : decode cX12_solve 109 = .ok (.iconst 0, 1) := by decide +kernel
theorem dX12_solve_110 : decode cX12_solve 110 = .ok (.invokevirtual 1191, 3) := by decide +kernel
theorem dX12_solve_113 : decode cX12_solve 113 = .ok (.iconst 1, 1) := by decide +kernel
theorem dX12_solve_114 : decode cX12_solve 114 = .ok (.istore_n 1, 1) := by decide +kernel
theorem dX12_solve_115 : decode cX12_solve 115 = .ok (.iload_n 1, 1) := by decide +kernel
theorem dX12_solve_116 : decode cX12_solve 116 = .ok (.ifCond .eq 50, 3) := by decide +kernel
theorem dX12_solve_119 : decode cX12_solve 119 = .ok (.iconst 0, 1) := by decide +kernel
theorem dX12_solve_120 : decode cX12_solve 120 = .ok (.istore_n 1, 1) := by decide +kernel
theorem dX12_solve_121 : decode cX12_solve 121 = .ok (.iconst 0, 1) := by decide +kernel
theorem dX12_solve_122 : decode cX12_solve 122 = .ok (.istore_n 2, 1) := by decide +kernel
theorem dX12_solve_123 : decode cX12_solve 123 = .ok (.iload_n 2, 1) := by decide +kernel
theorem dX12_solve_124 : decode cX12_solve 124 = .ok (.aload_n 0, 1) := by decide +kernel
theorem dX12_solve_125 : decode cX12_solve 125 = .ok (.getfield 606, 3) := by decide +kernel
theorem dX12_solve_128 : decode cX12_solve 128 = .ok (.if_icmp .ge 35, 3) := by decide +kernel
theorem dX12_solve_131 : decode cX12_solve 131 = .ok (.aload_n 0, 1) := by decide +kernel
theorem dX12_solve_132 : decode cX12_solve 132 = .ok (.getfield 229, 3) := by decide +kernel
theorem dX12_solve_135 : decode cX12_solve 135 = .ok (.iload_n 2, 1) := by decide +kernel
theorem dX12_solve_136 : decode cX12_solve 136 = .ok (.baload, 1) := by decide +kernel
theorem dX12_solve_137 : decode cX12_solve 137 = .ok (.ifCond .ne 6, 3) := by decide +kernel
theorem dX12_solve_140 : decode cX12_solve 140 = .ok (.goto 17, 3) := by decide +kernel
theorem dX12_solve_143 : decode cX12_solve 143 = .ok (.aload_n 0, 1) := by decide +kernel
theorem dX12_solve_144 : decode cX12_solve 144 = .ok (.getfield 229, 3) := by decide +kernel
theorem dX12_solve_147 : decode cX12_solve 147 = .ok (.iload_n 2, 1) := by decide +kernel
theorem dX12_solve_148 : decode cX12_solve 148 = .ok (.iconst 0, 1) := by decide +kernel
theorem dX12_solve_149 : decode cX12_solve 149 = .ok (.bastore, 1) := by decide +kernel
theorem dX12_solve_150 : decode cX12_solve 150 = .ok (.iconst 1, 1) := by decide +kernel
theorem dX12_solve_151 : decode cX12_solve 151 = .ok (.istore_n 1, 1) := by decide +kernel
theorem dX12_solve_152 : decode cX12_solve 152 = .ok (.aload_n 0, 1) := by decide +kernel
theorem dX12_solve_153 : decode cX12_solve 153 = .ok (.iload_n 2, 1) := by decide +kernel
theorem dX12_solve_154 : decode cX12_solve 154 = .ok (.invokevirtual 1384, 3) := by decide +kernel
theorem dX12_solve_157 : decode cX12_solve 157 = .ok (.iinc 2 1, 3) := by decide +kernel
theorem dX12_solve_160 : decode cX12_solve 160 = .ok (.goto (-37), 3) := by decide +kernel
theorem dX12_solve_163 : decode cX12_solve 163 = .ok (.goto (-48), 3) := by decide +kernel
theorem dX12_solve_166 : decode cX12_solve 166 = .ok (.aload_n 0, 1) := by decide +kernel
theorem dX12_solve_167 : decode cX12_solve 167 = .ok (.iconst 0, 1) := by decide +kernel
theorem dX12_solve_168 : decode cX12_solve 168 = .ok (.putfield 1034, 3) := by decide +kernel
theorem dX12_solve_171 : decode cX12_solve 171 = .ok (.iconst 0, 1) := by decide +kernel
theorem dX12_solve_172 : decode cX12_solve 172 = .ok (.istore_n 2, 1) := by decide +kernel
theorem dX12_solve_173 : decode cX12_solve 173 = .ok (.iload_n 2, 1) := by decide +kernel
theorem dX12_solve_174 : decode cX12_solve 174 = .ok (.aload_n 0, 1) := by decide +kernel
theorem dX12_solve_175 : decode cX12_solve 175 = .ok (.getfield 606, 3) := by decide +kernel
theorem dX12_solve_178 : decode cX12_solve 178 = .ok (.if_icmp .ge 32, 3) := by decide +kernel
theorem dX12_solve_181 : decode cX12_solve 181 = .ok (.aload_n 0, 1) := by decide +kernel
theorem dX12_solve_182 : decode cX12_solve 182 = .ok (.dup, 1) := by decide +kernel
theorem dX12_solve_183 : decode cX12_solve 183 = .ok (.getfield 1034, 3) := by decide +kernel
theorem dX12_solve_186 : decode cX12_solve 186 = .ok (.aload_n 0, 1) := by decide +kernel
theorem dX12_solve_187 : decode cX12_solve 187 = .ok (.getfield 226, 3) := by decide +kernel
theorem dX12_solve_190 : decode cX12_solve 190 = .ok (.iload_n 2, 1) := by decide +kernel
theorem dX12_solve_191 : decode cX12_solve 191 = .ok (.baload, 1) := by decide +kernel
theorem dX12_solve_192 : decode cX12_solve 192 = .ok (.ifCond .eq 7, 3) := by decide +kernel
theorem dX12_solve_195 : decode cX12_solve 195 = .ok (.iconst 1, 1) := by decide +kernel
theorem dX12_solve_196 : decode cX12_solve 196 = .ok (.goto 4, 3) := by decide +kernel
theorem dX12_solve_199 : decode cX12_solve 199 = .ok (.iconst 0, 1) := by decide +kernel
theorem dX12_solve_200 : decode cX12_solve 200 = .ok (.iadd, 1) := by decide +kernel
theorem dX12_solve_201 : decode cX12_solve 201 = .ok (.putfield 1034, 3) := by decide +kernel
theorem dX12_solve_204 : decode cX12_solve 204 = .ok (.iinc 2 1, 3) := by decide +kernel
theorem dX12_solve_207 : decode cX12_solve 207 = .ok (.goto (-34), 3) := by decide +kernel
theorem dX12_solve_210 : decode cX12_solve 210 = .ok (.aload_n 0, 1) := by decide +kernel
theorem dX12_solve_211 : decode cX12_solve 211 = .ok (.iconst 1, 1) := by decide +kernel
theorem dX12_solve_212 : decode cX12_solve 212 = .ok (.putfield 776, 3) := by decide +kernel
theorem dX12_solve_215 : decode cX12_solve 215 = .ok (.aload_n 0, 1) := by decide +kernel
theorem dX12_solve_216 : decode cX12_solve 216 = .ok (.getfield 1034, 3) := by decide +kernel
theorem dX12_solve_219 : decode cX12_solve 219 = .ok (.ireturn, 1) := by decide +kernel
theorem dX12_isReached_0 : decode cX12_isReached 0 = .ok (.aload_n 0, 1) := by decide +kernel
theorem dX12_isReached_1 : decode cX12_isReached 1 = .ok (.iconst 0, 1) := by decide +kernel
theorem dX12_isReached_2 : decode cX12_isReached 2 = .ok (.putfield 289, 3) := by decide +kernel
theorem dX12_isReached_5 : decode cX12_isReached 5 = .ok (.aload_n 0, 1) := by decide +kernel
theorem dX12_isReached_6 : decode cX12_isReached 6 = .ok (.getfield 776, 3) := by decide +kernel
theorem dX12_isReached_9 : decode cX12_isReached 9 = .ok (.ifCond .eq 30, 3) := by decide +kernel
theorem dX12_isReached_12 : decode cX12_isReached 12 = .ok (.iload_n 1, 1) := by decide +kernel
theorem dX12_isReached_13 : decode cX12_isReached 13 = .ok (.iconst 0, 1) := by decide +kernel
theorem dX12_isReached_14 : decode cX12_isReached 14 = .ok (.aload_n 0, 1) := by decide +kernel
theorem dX12_isReached_15 : decode cX12_isReached 15 = .ok (.getfield 606, 3) := by decide +kernel
theorem dX12_isReached_18 : decode cX12_isReached 18 = .ok (.iconst 1, 1) := by decide +kernel
theorem dX12_isReached_19 : decode cX12_isReached 19 = .ok (.isub, 1) := by decide +kernel
theorem dX12_isReached_20 : decode cX12_isReached 20 = .ok (.invokestatic 899, 3) := by decide +kernel
theorem dX12_isReached_23 : decode cX12_isReached 23 = .ok (.ifCond .eq 16, 3) := by decide +kernel
theorem dX12_isReached_26 : decode cX12_isReached 26 = .ok (.aload_n 0, 1) := by decide +kernel
theorem dX12_isReached_27 : decode cX12_isReached 27 = .ok (.getfield 226, 3) := by decide +kernel
theorem dX12_isReached_30 : decode cX12_isReached 30 = .ok (.iload_n 1, 1) := by decide +kernel
theorem dX12_isReached_31 : decode cX12_isReached 31 = .ok (.baload, 1) := by decide +kernel
theorem dX12_isReached_32 : decode cX12_isReached 32 = .ok (.ifCond .eq 7, 3) := by decide +kernel
theorem dX12_isReached_35 : decode cX12_isReached 35 = .ok (.iconst 1, 1) := by decide +kernel
theorem dX12_isReached_36 : decode cX12_isReached 36 = .ok (.goto 4, 3) := by decide +kernel
theorem dX12_isReached_39 : decode cX12_isReached 39 = .ok (.iconst 0, 1) := by decide +kernel
theorem dX12_isReached_40 : decode cX12_isReached 40 = .ok (.ireturn, 1) := by decide +kernel
set_option maxRecDepth 20000 in
theorem ggX12_height_X12_isReached : GoodIn wsX12_height wsX12_isReached := goodIn_r _ [6, 7, 8, 9, 10, 11, 12, 5, 13, 14, 15, 16, 17, 18, 19, 20, 21, 22, 23, 24, 25, 26, 27, 28, 29, 30, 31, 32, 33, 34, 35, 36, 37, 38, 39, 40, 41, 42, 43, 44, 45, 46, 47, 48, 49, 50, 51, 52, 53, 54, 55, 56, 57, 58, 59, 60, 61, 62, 63, 64, 65, 66, 67, 68, 69, 70, 71, 72, 73, 74, 75, 76, 77, 78, 79, 80, 81, 82, 83, 84, 85, 86, 87, 88, 89, 90, 91, 92, 93, 94, 95, 96, 97, 98, 99, 100, 101, 102, 103, 104, 105, 106, 107, 108, 109, 110, 111, 112, 113, 114, 115, 116, 117, 118, 119, 120, 121, 122, 123, 124, 125, 126, 127, 128, 129, 130, 131, 132, 133, 134, 135, 136, 137, 138, 139, 140, 141, 142, 143, 144, 145, 146, 147, 148, 149, 150, 151, 152, 153, 154, 155, 156, 157, 158, 159, 160, 161, 162, 163, 164] (by decide +kernel) (by decide +kernel)
set_option maxRecDepth 20000 in
theorem gX12_height_X12_isReached : GoodIn wsX12_height (wsV RX12 1387 RX12 yX12_isReached wsX12_isReached) := goodIn_app (goodIn_of _ (by decide +kernel)) ggX12_height_X12_isReached
theorem dX12_height_0 : decode cX12_height 0 = .ok (.aload_n 0, 1) := by decide +kernel
theorem dX12_height_1 : decode cX12_height 1 = .ok (.iload_n 1, 1) := by decide +kernel
theorem dX12_height_2 : decode cX12_height 2 = .ok (.invokevirtual 1387, 3) := by decide +kernel
theorem dX12_height_5 : decode cX12_height 5 = .ok (.ifCond .eq 12, 3) := by decide +kernel
theorem dX12_height_8 : decode cX12_height 8 = .ok (.aload_n 0, 1) := by decide +kernel
theorem dX12_height_9 : decode cX12_height 9 = .ok (.getfield 235, 3) := by decide +kernel
theorem dX12_height_12 : decode cX12_height 12 = .ok (.iload_n 1, 1) := by decide +kernel
theorem dX12_height_13 : decode cX12_height 13 = .ok (.iaload, 1) := by decide +kernel
theorem dX12_height_14 : decode cX12_height 14 = .ok (.goto 4, 3) := by decide +kernel
theorem dX12_height_17 : decode cX12_height 17 = .ok (.iconst (-1), 1) := by decide +kernel
theorem dX12_height_18 : decode cX12_height 18 = .ok (.ireturn, 1) := by decide +kernel
set_option maxRecDepth 20000 in
theorem ggX12_slot_X12_isReached : GoodIn wsX12_slot wsX12_isReached := goodIn_r _ [6, 7, 8, 9, 10, 11, 12, 5, 13, 45, 46, 47, 48, 49, 50, 51, 52, 53, 54, 55, 56, 57, 58, 59, 60, 61, 62, 63, 64, 65, 66, 67, 68, 69, 70, 71, 72, 73, 74, 75, 76, 77, 78, 79, 80, 81, 82, 83, 84, 85, 86, 87, 88, 89, 90, 91, 92, 93, 94, 95, 96, 97, 98, 99, 100, 101, 102, 103, 104, 105, 106, 107, 108, 109, 110, 111, 112, 113, 114, 115, 116, 117, 118, 119, 120, 121, 122, 123, 124, 125, 126, 127, 128, 129, 130, 131, 132, 133, 134, 135, 136, 137, 138, 139, 140, 141, 142, 143, 144, 145, 146, 147, 148, 149, 150, 151, 152, 153, 154, 155, 156, 157, 158, 159, 160, 161, 162, 163, 164, 165, 166, 167, 168, 169, 170, 171, 172, 173, 174, 175, 176, 177, 178, 179, 180, 181, 182, 183, 184, 185, 186, 187, 188, 189, 190, 191, 192, 193, 194, 195] (by decide +kernel) (by decide +kernel)
set_option maxRecDepth 20000 in
theorem gX12_slot_X12_isReached : GoodIn wsX12_slot (wsV RX12 1387 RX12 yX12_isReached wsX12_isReached) := goodIn_app (goodIn_of _ (by decide +kernel)) ggX12_slot_X12_isReached
theorem dX12_slot_0 : decode cX12_slot 0 = .ok (.aload_n 0, 1) := by decide +kernel
theorem dX12_slot_1 : decode cX12_slot 1 = .ok (.iload_n 1, 1) := by decide +kernel
theorem dX12_slot_2 : decode cX12_slot 2 = .ok (.invokevirtual 1387, 3) := by decide +kernel
theorem dX12_slot_5 : decode cX12_slot 5 = .ok (.ifCond .eq 19, 3) := by decide +kernel
theorem dX12_slot_8 : decode cX12_slot 8 = .ok (.iload_n 2, 1) := by decide +kernel
theorem dX12_slot_9 : decode cX12_slot 9 = .ok (.iconst (-1), 1) := by decide +kernel
theorem dX12_slot_10 : decode cX12_slot 10 = .ok (.aload_n 0, 1) := by decide +kernel
theorem dX12_slot_11 : decode cX12_slot 11 = .ok (.getfield 235, 3) := by decide +kernel
theorem dX12_slot_14 : decode cX12_slot 14 = .ok (.iload_n 1, 1) := by decide +kernel
theorem dX12_slot_15 : decode cX12_slot 15 = .ok (.iaload, 1) := by decide +kernel
theorem dX12_slot_16 : decode cX12_slot 16 = .ok (.iconst 1, 1) := by decide +kernel
theorem dX12_slot_17 : decode cX12_slot 17 = .ok (.isub, 1) := by decide +kernel
theorem dX12_slot_18 : decode cX12_slot 18 = .ok (.invokestatic 899, 3) := by decide +kernel
theorem dX12_slot_21 : decode cX12_slot 21 = .ok (.ifCond .ne 5, 3) := by decide +kernel
theorem dX12_slot_24 : decode cX12_slot 24 = .ok (.lconst 0, 1) := by decide +kernel
theorem dX12_slot_25 : decode cX12_slot 25 = .ok (.lreturn, 1) := by decide +kernel
theorem dX12_slot_26 : decode cX12_slot 26 = .ok (.aload_n 0, 1) := by decide +kernel
theorem dX12_slot_27 : decode cX12_slot 27 = .ok (.iload_n 2, 1) := by decide +kernel
theorem dX12_slot_28 : decode cX12_slot 28 = .ok (.iconst (-1), 1) := by decide +kernel
theorem dX12_slot_29 : decode cX12_slot 29 = .ok (.if_icmp .ne 11, 3) := by decide +kernel
theorem dX12_slot_32 : decode cX12_slot 32 = .ok (.aload_n 0, 1) := by decide +kernel
theorem dX12_slot_33 : decode cX12_slot 33 = .ok (.iload_n 1, 1) := by decide +kernel
theorem dX12_slot_34 : decode cX12_slot 34 = .ok (.invokevirtual 1098, 3) := by decide +kernel
theorem dX12_slot_37 : decode cX12_slot 37 = .ok (.goto 9, 3) := by decide +kernel
theorem dX12_slot_40 : decode cX12_slot 40 = .ok (.aload_n 0, 1) := by decide +kernel
theorem dX12_slot_41 : decode cX12_slot 41 = .ok (.iload_n 1, 1) := by decide +kernel
theorem dX12_slot_42 : decode cX12_slot 42 = .ok (.iload_n 2, 1) := by decide +kernel
theorem dX12_slot_43 : decode cX12_slot 43 = .ok (.invokevirtual 1323, 3) := by decide +kernel
theorem dX12_slot_46 : decode cX12_slot 46 = .ok (.iload_n 3, 1) := by decide +kernel
theorem dX12_slot_47 : decode cX12_slot 47 = .ok (.invokevirtual 1390, 3) := by decide +kernel
theorem dX12_slot_50 : decode cX12_slot 50 = .ok (.lreturn, 1) := by decide +kernel
set_option maxRecDepth 20000 in
theorem ggX12_field__X12_isReached : GoodIn wsX12_field_ wsX12_isReached := goodIn_r _ [8, 9, 10, 11, 12, 13, 14, 7, 15, 54, 55, 56, 57, 58, 59, 60, 61, 62, 63, 64, 65, 66, 67, 68, 69, 70, 71, 72, 73, 74, 75, 76, 77, 78, 79, 80, 81, 82, 83, 84, 85, 86, 87, 88, 89, 90, 91, 92, 93, 94, 95, 96, 97, 98, 99, 100, 101, 102, 103, 104, 105, 106, 107, 108, 109, 110, 111, 112, 113, 114, 115, 116, 117, 118, 119, 120, 121, 122, 123, 124, 125, 126, 127, 128, 129, 130, 131, 132, 133, 134, 135, 136, 137, 138, 139, 140, 141, 142, 143, 144, 145, 146, 147, 148, 149, 150, 151, 152, 153, 154, 155, 156, 157, 158, 159, 160, 161, 162, 163, 164, 165, 166, 167, 168, 169, 170, 171, 172, 173, 174, 175, 176, 177, 178, 179, 180, 181, 182, 183, 184, 185, 186, 187, 188, 189, 190, 191, 192, 193, 194, 195, 196, 197, 198, 199, 200, 201, 202, 203, 204] (by decide +kernel) (by decide +kernel)
set_option maxRecDepth 20000 in
theorem gX12_field__X12_isReached : GoodIn wsX12_field_ (wsV RX12 1387 RX12 yX12_isReached wsX12_isReached) := goodIn_app (goodIn_of _ (by decide +kernel)) ggX12_field__X12_isReached
theorem dX12_field__0 : decode cX12_field_ 0 = .ok (.aload_n 0, 1) := by decide +kernel
theorem dX12_field__1 : decode cX12_field_ 1 = .ok (.iload_n 1, 1) := by decide +kernel
theorem dX12_field__2 : decode cX12_field_ 2 = .ok (.invokevirtual 1387, 3) := by decide +kernel
theorem dX12_field__5 : decode cX12_field_ 5 = .ok (.ifCond .eq 47, 3) := by decide +kernel
theorem dX12_field__8 : decode cX12_field_ 8 = .ok (.iload_n 2, 1) := by decide +kernel
theorem dX12_field__9 : decode cX12_field_ 9 = .ok (.iconst 0, 1) := by decide +kernel
theorem dX12_field__10 : decode cX12_field_ 10 = .ok (.aload_n 0, 1) := by decide +kernel
theorem dX12_field__11 : decode cX12_field_ 11 = .ok (.getfield 765, 3) := by decide +kernel
theorem dX12_field__14 : decode cX12_field_ 14 = .ok (.iconst 1, 1) := by decide +kernel
theorem dX12_field__15 : decode cX12_field_ 15 = .ok (.isub, 1) := by decide +kernel
theorem dX12_field__16 : decode cX12_field_ 16 = .ok (.invokestatic 899, 3) := by decide +kernel
theorem dX12_field__19 : decode cX12_field_ 19 = .ok (.ifCond .eq 33, 3) := by decide +kernel
theorem dX12_field__22 : decode cX12_field_ 22 = .ok (.iload_n 3, 1) := by decide +kernel
theorem dX12_field__23 : decode cX12_field_ 23 = .ok (.iconst 0, 1) := by decide +kernel
theorem dX12_field__24 : decode cX12_field_ 24 = .ok (.aload_n 0, 1) := by decide +kernel
theorem dX12_field__25 : decode cX12_field_ 25 = .ok (.getfield 762, 3) := by decide +kernel
theorem dX12_field__28 : decode cX12_field_ 28 = .ok (.invokestatic 899, 3) := by decide +kernel
theorem dX12_field__31 : decode cX12_field_ 31 = .ok (.ifCond .eq 21, 3) := by decide +kernel
theorem dX12_field__34 : decode cX12_field_ 34 = .ok (.aload_n 0, 1) := by decide +kernel
theorem dX12_field__35 : decode cX12_field_ 35 = .ok (.getfield 256, 3) := by decide +kernel
theorem dX12_field__38 : decode cX12_field_ 38 = .ok (.aload_n 0, 1) := by decide +kernel
theorem dX12_field__39 : decode cX12_field_ 39 = .ok (.iload_n 1, 1) := by decide +kernel
theorem dX12_field__40 : decode cX12_field_ 40 = .ok (.iload_n 2, 1) := by decide +kernel
theorem dX12_field__41 : decode cX12_field_ 41 = .ok (.invokevirtual 1101, 3) := by decide +kernel
theorem dX12_field__44 : decode cX12_field_ 44 = .ok (.baload, 1) := by decide +kernel
theorem dX12_field__45 : decode cX12_field_ 45 = .ok (.ifCond .eq 7, 3) := by decide +kernel
theorem dX12_field__48 : decode cX12_field_ 48 = .ok (.iconst 1, 1) := by decide +kernel
theorem dX12_field__49 : decode cX12_field_ 49 = .ok (.goto 4, 3) := by decide +kernel
theorem dX12_field__52 : decode cX12_field_ 52 = .ok (.iconst 0, 1) := by decide +kernel
theorem dX12_field__53 : decode cX12_field_ 53 = .ok (.istore 5, 2) := by decide +kernel
theorem dX12_field__55 : decode cX12_field_ 55 = .ok (.iload 5, 2) := by decide +kernel
theorem dX12_field__57 : decode cX12_field_ 57 = .ok (.ifCond .eq 19, 3) := by decide +kernel
theorem dX12_field__60 : decode cX12_field_ 60 = .ok (.aload_n 0, 1) := by decide +kernel
theorem dX12_field__61 : decode cX12_field_ 61 = .ok (.aload_n 0, 1) := by decide +kernel
theorem dX12_field__62 : decode cX12_field_ 62 = .ok (.iload_n 1, 1) := by decide +kernel
theorem dX12_field__63 : decode cX12_field_ 63 = .ok (.iload_n 2, 1) := by decide +kernel
theorem dX12_field__64 : decode cX12_field_ 64 = .ok (.iload_n 3, 1) := by decide +kernel
theorem dX12_field__65 : decode cX12_field_ 65 = .ok (.invokevirtual 1163, 3) := by decide +kernel
theorem dX12_field__68 : decode cX12_field_ 68 = .ok (.iload 4, 2) := by decide +kernel
theorem dX12_field__70 : decode cX12_field_ 70 = .ok (.invokevirtual 1390, 3) := by decide +kernel
theorem dX12_field__73 : decode cX12_field_ 73 = .ok (.goto 4, 3) := by decide +kernel
theorem dX12_field__76 : decode cX12_field_ 76 = .ok (.lconst 0, 1) := by decide +kernel
theorem dX12_field__77 : decode cX12_field_ 77 = .ok (.lreturn, 1) := by decide +kernel
set_option maxRecDepth 20000 in
theorem ggX12_link_X12_isReached : GoodIn wsX12_link wsX12_isReached := goodIn_r _ [14, 15, 16, 17, 18, 19, 20, 13, 21, 30, 31, 32, 33, 34, 35, 36, 37, 38, 39, 40, 41, 42, 43, 44, 45, 46, 47, 48, 49, 50, 51, 52, 53, 54, 55, 56, 57, 58, 59, 60, 61, 62, 63, 64, 65, 66, 67, 68, 69, 70, 71, 72, 73, 74, 75, 76, 77, 78, 79, 80, 81, 82, 83, 84, 85, 86, 87, 88, 89, 90, 91, 92, 93, 94, 95, 96, 97, 98, 99, 100, 101, 102, 103, 104, 105, 106, 107, 108, 109, 110, 111, 112, 113, 114, 115, 116, 117, 118, 119, 120, 121, 122, 123, 124, 125, 126, 127, 128, 129, 130, 131, 132, 133, 134, 135, 136, 137, 138, 139, 140, 141, 142, 143, 144, 145, 146, 147, 148, 149, 150, 151, 152, 153, 154, 155, 156, 157, 158, 159, 160, 161, 162, 163, 164, 165, 166, 167, 168, 169, 170, 171, 172, 173, 174, 175, 176, 177, 178, 179, 180] (by decide +kernel) (by decide +kernel)
set_option maxRecDepth 20000 in
theorem gX12_link_X12_isReached : GoodIn wsX12_link (wsV RX12 1387 RX12 yX12_isReached wsX12_isReached) := goodIn_app (goodIn_of _ (by decide +kernel)) ggX12_link_X12_isReached
theorem dX12_link_0 : decode cX12_link 0 = .ok (.aload_n 0, 1) := by decide +kernel
theorem dX12_link_1 : decode cX12_link 1 = .ok (.iload_n 1, 1) := by decide +kernel
theorem dX12_link_2 : decode cX12_link 2 = .ok (.invokevirtual 1387, 3) := by decide +kernel
theorem dX12_link_5 : decode cX12_link 5 = .ok (.ifCond .eq 17, 3) := by decide +kernel
theorem dX12_link_8 : decode cX12_link 8 = .ok (.iload_n 2, 1) := by decide +kernel
theorem dX12_link_9 : decode cX12_link 9 = .ok (.iconst (-1), 1) := by decide +kernel
theorem dX12_link_10 : decode cX12_link 10 = .ok (.aload_n 0, 1) := by decide +kernel
theorem dX12_link_11 : decode cX12_link 11 = .ok (.getfield 765, 3) := by decide +kernel
theorem dX12_link_14 : decode cX12_link 14 = .ok (.iconst 1, 1) := by decide +kernel
theorem dX12_link_15 : decode cX12_link 15 = .ok (.isub, 1) := by decide +kernel
theorem dX12_link_16 : decode cX12_link 16 = .ok (.invokestatic 899, 3) := by decide +kernel
theorem dX12_link_19 : decode cX12_link 19 = .ok (.ifCond .ne 5, 3) := by decide +kernel
theorem dX12_link_22 : decode cX12_link 22 = .ok (.lconst 0, 1) := by decide +kernel
theorem dX12_link_23 : decode cX12_link 23 = .ok (.lreturn, 1) := by decide +kernel
theorem dX12_link_24 : decode cX12_link 24 = .ok (.iload_n 2, 1) := by decide +kernel
theorem dX12_link_25 : decode cX12_link 25 = .ok (.iconst (-1), 1) := by decide +kernel
theorem dX12_link_26 : decode cX12_link 26 = .ok (.if_icmp .ne 33, 3) := by decide +kernel
theorem dX12_link_29 : decode cX12_link 29 = .ok (.iload_n 3, 1) := by decide +kernel
theorem dX12_link_30 : decode cX12_link 30 = .ok (.iconst 3, 1) := by decide +kernel
theorem dX12_link_31 : decode cX12_link 31 = .ok (.if_icmp .ne 12, 3) := by decide +kernel
theorem dX12_link_34 : decode cX12_link 34 = .ok (.aload_n 0, 1) := by decide +kernel
theorem dX12_link_35 : decode cX12_link 35 = .ok (.getfield 241, 3) := by decide +kernel
theorem dX12_link_38 : decode cX12_link 38 = .ok (.iload_n 1, 1) := by decide +kernel
theorem dX12_link_39 : decode cX12_link 39 = .ok (.laload, 1) := by decide +kernel
theorem dX12_link_40 : decode cX12_link 40 = .ok (.goto 18, 3) := by decide +kernel
theorem dX12_link_43 : decode cX12_link 43 = .ok (.iload_n 3, 1) := by decide +kernel
theorem dX12_link_44 : decode cX12_link 44 = .ok (.iconst 4, 1) := by decide +kernel
theorem dX12_link_45 : decode cX12_link 45 = .ok (.if_icmp .ne 12, 3) := by decide +kernel
theorem dX12_link_48 : decode cX12_link 48 = .ok (.aload_n 0, 1) := by decide +kernel
theorem dX12_link_49 : decode cX12_link 49 = .ok (.getfield 244, 3) := by decide +kernel
theorem dX12_link_52 : decode cX12_link 52 = .ok (.iload_n 1, 1) := by decide +kernel
theorem dX12_link_53 : decode cX12_link 53 = .ok (.laload, 1) := by decide +kernel
theorem dX12_link_54 : decode cX12_link 54 = .ok (.goto 4, 3) := by decide +kernel
theorem dX12_link_57 : decode cX12_link 57 = .ok (.lconst 0, 1) := by decide +kernel
theorem dX12_link_58 : decode cX12_link 58 = .ok (.lreturn, 1) := by decide +kernel
theorem dX12_link_59 : decode cX12_link 59 = .ok (.aload_n 0, 1) := by decide +kernel
theorem dX12_link_60 : decode cX12_link 60 = .ok (.iload_n 1, 1) := by decide +kernel
theorem dX12_link_61 : decode cX12_link 61 = .ok (.iload_n 2, 1) := by decide +kernel
theorem dX12_link_62 : decode cX12_link 62 = .ok (.invokevirtual 1101, 3) := by decide +kernel
theorem dX12_link_65 : decode cX12_link 65 = .ok (.istore 4, 2) := by decide +kernel
theorem dX12_link_67 : decode cX12_link 67 = .ok (.iload_n 3, 1) := by decide +kernel
theorem dX12_link_68 : decode cX12_link 68 = .ok (.tableswitch 104 0 5 #[40, 48, 56, 72, 80, 88], 40) := by decide +kernel
theorem dX12_link_108 : decode cX12_link 108 = .ok (.aload_n 0, 1) := by decide +kernel
theorem dX12_link_109 : decode cX12_link 109 = .ok (.getfield 262, 3) := by decide +kernel
theorem dX12_link_112 : decode cX12_link 112 = .ok (.iload 4, 2) := by decide +kernel
theorem dX12_link_114 : decode cX12_link 114 = .ok (.laload, 1) := by decide +kernel
theorem dX12_link_115 : decode cX12_link 115 = .ok (.lreturn, 1) := by decide +kernel
theorem dX12_link_116 : decode cX12_link 116 = .ok (.aload_n 0, 1) := by decide +kernel
theorem dX12_link_117 : decode cX12_link 117 = .ok (.getfield 265, 3) := by decide +kernel
theorem dX12_link_120 : decode cX12_link 120 = .ok (.iload 4, 2) := by decide +kernel
theorem dX12_link_122 : decode cX12_link 122 = .ok (.laload, 1) := by decide +kernel
theorem dX12_link_123 : decode cX12_link 123 = .ok (.lreturn, 1) := by decide +kernel
theorem dX12_link_124 : decode cX12_link 124 = .ok (.aload_n 0, 1) := by decide +kernel
theorem dX12_link_125 : decode cX12_link 125 = .ok (.getfield 259, 3) := by decide +kernel
theorem dX12_link_128 : decode cX12_link 128 = .ok (.iload 4, 2) := by decide +kernel
theorem dX12_link_130 : decode cX12_link 130 = .ok (.baload, 1) := by decide +kernel
theorem dX12_link_131 : decode cX12_link 131 = .ok (.ifCond .eq 7, 3) := by decide +kernel
theorem dX12_link_134 : decode cX12_link 134 = .ok (.lconst 1, 1) := by decide +kernel
theorem dX12_link_135 : decode cX12_link 135 = .ok (.goto 4, 3) := by decide +kernel
theorem dX12_link_138 : decode cX12_link 138 = .ok (.lconst 0, 1) := by decide +kernel
theorem dX12_link_139 : decode cX12_link 139 = .ok (.lreturn, 1) := by decide +kernel
theorem dX12_link_140 : decode cX12_link 140 = .ok (.aload_n 0, 1) := by decide +kernel
theorem dX12_link_141 : decode cX12_link 141 = .ok (.getfield 268, 3) := by decide +kernel
theorem dX12_link_144 : decode cX12_link 144 = .ok (.iload 4, 2) := by decide +kernel
theorem dX12_link_146 : decode cX12_link 146 = .ok (.laload, 1) := by decide +kernel
theorem dX12_link_147 : decode cX12_link 147 = .ok (.lreturn, 1) := by decide +kernel
theorem dX12_link_148 : decode cX12_link 148 = .ok (.aload_n 0, 1) := by decide +kernel
theorem dX12_link_149 : decode cX12_link 149 = .ok (.getfield 271, 3) := by decide +kernel
theorem dX12_link_152 : decode cX12_link 152 = .ok (.iload 4, 2) := by decide +kernel
theorem dX12_link_154 : decode cX12_link 154 = .ok (.laload, 1) := by decide +kernel
theorem dX12_link_155 : decode cX12_link 155 = .ok (.lreturn, 1) := by decide +kernel
theorem dX12_link_156 : decode cX12_link 156 = .ok (.aload_n 0, 1) := by decide +kernel
theorem dX12_link_157 : decode cX12_link 157 = .ok (.getfield 256, 3) := by decide +kernel
theorem dX12_link_160 : decode cX12_link 160 = .ok (.iload 4, 2) := by decide +kernel
theorem dX12_link_162 : decode cX12_link 162 = .ok (.baload, 1) := by decide +kernel
theorem dX12_link_163 : decode cX12_link 163 = .ok (.ifCond .eq 7, 3) := by decide +kernel
theorem dX12_link_166 : decode cX12_link 166 = .ok (.lconst 1, 1) := by decide +kernel
theorem dX12_link_167 : decode cX12_link 167 = .ok (.goto 4, 3) := by decide +kernel
theorem dX12_link_170 : decode cX12_link 170 = .ok (.lconst 0, 1) := by decide +kernel
theorem dX12_link_171 : decode cX12_link 171 = .ok (.lreturn, 1) := by decide +kernel
theorem dX12_link_172 : decode cX12_link 172 = .ok (.lconst 0, 1) := by decide +kernel
theorem dX12_link_173 : decode cX12_link 173 = .ok (.lreturn, 1) := by decide +kernel
theorem dX12_result_0 : decode cX12_result 0 = .ok (.aload_n 0, 1) := by decide +kernel
theorem dX12_result_1 : decode cX12_result 1 = .ok (.iconst 0, 1) := by decide +kernel
theorem dX12_result_2 : decode cX12_result 2 = .ok (.putfield 289, 3) := by decide +kernel
theorem dX12_result_5 : decode cX12_result 5 = .ok (.aload_n 0, 1) := by decide +kernel
theorem dX12_result_6 : decode cX12_result 6 = .ok (.getfield 776, 3) := by decide +kernel
theorem dX12_result_9 : decode cX12_result 9 = .ok (.ifCond .eq 26, 3) := by decide +kernel
theorem dX12_result_12 : decode cX12_result 12 = .ok (.iload_n 1, 1) := by decide +kernel
theorem dX12_result_13 : decode cX12_result 13 = .ok (.iconst 0, 1) := by decide +kernel
theorem dX12_result_14 : decode cX12_result 14 = .ok (.aload_n 0, 1) := by decide +kernel
theorem dX12_result_15 : decode cX12_result 15 = .ok (.getfield 527, 3) := by decide +kernel
theorem dX12_result_18 : decode cX12_result 18 = .ok (.iconst 1, 1) := by decide +kernel
theorem dX12_result_19 : decode cX12_result 19 = .ok (.isub, 1) := by decide +kernel
theorem dX12_result_20 : decode cX12_result 20 = .ok (.invokestatic 899, 3) := by decide +kernel
theorem dX12_result_23 : decode cX12_result 23 = .ok (.ifCond .eq 12, 3) := by decide +kernel
theorem dX12_result_26 : decode cX12_result 26 = .ok (.iload_n 2, 1) := by decide +kernel
theorem dX12_result_27 : decode cX12_result 27 = .ok (.iconst 0, 1) := by decide +kernel
theorem dX12_result_28 : decode cX12_result 28 = .ok (.iconst 1, 1) := by decide +kernel
theorem dX12_result_29 : decode cX12_result 29 = .ok (.invokestatic 899, 3) := by decide +kernel
theorem dX12_result_32 : decode cX12_result 32 = .ok (.ifCond .ne 5, 3) := by decide +kernel
theorem dX12_result_35 : decode cX12_result 35 = .ok (.lconst 0, 1) := by decide +kernel
theorem dX12_result_36 : decode cX12_result 36 = .ok (.lreturn, 1) := by decide +kernel
theorem dX12_result_37 : decode cX12_result 37 = .ok (.aload_n 0, 1) := by decide +kernel
theorem dX12_result_38 : decode cX12_result 38 = .ok (.getfield 606, 3) := by decide +kernel
theorem dX12_result_41 : decode cX12_result 41 = .ok (.iconst 2, 1) := by decide +kernel
theorem dX12_result_42 : decode cX12_result 42 = .ok (.iload_n 1, 1) := by decide +kernel
theorem dX12_result_43 : decode cX12_result 43 = .ok (.imul, 1) := by decide +kernel
theorem dX12_result_44 : decode cX12_result 44 = .ok (.iadd, 1) := by decide +kernel
theorem dX12_result_45 : decode cX12_result 45 = .ok (.iload_n 2, 1) := by decide +kernel
theorem dX12_result_46 : decode cX12_result 46 = .ok (.iadd, 1) := by decide +kernel
theorem dX12_result_47 : decode cX12_result 47 = .ok (.istore 4, 2) := by decide +kernel
theorem dX12_result_49 : decode cX12_result 49 = .ok (.aload_n 0, 1) := by decide +kernel
theorem dX12_result_50 : decode cX12_result 50 = .ok (.getfield 226, 3) := by decide +kernel
theorem dX12_result_53 : decode cX12_result 53 = .ok (.iload 4, 2) := by decide +kernel
theorem dX12_result_55 : decode cX12_result 55 = .ok (.baload, 1) := by decide +kernel
theorem dX12_result_56 : decode cX12_result 56 = .ok (.ifCond .eq 18, 3) := by decide +kernel
theorem dX12_result_59 : decode cX12_result 59 = .ok (.aload_n 0, 1) := by decide +kernel
theorem dX12_result_60 : decode cX12_result 60 = .ok (.aload_n 0, 1) := by decide +kernel
theorem dX12_result_61 : decode cX12_result 61 = .ok (.getfield 238, 3) := by decide +kernel
theorem dX12_result_64 : decode cX12_result 64 = .ok (.iload 4, 2) := by decide +kernel
theorem dX12_result_66 : decode cX12_result 66 = .ok (.iaload, 1) := by decide +kernel
theorem dX12_result_67 : decode cX12_result 67 = .ok (.iload_n 3, 1) := by decide +kernel
theorem dX12_result_68 : decode cX12_result 68 = .ok (.invokevirtual 1390, 3) := by decide +kernel
theorem dX12_result_71 : decode cX12_result 71 = .ok (.goto 4, 3) := by decide +kernel
theorem dX12_result_74 : decode cX12_result 74 = .ok (.lconst 0, 1) := by decide +kernel
theorem dX12_result_75 : decode cX12_result 75 = .ok (.lreturn, 1) := by decide +kernel
set_option maxRecDepth 20000 in
theorem ggX12_warns_X12_isReached : GoodIn wsX12_warns wsX12_isReached := goodIn_r _ [6, 7, 8, 9, 10, 11, 12, 5, 13, 14, 15, 16, 17, 18, 19, 20, 21, 22, 23, 24, 25, 26, 27, 28, 29, 30, 31, 32, 33, 34, 35, 36, 37, 38, 39, 40, 41, 42, 43, 44, 45, 46, 47, 48, 49, 50, 51, 52, 53, 54, 55, 56, 57, 58, 59, 60, 61, 62, 63, 64, 65, 66, 67, 68, 69, 70, 71, 72, 73, 74, 75, 76, 77, 78, 79, 80, 81, 82, 83, 84, 85, 86, 87, 88, 89, 90, 91, 92, 93, 94, 95, 96, 97, 98, 99, 100, 101, 102, 103, 104, 105, 106, 107, 108, 109, 110, 111, 112, 113, 114, 115, 116, 117, 118, 119, 120, 121, 122, 123, 124, 125, 126, 127, 128, 129, 130, 131, 132, 133, 134, 135, 136, 137, 138, 139, 140, 141, 142, 143, 144, 145, 146, 147, 148, 149, 150, 151, 152, 153, 154, 155, 156, 157, 158, 159, 160, 161, 162, 163, 164] (by decide +kernel) (by decide +kernel)
set_option maxRecDepth 20000 in
theorem gX12_warns_X12_isReached : GoodIn wsX12_warns (wsV RX12 1387 RX12 yX12_isReached wsX12_isReached) := goodIn_app (goodIn_of _ (by decide +kernel)) ggX12_warns_X12_isReached
theorem dX12_warns_0 : decode cX12_warns 0 = .ok (.aload_n 0, 1) := by decide +kernel
theorem dX12_warns_1 : decode cX12_warns 1 = .ok (.iload_n 1, 1) := by decide +kernel
theorem dX12_warns_2 : decode cX12_warns 2 = .ok (.invokevirtual 1387, 3) := by decide +kernel
theorem dX12_warns_5 : decode cX12_warns 5 = .ok (.ifCond .eq 12, 3) := by decide +kernel
theorem dX12_warns_8 : decode cX12_warns 8 = .ok (.aload_n 0, 1) := by decide +kernel
theorem dX12_warns_9 : decode cX12_warns 9 = .ok (.getfield 232, 3) := by decide +kernel
theorem dX12_warns_12 : decode cX12_warns 12 = .ok (.iload_n 1, 1) := by decide +kernel
theorem dX12_warns_13 : decode cX12_warns 13 = .ok (.iaload, 1) := by decide +kernel
theorem dX12_warns_14 : decode cX12_warns 14 = .ok (.goto 4, 3) := by decide +kernel
theorem dX12_warns_17 : decode cX12_warns 17 = .ok (.iconst (-1), 1) := by decide +kernel
theorem dX12_warns_18 : decode cX12_warns 18 = .ok (.ireturn, 1) := by decide +kernel
