abbrev c_mo_thrown : ByteArray := prog_12_method_2_code
abbrev c_mo_refuses : ByteArray := prog_12_method_3_code
abbrev c_mo_isType : ByteArray := prog_12_method_4_code
abbrev c_mo_isInstance : ByteArray := prog_12_method_5_code
abbrev c_mo_upTo : ByteArray := prog_12_method_6_code
abbrev c_mo_part : ByteArray := prog_12_method_7_code
abbrev c_mo_plainSize : ByteArray := prog_12_method_8_code
abbrev c_mo_lays : ByteArray := prog_12_method_9_code
abbrev c_mo_type : ByteArray := prog_12_method_10_code
abbrev c_mo_layout : ByteArray := prog_12_method_11_code
abbrev c_mo_await : ByteArray := prog_12_method_12_code
abbrev c_mo_shared : ByteArray := prog_12_method_13_code
abbrev c_mo_alike : ByteArray := prog_12_method_14_code
abbrev c_mo_misfit : ByteArray := prog_12_method_15_code
abbrev c_mo_fits : ByteArray := prog_12_method_16_code
abbrev c_mo_lends : ByteArray := prog_12_method_17_code
abbrev c_mo_instance : ByteArray := prog_12_method_18_code
abbrev c_mo_function : ByteArray := prog_12_method_19_code
abbrev c_mo_write : ByteArray := prog_12_method_20_code
abbrev c_mo_read : ByteArray := prog_12_method_21_code
abbrev c_mo_enter : ByteArray := prog_12_method_22_code
abbrev c_mo_push : ByteArray := prog_12_method_23_code
abbrev c_mo_leave : ByteArray := prog_12_method_24_code
abbrev c_mo_freeHandle : ByteArray := prog_12_method_25_code
abbrev c_mo_loans : ByteArray := prog_12_method_26_code
abbrev c_mo_make : ByteArray := prog_12_method_27_code
abbrev c_mo_drop : ByteArray := prog_12_method_28_code
abbrev c_mo_handle : ByteArray := prog_12_method_29_code
abbrev c_mo_fails : ByteArray := prog_12_method_30_code
abbrev c_mo_byteAt : ByteArray := prog_12_method_31_code
abbrev c_mo_number : ByteArray := prog_12_method_32_code
abbrev c_mo_readText : ByteArray := prog_12_method_33_code
abbrev c_mo_readHandle : ByteArray := prog_12_method_34_code
abbrev c_mo_readItem : ByteArray := prog_12_method_35_code
abbrev c_mo_readPlain : ByteArray := prog_12_method_36_code
abbrev c_mo_readAll : ByteArray := prog_12_method_37_code
abbrev c_mo_room : ByteArray := prog_12_method_38_code
abbrev c_mo_put : ByteArray := prog_12_method_39_code
abbrev c_mo_writeHandle : ByteArray := prog_12_method_40_code
abbrev c_mo_writeItem : ByteArray := prog_12_method_41_code
abbrev c_mo_pass : ByteArray := prog_12_method_42_code
abbrev c_mo_trapped : ByteArray := prog_12_method_43_code
abbrev c_mo_call : ByteArray := prog_12_method_44_code
abbrev c_mo_back : ByteArray := prog_12_method_45_code
abbrev c_mo_trap : ByteArray := prog_12_method_46_code
abbrev c_mo_passed : ByteArray := prog_12_method_47_code
abbrev c_mo_depth : ByteArray := prog_12_method_48_code
abbrev c_mo_level : ByteArray := prog_12_method_49_code
abbrev c_mo_inUse : ByteArray := prog_12_method_50_code
abbrev c_mo_state : ByteArray := prog_12_method_51_code
abbrev c_mo_close : ByteArray := prog_12_method_52_code
abbrev c_mo_resources : ByteArray := prog_12_method_53_code
abbrev c_mo_latest : ByteArray := prog_12_method_54_code
/-! the reference: records of its methods, the words that they need -/
abbrev mo_C : String := R_mo
abbrev mo_ci : Nat := 9
def mo_rm (k : Nat) : Room := { frames := k, cells := 0, slots := 0, locals := 40 * k }
def mo_wl : List Cond := [.initialized mo_C, .fieldLink mo_C 7 "HostedCallsModel" "kinds" "[I", .fieldLink mo_C 13 "HostedCallsModel" "numbers" "[I", .fieldLink mo_C 16 "HostedCallsModel" "sizes" "[I", .fieldLink mo_C 19 "HostedCallsModel" "aligns" "[I", .fieldLink mo_C 22 "HostedCallsModel" "depths" "[I", .fieldLink mo_C 25 "HostedCallsModel" "counts" "[I", .fieldLink mo_C 28 "HostedCallsModel" "parts" "[I", .fieldLink mo_C 31 "HostedCallsModel" "offsets" "[I", .fieldLink mo_C 34 "HostedCallsModel" "draft" "[I", .fieldLink mo_C 37 "HostedCallsModel" "bytes" "[I", .fieldLink mo_C 40 "HostedCallsModel" "heaps" "[I", .fieldLink mo_C 43 "HostedCallsModel" "states" "[I", .fieldLink mo_C 46 "HostedCallsModel" "used" "[Z", .fieldLink mo_C 50 "HostedCallsModel" "resource" "[I", .fieldLink mo_C 53 "HostedCallsModel" "owned" "[Z", .fieldLink mo_C 56 "HostedCallsModel" "lender" "[I", .fieldLink mo_C 59 "HostedCallsModel" "taken" "[Z", .fieldLink mo_C 62 "HostedCallsModel" "pending" "[I", .fieldLink mo_C 65 "HostedCallsModel" "kindOf" "[I", .fieldLink mo_C 68 "HostedCallsModel" "gone" "[Z", .fieldLink mo_C 71 "HostedCallsModel" "home" "[I", .fieldLink mo_C 74 "HostedCallsModel" "argument" "[I", .fieldLink mo_C 77 "HostedCallsModel" "result" "[I", .fieldLink mo_C 80 "HostedCallsModel" "running" "[I", .fieldLink mo_C 83 "HostedCallsModel" "called" "[I", .fieldLink mo_C 86 "HostedCallsModel" "last" "[I", .fieldLink mo_C 89 "HostedCallsModel" "trapInstance" "I", .fieldLink mo_C 93 "HostedCallsModel" "waitT" "[I", .fieldLink mo_C 96 "HostedCallsModel" "waitU" "[I", .fieldLink mo_C 99 "HostedCallsModel" "waitMany" "[I", .fieldLink mo_C 102 "HostedCallsModel" "waitPlace" "[I", .fieldLink mo_C 105 "HostedCallsModel" "waitAbove" "[I", .fieldLink mo_C 108 "HostedCallsModel" "waitIn" "[I", .fieldLink mo_C 111 "HostedCallsModel" "itemU" "[I", .fieldLink mo_C 114 "HostedCallsModel" "itemPlace" "[I", .fieldLink mo_C 117 "HostedCallsModel" "itemAbove" "[I", .fieldLink mo_C 120 "HostedCallsModel" "itemIn" "[I", .fieldLink mo_C 123 "HostedCallsModel" "itemFrom" "[I", .fieldLink mo_C 126 "HostedCallsModel" "itemMany" "[I", .fieldLink mo_C 129 "HostedCallsModel" "itemTo" "[I", .fieldLink mo_C 132 "HostedCallsModel" "itemRoom" "[I", .fieldLink mo_C 135 "HostedCallsModel" "freshOnes" "[I", .fieldLink mo_C 138 "HostedCallsModel" "layOffsets" "[I", .fieldLink mo_C 141 "HostedCallsModel" "code" "I", .fieldLink mo_C 144 "HostedCallsModel" "types" "I", .fieldLink mo_C 147 "HostedCallsModel" "instances" "I", .fieldLink mo_C 154 "HostedCallsModel" "drafted" "I", .fieldLink mo_C 160 "HostedCallsModel" "layDepth" "I", .fieldLink mo_C 167 "HostedCallsModel" "layAlign" "I", .fieldLink mo_C 170 "HostedCallsModel" "laySize" "I", .fieldLink mo_C 181 "HostedCallsModel" "waits" "I", .fieldLink mo_C 203 "HostedCallsModel" "functions" "I", .fieldLink mo_C 208 "HostedCallsModel" "levels" "I", .fieldLink mo_C 218 "HostedCallsModel" "made" "I", .fieldLink mo_C 224 "HostedCallsModel" "fault" "I", .fieldLink mo_C 227 "HostedCallsModel" "faultPlace" "I", .fieldLink mo_C 237 "HostedCallsModel" "items" "I", .fieldLink mo_C 260 "HostedCallsModel" "fresh" "I", .fieldLink mo_C 278 "HostedCallsModel" "trapCode" "I", .fieldLink mo_C 281 "HostedCallsModel" "trapPlace" "I", .methodLink mo_C 150 ⟨mo_C, "isType", "(I)Z"⟩, .methodLink mo_C 157 ⟨mo_C, "refuses", "(I)Z"⟩, .methodLink mo_C 163 ⟨mo_C, "plainSize", "(I)I"⟩, .methodLink mo_C 173 ⟨mo_C, "upTo", "(II)I"⟩, .methodLink mo_C 177 ⟨mo_C, "lays", "(II)Z"⟩, .methodLink mo_C 184 ⟨mo_C, "await", "(IIIIII)V"⟩, .methodLink mo_C 188 ⟨mo_C, "alike", "(II)Z"⟩, .methodLink mo_C 191 ⟨mo_C, "shared", "(II)I"⟩, .methodLink mo_C 194 ⟨mo_C, "misfit", "(II)I"⟩, .methodLink mo_C 197 ⟨mo_C, "isInstance", "(I)Z"⟩, .methodLink mo_C 200 ⟨mo_C, "lends", "(I)Z"⟩, .methodLink mo_C 211 ⟨mo_C, "push", "(III)V"⟩, .methodLink mo_C 215 ⟨mo_C, "freeHandle", "(I)I"⟩, .methodLink mo_C 221 ⟨mo_C, "loans", "(I)I"⟩, .methodLink mo_C 230 ⟨mo_C, "fails", "(II)V"⟩, .methodLink mo_C 234 ⟨mo_C, "byteAt", "(II)I"⟩, .methodLink mo_C 240 ⟨mo_C, "number", "(III)I"⟩, .methodLink mo_C 244 ⟨mo_C, "readText", "(III)V"⟩, .methodLink mo_C 247 ⟨mo_C, "readHandle", "(IIII)V"⟩, .methodLink mo_C 251 ⟨mo_C, "readPlain", "(III)V"⟩, .methodLink mo_C 257 ⟨mo_C, "readItem", "(IIIIII)V"⟩, .methodLink mo_C 263 ⟨mo_C, "put", "(IIII)V"⟩, .methodLink mo_C 266 ⟨mo_C, "room", "(III)I"⟩, .methodLink mo_C 269 ⟨mo_C, "writeHandle", "(II)V"⟩, .methodLink mo_C 272 ⟨mo_C, "readAll", "(IIII)V"⟩, .methodLink mo_C 275 ⟨mo_C, "writeItem", "(III)V"⟩, .methodLink mo_C 284 ⟨mo_C, "trapped", "(III)I"⟩, .methodLink mo_C 287 ⟨mo_C, "pass", "(IIIII)I"⟩, .methodLink mo_C 291 ⟨mo_C, "inUse", "(I)I"⟩, .instanceMethod ⟨mo_C, "alike", "(II)Z"⟩, .selects mo_C ⟨mo_C, "alike", "(II)Z"⟩ ⟨mo_C, "alike", "(II)Z"⟩, .code ⟨mo_C, "alike", "(II)Z"⟩ c_mo_alike 4 (some .boolean), .instanceMethod ⟨mo_C, "await", "(IIIIII)V"⟩, .selects mo_C ⟨mo_C, "await", "(IIIIII)V"⟩ ⟨mo_C, "await", "(IIIIII)V"⟩, .code ⟨mo_C, "await", "(IIIIII)V"⟩ c_mo_await 7 none, .instanceMethod ⟨mo_C, "byteAt", "(II)I"⟩, .selects mo_C ⟨mo_C, "byteAt", "(II)I"⟩ ⟨mo_C, "byteAt", "(II)I"⟩, .code ⟨mo_C, "byteAt", "(II)I"⟩ c_mo_byteAt 3 (some .int), .instanceMethod ⟨mo_C, "fails", "(II)V"⟩, .selects mo_C ⟨mo_C, "fails", "(II)V"⟩ ⟨mo_C, "fails", "(II)V"⟩, .code ⟨mo_C, "fails", "(II)V"⟩ c_mo_fails 3 none, .instanceMethod ⟨mo_C, "freeHandle", "(I)I"⟩, .selects mo_C ⟨mo_C, "freeHandle", "(I)I"⟩ ⟨mo_C, "freeHandle", "(I)I"⟩, .code ⟨mo_C, "freeHandle", "(I)I"⟩ c_mo_freeHandle 4 (some .int), .instanceMethod ⟨mo_C, "inUse", "(I)I"⟩, .selects mo_C ⟨mo_C, "inUse", "(I)I"⟩ ⟨mo_C, "inUse", "(I)I"⟩, .code ⟨mo_C, "inUse", "(I)I"⟩ c_mo_inUse 4 (some .int), .instanceMethod ⟨mo_C, "isInstance", "(I)Z"⟩, .selects mo_C ⟨mo_C, "isInstance", "(I)Z"⟩ ⟨mo_C, "isInstance", "(I)Z"⟩, .code ⟨mo_C, "isInstance", "(I)Z"⟩ c_mo_isInstance 2 (some .boolean), .instanceMethod ⟨mo_C, "isType", "(I)Z"⟩, .selects mo_C ⟨mo_C, "isType", "(I)Z"⟩ ⟨mo_C, "isType", "(I)Z"⟩, .code ⟨mo_C, "isType", "(I)Z"⟩ c_mo_isType 2 (some .boolean), .instanceMethod ⟨mo_C, "lays", "(II)Z"⟩, .selects mo_C ⟨mo_C, "lays", "(II)Z"⟩ ⟨mo_C, "lays", "(II)Z"⟩, .code ⟨mo_C, "lays", "(II)Z"⟩ c_mo_lays 9 (some .boolean), .instanceMethod ⟨mo_C, "lends", "(I)Z"⟩, .selects mo_C ⟨mo_C, "lends", "(I)Z"⟩ ⟨mo_C, "lends", "(I)Z"⟩, .code ⟨mo_C, "lends", "(I)Z"⟩ c_mo_lends 4 (some .boolean), .instanceMethod ⟨mo_C, "loans", "(I)I"⟩, .selects mo_C ⟨mo_C, "loans", "(I)I"⟩ ⟨mo_C, "loans", "(I)I"⟩, .code ⟨mo_C, "loans", "(I)I"⟩ c_mo_loans 4 (some .int), .instanceMethod ⟨mo_C, "misfit", "(II)I"⟩, .selects mo_C ⟨mo_C, "misfit", "(II)I"⟩ ⟨mo_C, "misfit", "(II)I"⟩, .code ⟨mo_C, "misfit", "(II)I"⟩ c_mo_misfit 7 (some .int), .instanceMethod ⟨mo_C, "number", "(III)I"⟩, .selects mo_C ⟨mo_C, "number", "(III)I"⟩ ⟨mo_C, "number", "(III)I"⟩, .code ⟨mo_C, "number", "(III)I"⟩ c_mo_number 6 (some .int), .instanceMethod ⟨mo_C, "pass", "(IIIII)I"⟩, .selects mo_C ⟨mo_C, "pass", "(IIIII)I"⟩ ⟨mo_C, "pass", "(IIIII)I"⟩, .code ⟨mo_C, "pass", "(IIIII)I"⟩ c_mo_pass 8 (some .int), .static ⟨mo_C, "plainSize", "(I)I"⟩, .code ⟨mo_C, "plainSize", "(I)I"⟩ c_mo_plainSize 1 (some .int), .instanceMethod ⟨mo_C, "push", "(III)V"⟩, .selects mo_C ⟨mo_C, "push", "(III)V"⟩ ⟨mo_C, "push", "(III)V"⟩, .code ⟨mo_C, "push", "(III)V"⟩ c_mo_push 4 none, .instanceMethod ⟨mo_C, "put", "(IIII)V"⟩, .selects mo_C ⟨mo_C, "put", "(IIII)V"⟩ ⟨mo_C, "put", "(IIII)V"⟩, .code ⟨mo_C, "put", "(IIII)V"⟩ c_mo_put 6 none, .instanceMethod ⟨mo_C, "readAll", "(IIII)V"⟩, .selects mo_C ⟨mo_C, "readAll", "(IIII)V"⟩ ⟨mo_C, "readAll", "(IIII)V"⟩, .code ⟨mo_C, "readAll", "(IIII)V"⟩ c_mo_readAll 11 none, .instanceMethod ⟨mo_C, "readHandle", "(IIII)V"⟩, .selects mo_C ⟨mo_C, "readHandle", "(IIII)V"⟩ ⟨mo_C, "readHandle", "(IIII)V"⟩, .code ⟨mo_C, "readHandle", "(IIII)V"⟩ c_mo_readHandle 8 none, .instanceMethod ⟨mo_C, "readItem", "(IIIIII)V"⟩, .selects mo_C ⟨mo_C, "readItem", "(IIIIII)V"⟩ ⟨mo_C, "readItem", "(IIIIII)V"⟩, .code ⟨mo_C, "readItem", "(IIIIII)V"⟩ c_mo_readItem 10 none, .instanceMethod ⟨mo_C, "readPlain", "(III)V"⟩, .selects mo_C ⟨mo_C, "readPlain", "(III)V"⟩ ⟨mo_C, "readPlain", "(III)V"⟩, .code ⟨mo_C, "readPlain", "(III)V"⟩ c_mo_readPlain 7 none, .instanceMethod ⟨mo_C, "readText", "(III)V"⟩, .selects mo_C ⟨mo_C, "readText", "(III)V"⟩ ⟨mo_C, "readText", "(III)V"⟩, .code ⟨mo_C, "readText", "(III)V"⟩ c_mo_readText 11 none, .instanceMethod ⟨mo_C, "refuses", "(I)Z"⟩, .selects mo_C ⟨mo_C, "refuses", "(I)Z"⟩ ⟨mo_C, "refuses", "(I)Z"⟩, .code ⟨mo_C, "refuses", "(I)Z"⟩ c_mo_refuses 2 (some .boolean), .instanceMethod ⟨mo_C, "room", "(III)I"⟩, .selects mo_C ⟨mo_C, "room", "(III)I"⟩ ⟨mo_C, "room", "(III)I"⟩, .code ⟨mo_C, "room", "(III)I"⟩ c_mo_room 6 (some .int), .instanceMethod ⟨mo_C, "shared", "(II)I"⟩, .selects mo_C ⟨mo_C, "shared", "(II)I"⟩ ⟨mo_C, "shared", "(II)I"⟩, .code ⟨mo_C, "shared", "(II)I"⟩ c_mo_shared 3 (some .int), .instanceMethod ⟨mo_C, "trapped", "(III)I"⟩, .selects mo_C ⟨mo_C, "trapped", "(III)I"⟩ ⟨mo_C, "trapped", "(III)I"⟩, .code ⟨mo_C, "trapped", "(III)I"⟩ c_mo_trapped 5 (some .int), .static ⟨mo_C, "upTo", "(II)I"⟩, .code ⟨mo_C, "upTo", "(II)I"⟩ c_mo_upTo 2 (some .int), .instanceMethod ⟨mo_C, "writeHandle", "(II)V"⟩, .selects mo_C ⟨mo_C, "writeHandle", "(II)V"⟩ ⟨mo_C, "writeHandle", "(II)V"⟩, .code ⟨mo_C, "writeHandle", "(II)V"⟩ c_mo_writeHandle 5 none, .instanceMethod ⟨mo_C, "writeItem", "(III)V"⟩, .selects mo_C ⟨mo_C, "writeItem", "(III)V"⟩ ⟨mo_C, "writeItem", "(III)V"⟩, .code ⟨mo_C, "writeItem", "(III)V"⟩ c_mo_writeItem 9 none, .constantLong mo_C 206 255, .constant mo_C 254 1114111, .constant mo_C 255 55295, .constant mo_C 256 57344]
def mo_ws : List Cond := mo_wl ++ u_ws R_mo T_mo 60
def mo_m (k : Nat) (nm ds : String) (cc : ByteArray) (nL : Nat) (rt : Option FieldType) : ev_M := (⟨mo_C, nm, ds⟩, cc, nL, rt, Cond.code ⟨mo_C, nm, ds⟩ cc nL rt :: mo_ws, mo_rm k)
abbrev m_thrown : ev_M := mo_m 0 "thrown" "()I" c_mo_thrown 1 (some .int)
abbrev m_refuses : ev_M := mo_m 0 "refuses" "(I)Z" c_mo_refuses 2 (some .boolean)
abbrev m_isType : ev_M := mo_m 0 "isType" "(I)Z" c_mo_isType 2 (some .boolean)
abbrev m_isInstance : ev_M := mo_m 0 "isInstance" "(I)Z" c_mo_isInstance 2 (some .boolean)
abbrev m_upTo : ev_M := mo_m 0 "upTo" "(II)I" c_mo_upTo 2 (some .int)
abbrev m_part : ev_M := mo_m 1 "part" "(I)I" c_mo_part 2 (some .int)
abbrev m_plainSize : ev_M := mo_m 0 "plainSize" "(I)I" c_mo_plainSize 1 (some .int)
abbrev m_lays : ev_M := mo_m 1 "lays" "(II)Z" c_mo_lays 9 (some .boolean)
abbrev m_type : ev_M := mo_m 2 "type" "(II)I" c_mo_type 5 (some .int)
abbrev m_layout : ev_M := mo_m 1 "layout" "(II)I" c_mo_layout 3 (some .int)
abbrev m_await : ev_M := mo_m 0 "await" "(IIIIII)V" c_mo_await 7 none
abbrev m_shared : ev_M := mo_m 0 "shared" "(II)I" c_mo_shared 3 (some .int)
abbrev m_alike : ev_M := mo_m 0 "alike" "(II)Z" c_mo_alike 4 (some .boolean)
abbrev m_misfit : ev_M := mo_m 1 "misfit" "(II)I" c_mo_misfit 7 (some .int)
abbrev m_fits : ev_M := mo_m 2 "fits" "(II)I" c_mo_fits 3 (some .int)
abbrev m_lends : ev_M := mo_m 1 "lends" "(I)Z" c_mo_lends 4 (some .boolean)
abbrev m_instance : ev_M := mo_m 1 "instance" "()I" c_mo_instance 1 (some .int)
abbrev m_function : ev_M := mo_m 2 "function" "(III)I" c_mo_function 4 (some .int)
abbrev m_write : ev_M := mo_m 1 "write" "(IIIJ)V" c_mo_write 7 none
abbrev m_read : ev_M := mo_m 1 "read" "(II)I" c_mo_read 3 (some .int)
abbrev m_enter : ev_M := mo_m 1 "enter" "(I)V" c_mo_enter 2 none
abbrev m_push : ev_M := mo_m 0 "push" "(III)V" c_mo_push 4 none
abbrev m_leave : ev_M := mo_m 1 "leave" "()V" c_mo_leave 1 none
abbrev m_freeHandle : ev_M := mo_m 0 "freeHandle" "(I)I" c_mo_freeHandle 4 (some .int)
abbrev m_loans : ev_M := mo_m 0 "loans" "(I)I" c_mo_loans 4 (some .int)
abbrev m_make : ev_M := mo_m 1 "make" "(I)I" c_mo_make 4 (some .int)
abbrev m_drop : ev_M := mo_m 1 "drop" "(I)Z" c_mo_drop 4 (some .boolean)
abbrev m_handle : ev_M := mo_m 1 "handle" "(III)I" c_mo_handle 5 (some .int)
abbrev m_fails : ev_M := mo_m 0 "fails" "(II)V" c_mo_fails 3 none
abbrev m_byteAt : ev_M := mo_m 1 "byteAt" "(II)I" c_mo_byteAt 3 (some .int)
abbrev m_number : ev_M := mo_m 2 "number" "(III)I" c_mo_number 6 (some .int)
abbrev m_readText : ev_M := mo_m 2 "readText" "(III)V" c_mo_readText 11 none
abbrev m_readHandle : ev_M := mo_m 2 "readHandle" "(IIII)V" c_mo_readHandle 8 none
abbrev m_readItem : ev_M := mo_m 4 "readItem" "(IIIIII)V" c_mo_readItem 10 none
abbrev m_readPlain : ev_M := mo_m 3 "readPlain" "(III)V" c_mo_readPlain 7 none
abbrev m_readAll : ev_M := mo_m 5 "readAll" "(IIII)V" c_mo_readAll 11 none
abbrev m_room : ev_M := mo_m 1 "room" "(III)I" c_mo_room 6 (some .int)
abbrev m_put : ev_M := mo_m 0 "put" "(IIII)V" c_mo_put 6 none
abbrev m_writeHandle : ev_M := mo_m 1 "writeHandle" "(II)V" c_mo_writeHandle 5 none
abbrev m_writeItem : ev_M := mo_m 2 "writeItem" "(III)V" c_mo_writeItem 9 none
abbrev m_pass : ev_M := mo_m 6 "pass" "(IIIII)I" c_mo_pass 8 (some .int)
abbrev m_trapped : ev_M := mo_m 0 "trapped" "(III)I" c_mo_trapped 5 (some .int)
abbrev m_call : ev_M := mo_m 7 "call" "(III)I" c_mo_call 8 (some .int)
abbrev m_back : ev_M := mo_m 7 "back" "(II)I" c_mo_back 7 (some .int)
abbrev m_trap : ev_M := mo_m 1 "trap" "()V" c_mo_trap 1 none
abbrev m_passed : ev_M := mo_m 0 "passed" "()I" c_mo_passed 1 (some .int)
abbrev m_depth : ev_M := mo_m 0 "depth" "()I" c_mo_depth 1 (some .int)
abbrev m_level : ev_M := mo_m 0 "level" "(I)I" c_mo_level 2 (some .int)
abbrev m_inUse : ev_M := mo_m 0 "inUse" "(I)I" c_mo_inUse 4 (some .int)
abbrev m_state : ev_M := mo_m 1 "state" "(II)I" c_mo_state 3 (some .int)
abbrev m_close : ev_M := mo_m 1 "close" "(I)I" c_mo_close 5 (some .int)
abbrev m_resources : ev_M := mo_m 1 "resources" "(IZ)I" c_mo_resources 5 (some .int)
abbrev m_latest : ev_M := mo_m 1 "latest" "(I)I" c_mo_latest 2 (some .int)
theorem mo_pl : plainName mo_C = true := by decide +kernel
theorem mo_n1 : mo_C ≠ "java/lang/invoke/MethodHandle" := by decide +kernel
theorem mo_n2 : mo_C ≠ "java/lang/invoke/VarHandle" := by decide +kernel
theorem mo_inl {w : Cond} {i : Nat} (h : mo_wl[i]? = some w) : w ∈ mo_ws := List.mem_append_left _ (List.mem_of_getElem? h)
theorem mo_inu : ∀ w ∈ u_ws R_mo T_mo 60, w ∈ mo_ws := fun _ h => List.mem_append_right _ h
theorem mo_gd : ∀ w ∈ mo_ws, goodWord w = true := by decide +kernel
theorem lk_of {w : Cond} {idx k i : Nat} (hk : k < 60) (h : mo_wl[i]? = some (Cond.fieldLink mo_C idx (T_mo k).1 (T_mo k).2.1 (T_mo k).2.2.1)) : ev_F cl_A (w :: mo_ws) mo_C idx mo_ci k :=
  ⟨R_mo, T_mo, 60, rfl, fun _ h => List.mem_cons_of_mem _ (mo_inu _ h), hk, List.mem_cons_of_mem _ (mo_inl h)⟩
theorem lp_of {w : Cond} {idx k i : Nat} {ty : FieldType} (hk : k < 60) (h : mo_wl[i]? = some (Cond.fieldLink mo_C idx (T_mo k).1 (T_mo k).2.1 (T_mo k).2.2.1)) (hf : (T_mo k).2.2.2 = false) (ht : parseFieldDescriptor (T_mo k).2.2.1 = some ty) : ev_FP cl_A (w :: mo_ws) mo_C idx mo_ci k ty :=
  ⟨R_mo, T_mo, 60, t_mo, rfl, fun _ h => List.mem_cons_of_mem _ (mo_inu _ h), hk, List.mem_cons_of_mem _ (mo_inl h), t_mo_ok, n_mo_ok, hf, ht⟩
theorem lk_7 {w : Cond} : ev_F cl_A (w :: mo_ws) mo_C 7 mo_ci 2 := lk_of (i := 1) (by decide) rfl
theorem lk_13 {w : Cond} : ev_F cl_A (w :: mo_ws) mo_C 13 mo_ci 3 := lk_of (i := 2) (by decide) rfl
theorem lk_16 {w : Cond} : ev_F cl_A (w :: mo_ws) mo_C 16 mo_ci 4 := lk_of (i := 3) (by decide) rfl
theorem lk_19 {w : Cond} : ev_F cl_A (w :: mo_ws) mo_C 19 mo_ci 5 := lk_of (i := 4) (by decide) rfl
theorem lk_22 {w : Cond} : ev_F cl_A (w :: mo_ws) mo_C 22 mo_ci 6 := lk_of (i := 5) (by decide) rfl
theorem lk_25 {w : Cond} : ev_F cl_A (w :: mo_ws) mo_C 25 mo_ci 7 := lk_of (i := 6) (by decide) rfl
theorem lk_28 {w : Cond} : ev_F cl_A (w :: mo_ws) mo_C 28 mo_ci 8 := lk_of (i := 7) (by decide) rfl
theorem lk_31 {w : Cond} : ev_F cl_A (w :: mo_ws) mo_C 31 mo_ci 9 := lk_of (i := 8) (by decide) rfl
theorem lk_34 {w : Cond} : ev_F cl_A (w :: mo_ws) mo_C 34 mo_ci 11 := lk_of (i := 9) (by decide) rfl
theorem lk_37 {w : Cond} : ev_F cl_A (w :: mo_ws) mo_C 37 mo_ci 13 := lk_of (i := 10) (by decide) rfl
theorem lk_40 {w : Cond} : ev_F cl_A (w :: mo_ws) mo_C 40 mo_ci 14 := lk_of (i := 11) (by decide) rfl
theorem lk_43 {w : Cond} : ev_F cl_A (w :: mo_ws) mo_C 43 mo_ci 15 := lk_of (i := 12) (by decide) rfl
theorem lk_46 {w : Cond} : ev_F cl_A (w :: mo_ws) mo_C 46 mo_ci 16 := lk_of (i := 13) (by decide) rfl
theorem lk_50 {w : Cond} : ev_F cl_A (w :: mo_ws) mo_C 50 mo_ci 17 := lk_of (i := 14) (by decide) rfl
theorem lk_53 {w : Cond} : ev_F cl_A (w :: mo_ws) mo_C 53 mo_ci 18 := lk_of (i := 15) (by decide) rfl
theorem lk_56 {w : Cond} : ev_F cl_A (w :: mo_ws) mo_C 56 mo_ci 19 := lk_of (i := 16) (by decide) rfl
theorem lk_59 {w : Cond} : ev_F cl_A (w :: mo_ws) mo_C 59 mo_ci 20 := lk_of (i := 17) (by decide) rfl
theorem lk_62 {w : Cond} : ev_F cl_A (w :: mo_ws) mo_C 62 mo_ci 21 := lk_of (i := 18) (by decide) rfl
theorem lk_65 {w : Cond} : ev_F cl_A (w :: mo_ws) mo_C 65 mo_ci 23 := lk_of (i := 19) (by decide) rfl
theorem lk_68 {w : Cond} : ev_F cl_A (w :: mo_ws) mo_C 68 mo_ci 24 := lk_of (i := 20) (by decide) rfl
theorem lk_71 {w : Cond} : ev_F cl_A (w :: mo_ws) mo_C 71 mo_ci 26 := lk_of (i := 21) (by decide) rfl
theorem lk_74 {w : Cond} : ev_F cl_A (w :: mo_ws) mo_C 74 mo_ci 27 := lk_of (i := 22) (by decide) rfl
theorem lk_77 {w : Cond} : ev_F cl_A (w :: mo_ws) mo_C 77 mo_ci 28 := lk_of (i := 23) (by decide) rfl
theorem lk_80 {w : Cond} : ev_F cl_A (w :: mo_ws) mo_C 80 mo_ci 30 := lk_of (i := 24) (by decide) rfl
theorem lk_83 {w : Cond} : ev_F cl_A (w :: mo_ws) mo_C 83 mo_ci 31 := lk_of (i := 25) (by decide) rfl
theorem lk_86 {w : Cond} : ev_F cl_A (w :: mo_ws) mo_C 86 mo_ci 32 := lk_of (i := 26) (by decide) rfl
theorem lk_89 {w : Cond} : ev_F cl_A (w :: mo_ws) mo_C 89 mo_ci 35 := lk_of (i := 27) (by decide) rfl
theorem lp_89 {w : Cond} : ev_FP cl_A (w :: mo_ws) mo_C 89 mo_ci 35 .int := lp_of (i := 27) (by decide) rfl rfl (by decide +kernel)
theorem lk_93 {w : Cond} : ev_F cl_A (w :: mo_ws) mo_C 93 mo_ci 37 := lk_of (i := 28) (by decide) rfl
theorem lk_96 {w : Cond} : ev_F cl_A (w :: mo_ws) mo_C 96 mo_ci 38 := lk_of (i := 29) (by decide) rfl
theorem lk_99 {w : Cond} : ev_F cl_A (w :: mo_ws) mo_C 99 mo_ci 39 := lk_of (i := 30) (by decide) rfl
theorem lk_102 {w : Cond} : ev_F cl_A (w :: mo_ws) mo_C 102 mo_ci 40 := lk_of (i := 31) (by decide) rfl
theorem lk_105 {w : Cond} : ev_F cl_A (w :: mo_ws) mo_C 105 mo_ci 41 := lk_of (i := 32) (by decide) rfl
theorem lk_108 {w : Cond} : ev_F cl_A (w :: mo_ws) mo_C 108 mo_ci 42 := lk_of (i := 33) (by decide) rfl
theorem lk_111 {w : Cond} : ev_F cl_A (w :: mo_ws) mo_C 111 mo_ci 44 := lk_of (i := 34) (by decide) rfl
theorem lk_114 {w : Cond} : ev_F cl_A (w :: mo_ws) mo_C 114 mo_ci 45 := lk_of (i := 35) (by decide) rfl
theorem lk_117 {w : Cond} : ev_F cl_A (w :: mo_ws) mo_C 117 mo_ci 46 := lk_of (i := 36) (by decide) rfl
theorem lk_120 {w : Cond} : ev_F cl_A (w :: mo_ws) mo_C 120 mo_ci 47 := lk_of (i := 37) (by decide) rfl
theorem lk_123 {w : Cond} : ev_F cl_A (w :: mo_ws) mo_C 123 mo_ci 48 := lk_of (i := 38) (by decide) rfl
theorem lk_126 {w : Cond} : ev_F cl_A (w :: mo_ws) mo_C 126 mo_ci 49 := lk_of (i := 39) (by decide) rfl
theorem lk_129 {w : Cond} : ev_F cl_A (w :: mo_ws) mo_C 129 mo_ci 50 := lk_of (i := 40) (by decide) rfl
theorem lk_132 {w : Cond} : ev_F cl_A (w :: mo_ws) mo_C 132 mo_ci 51 := lk_of (i := 41) (by decide) rfl
theorem lk_135 {w : Cond} : ev_F cl_A (w :: mo_ws) mo_C 135 mo_ci 53 := lk_of (i := 42) (by decide) rfl
theorem lk_138 {w : Cond} : ev_F cl_A (w :: mo_ws) mo_C 138 mo_ci 59 := lk_of (i := 43) (by decide) rfl
theorem lk_141 {w : Cond} : ev_F cl_A (w :: mo_ws) mo_C 141 mo_ci 0 := lk_of (i := 44) (by decide) rfl
theorem lp_141 {w : Cond} : ev_FP cl_A (w :: mo_ws) mo_C 141 mo_ci 0 .int := lp_of (i := 44) (by decide) rfl rfl (by decide +kernel)
theorem lk_144 {w : Cond} : ev_F cl_A (w :: mo_ws) mo_C 144 mo_ci 1 := lk_of (i := 45) (by decide) rfl
theorem lp_144 {w : Cond} : ev_FP cl_A (w :: mo_ws) mo_C 144 mo_ci 1 .int := lp_of (i := 45) (by decide) rfl rfl (by decide +kernel)
theorem lk_147 {w : Cond} : ev_F cl_A (w :: mo_ws) mo_C 147 mo_ci 12 := lk_of (i := 46) (by decide) rfl
theorem lp_147 {w : Cond} : ev_FP cl_A (w :: mo_ws) mo_C 147 mo_ci 12 .int := lp_of (i := 46) (by decide) rfl rfl (by decide +kernel)
theorem lk_154 {w : Cond} : ev_F cl_A (w :: mo_ws) mo_C 154 mo_ci 10 := lk_of (i := 47) (by decide) rfl
theorem lp_154 {w : Cond} : ev_FP cl_A (w :: mo_ws) mo_C 154 mo_ci 10 .int := lp_of (i := 47) (by decide) rfl rfl (by decide +kernel)
theorem lk_160 {w : Cond} : ev_F cl_A (w :: mo_ws) mo_C 160 mo_ci 56 := lk_of (i := 48) (by decide) rfl
theorem lp_160 {w : Cond} : ev_FP cl_A (w :: mo_ws) mo_C 160 mo_ci 56 .int := lp_of (i := 48) (by decide) rfl rfl (by decide +kernel)
theorem lk_167 {w : Cond} : ev_F cl_A (w :: mo_ws) mo_C 167 mo_ci 57 := lk_of (i := 49) (by decide) rfl
theorem lp_167 {w : Cond} : ev_FP cl_A (w :: mo_ws) mo_C 167 mo_ci 57 .int := lp_of (i := 49) (by decide) rfl rfl (by decide +kernel)
theorem lk_170 {w : Cond} : ev_F cl_A (w :: mo_ws) mo_C 170 mo_ci 58 := lk_of (i := 50) (by decide) rfl
theorem lp_170 {w : Cond} : ev_FP cl_A (w :: mo_ws) mo_C 170 mo_ci 58 .int := lp_of (i := 50) (by decide) rfl rfl (by decide +kernel)
theorem lk_181 {w : Cond} : ev_F cl_A (w :: mo_ws) mo_C 181 mo_ci 36 := lk_of (i := 51) (by decide) rfl
theorem lp_181 {w : Cond} : ev_FP cl_A (w :: mo_ws) mo_C 181 mo_ci 36 .int := lp_of (i := 51) (by decide) rfl rfl (by decide +kernel)
theorem lk_203 {w : Cond} : ev_F cl_A (w :: mo_ws) mo_C 203 mo_ci 25 := lk_of (i := 52) (by decide) rfl
theorem lp_203 {w : Cond} : ev_FP cl_A (w :: mo_ws) mo_C 203 mo_ci 25 .int := lp_of (i := 52) (by decide) rfl rfl (by decide +kernel)
theorem lk_208 {w : Cond} : ev_F cl_A (w :: mo_ws) mo_C 208 mo_ci 29 := lk_of (i := 53) (by decide) rfl
theorem lp_208 {w : Cond} : ev_FP cl_A (w :: mo_ws) mo_C 208 mo_ci 29 .int := lp_of (i := 53) (by decide) rfl rfl (by decide +kernel)
theorem lk_218 {w : Cond} : ev_F cl_A (w :: mo_ws) mo_C 218 mo_ci 22 := lk_of (i := 54) (by decide) rfl
theorem lp_218 {w : Cond} : ev_FP cl_A (w :: mo_ws) mo_C 218 mo_ci 22 .int := lp_of (i := 54) (by decide) rfl rfl (by decide +kernel)
theorem lk_224 {w : Cond} : ev_F cl_A (w :: mo_ws) mo_C 224 mo_ci 54 := lk_of (i := 55) (by decide) rfl
theorem lp_224 {w : Cond} : ev_FP cl_A (w :: mo_ws) mo_C 224 mo_ci 54 .int := lp_of (i := 55) (by decide) rfl rfl (by decide +kernel)
theorem lk_227 {w : Cond} : ev_F cl_A (w :: mo_ws) mo_C 227 mo_ci 55 := lk_of (i := 56) (by decide) rfl
theorem lp_227 {w : Cond} : ev_FP cl_A (w :: mo_ws) mo_C 227 mo_ci 55 .int := lp_of (i := 56) (by decide) rfl rfl (by decide +kernel)
theorem lk_237 {w : Cond} : ev_F cl_A (w :: mo_ws) mo_C 237 mo_ci 43 := lk_of (i := 57) (by decide) rfl
theorem lp_237 {w : Cond} : ev_FP cl_A (w :: mo_ws) mo_C 237 mo_ci 43 .int := lp_of (i := 57) (by decide) rfl rfl (by decide +kernel)
theorem lk_260 {w : Cond} : ev_F cl_A (w :: mo_ws) mo_C 260 mo_ci 52 := lk_of (i := 58) (by decide) rfl
theorem lp_260 {w : Cond} : ev_FP cl_A (w :: mo_ws) mo_C 260 mo_ci 52 .int := lp_of (i := 58) (by decide) rfl rfl (by decide +kernel)
theorem lk_278 {w : Cond} : ev_F cl_A (w :: mo_ws) mo_C 278 mo_ci 33 := lk_of (i := 59) (by decide) rfl
theorem lp_278 {w : Cond} : ev_FP cl_A (w :: mo_ws) mo_C 278 mo_ci 33 .int := lp_of (i := 59) (by decide) rfl rfl (by decide +kernel)
theorem lk_281 {w : Cond} : ev_F cl_A (w :: mo_ws) mo_C 281 mo_ci 34 := lk_of (i := 60) (by decide) rfl
theorem lp_281 {w : Cond} : ev_FP cl_A (w :: mo_ws) mo_C 281 mo_ci 34 .int := lp_of (i := 60) (by decide) rfl rfl (by decide +kernel)
theorem kq_206 {w : Cond} : Cond.constantLong mo_C 206 255 ∈ (w :: mo_ws) := List.mem_cons_of_mem _ (mo_inl (i := 175) rfl)
theorem kq_254 {w : Cond} : Cond.constant mo_C 254 1114111 ∈ (w :: mo_ws) := List.mem_cons_of_mem _ (mo_inl (i := 176) rfl)
theorem kq_255 {w : Cond} : Cond.constant mo_C 255 55295 ∈ (w :: mo_ws) := List.mem_cons_of_mem _ (mo_inl (i := 177) rfl)
theorem kq_256 {w : Cond} : Cond.constant mo_C 256 57344 ∈ (w :: mo_ws) := List.mem_cons_of_mem _ (mo_inl (i := 178) rfl)
theorem mo_gw {c c' : Cond} (h : c' ∈ mo_ws) (l0 : List Cond) (hl : ∀ w ∈ l0, w ∈ mo_ws) : GoodIn (c :: mo_ws) (l0 ++ c' :: mo_ws) := by
  have key : ∀ w ∈ mo_ws, w ∈ c :: mo_ws ∧ ((w.onTables && w.keeps) = true ∨ ∃ ty, w = .arrayClass ty) := fun w h => ⟨List.mem_cons_of_mem _ h, good_of_word (mo_gd w h)⟩
  intro w hw
  rcases List.mem_append.mp hw with hw | hw
  · exact key w (hl w hw)
  · rcases List.mem_cons.mp hw with rfl | hw
    · exact key _ h
    · exact key w hw
theorem kv_of {k k' : Nat} {nm ds nm' ds' : String} {cc cc' : ByteArray} {nL nL' idx n i0 i1 i2 i3 : Nat} {rt rt' : Option FieldType} (h0 : mo_wl[i0]? = some (.methodLink mo_C idx ⟨mo_C, nm', ds'⟩)) (h1 : mo_wl[i1]? = some (.instanceMethod ⟨mo_C, nm', ds'⟩)) (h2 : mo_wl[i2]? = some (.selects mo_C ⟨mo_C, nm', ds'⟩ ⟨mo_C, nm', ds'⟩)) (h3 : mo_wl[i3]? = some (.code ⟨mo_C, nm', ds'⟩ cc' nL' rt')) (hd : (parseMethodDescriptor ds').map (fun d => d.parameters.length) = some n) : ev_kV (mo_m k nm ds cc nL rt) (mo_m k' nm' ds' cc' nL' rt') idx n := by
  refine ⟨mo_gw (mo_inl h3) [_, _, _, _] ?_, ⟨_, rfl⟩, mo_n1, mo_n2, hd⟩
  intro w hw
  simp only [List.mem_cons, List.not_mem_nil, or_false] at hw
  rcases hw with rfl | rfl | rfl | rfl
  · exact mo_inl h0
  · exact mo_inl h1
  · exact mo_inl h2
  · exact mo_inl (i := 0) rfl
theorem ks_of {k k' : Nat} {nm ds nm' ds' : String} {cc cc' : ByteArray} {nL nL' idx n i0 i1 i3 : Nat} {rt rt' : Option FieldType} (h0 : mo_wl[i0]? = some (.methodLink mo_C idx ⟨mo_C, nm', ds'⟩)) (h1 : mo_wl[i1]? = some (.static ⟨mo_C, nm', ds'⟩)) (h3 : mo_wl[i3]? = some (.code ⟨mo_C, nm', ds'⟩ cc' nL' rt')) (hd : (parseMethodDescriptor ds').map (fun d => d.parameters.length) = some n) : ev_kS (mo_m k nm ds cc nL rt) (mo_m k' nm' ds' cc' nL' rt') idx n := by
  refine ⟨mo_gw (mo_inl h3) [_, _, _] ?_, ⟨_, rfl⟩, mo_n1, mo_n2, hd⟩
  intro w hw
  simp only [List.mem_cons, List.not_mem_nil, or_false] at hw
  rcases hw with rfl | rfl | rfl
  · exact mo_inl h0
  · exact mo_inl h1
  · exact mo_inl (i := 0) rfl
theorem kr_of {k k' : Nat} {nm ds nm' ds' : String} {cc cc' : ByteArray} {nL nL' : Nat} {rt rt' : Option FieldType} (h : k' < k) (hn : nL' ≤ 21) : ev_kR (mo_m k nm ds cc nL rt) (mo_m k' nm' ds' cc' nL' rt') 0 0 0 0 := by
  refine ⟨rfl, rfl, ⟨h, ?_⟩, Nat.le_refl _, Nat.le_refl _⟩
  show 8 + (nL' + 11) + 40 * k' ≤ 40 * k
  omega
theorem kc_150 {k nL : Nat} {nm ds : String} {cc : ByteArray} {rt : Option FieldType} : ev_kV (mo_m k nm ds cc nL rt) m_isType 150 1 := kv_of (i0 := 61) (i1 := 111) (i2 := 112) (i3 := 113) rfl rfl rfl rfl (by decide +kernel)
theorem kc_157 {k nL : Nat} {nm ds : String} {cc : ByteArray} {rt : Option FieldType} : ev_kV (mo_m k nm ds cc nL rt) m_refuses 157 1 := kv_of (i0 := 62) (i1 := 155) (i2 := 156) (i3 := 157) rfl rfl rfl rfl (by decide +kernel)
theorem kc_163 {k nL : Nat} {nm ds : String} {cc : ByteArray} {rt : Option FieldType} : ev_kS (mo_m k nm ds cc nL rt) m_plainSize 163 1 := ks_of (i0 := 63) (i1 := 132) (i3 := 133) rfl rfl rfl (by decide +kernel)
theorem kc_173 {k nL : Nat} {nm ds : String} {cc : ByteArray} {rt : Option FieldType} : ev_kS (mo_m k nm ds cc nL rt) m_upTo 173 2 := ks_of (i0 := 64) (i1 := 167) (i3 := 168) rfl rfl rfl (by decide +kernel)
theorem kc_177 {k nL : Nat} {nm ds : String} {cc : ByteArray} {rt : Option FieldType} : ev_kV (mo_m k nm ds cc nL rt) m_lays 177 2 := kv_of (i0 := 65) (i1 := 114) (i2 := 115) (i3 := 116) rfl rfl rfl rfl (by decide +kernel)
theorem kc_184 {k nL : Nat} {nm ds : String} {cc : ByteArray} {rt : Option FieldType} : ev_kV (mo_m k nm ds cc nL rt) m_await 184 6 := kv_of (i0 := 66) (i1 := 93) (i2 := 94) (i3 := 95) rfl rfl rfl rfl (by decide +kernel)
theorem kc_188 {k nL : Nat} {nm ds : String} {cc : ByteArray} {rt : Option FieldType} : ev_kV (mo_m k nm ds cc nL rt) m_alike 188 2 := kv_of (i0 := 67) (i1 := 90) (i2 := 91) (i3 := 92) rfl rfl rfl rfl (by decide +kernel)
theorem kc_191 {k nL : Nat} {nm ds : String} {cc : ByteArray} {rt : Option FieldType} : ev_kV (mo_m k nm ds cc nL rt) m_shared 191 2 := kv_of (i0 := 68) (i1 := 161) (i2 := 162) (i3 := 163) rfl rfl rfl rfl (by decide +kernel)
theorem kc_194 {k nL : Nat} {nm ds : String} {cc : ByteArray} {rt : Option FieldType} : ev_kV (mo_m k nm ds cc nL rt) m_misfit 194 2 := kv_of (i0 := 69) (i1 := 123) (i2 := 124) (i3 := 125) rfl rfl rfl rfl (by decide +kernel)
theorem kc_197 {k nL : Nat} {nm ds : String} {cc : ByteArray} {rt : Option FieldType} : ev_kV (mo_m k nm ds cc nL rt) m_isInstance 197 1 := kv_of (i0 := 70) (i1 := 108) (i2 := 109) (i3 := 110) rfl rfl rfl rfl (by decide +kernel)
theorem kc_200 {k nL : Nat} {nm ds : String} {cc : ByteArray} {rt : Option FieldType} : ev_kV (mo_m k nm ds cc nL rt) m_lends 200 1 := kv_of (i0 := 71) (i1 := 117) (i2 := 118) (i3 := 119) rfl rfl rfl rfl (by decide +kernel)
theorem kc_211 {k nL : Nat} {nm ds : String} {cc : ByteArray} {rt : Option FieldType} : ev_kV (mo_m k nm ds cc nL rt) m_push 211 3 := kv_of (i0 := 72) (i1 := 134) (i2 := 135) (i3 := 136) rfl rfl rfl rfl (by decide +kernel)
theorem kc_215 {k nL : Nat} {nm ds : String} {cc : ByteArray} {rt : Option FieldType} : ev_kV (mo_m k nm ds cc nL rt) m_freeHandle 215 1 := kv_of (i0 := 73) (i1 := 102) (i2 := 103) (i3 := 104) rfl rfl rfl rfl (by decide +kernel)
theorem kc_221 {k nL : Nat} {nm ds : String} {cc : ByteArray} {rt : Option FieldType} : ev_kV (mo_m k nm ds cc nL rt) m_loans 221 1 := kv_of (i0 := 74) (i1 := 120) (i2 := 121) (i3 := 122) rfl rfl rfl rfl (by decide +kernel)
theorem kc_230 {k nL : Nat} {nm ds : String} {cc : ByteArray} {rt : Option FieldType} : ev_kV (mo_m k nm ds cc nL rt) m_fails 230 2 := kv_of (i0 := 75) (i1 := 99) (i2 := 100) (i3 := 101) rfl rfl rfl rfl (by decide +kernel)
theorem kc_234 {k nL : Nat} {nm ds : String} {cc : ByteArray} {rt : Option FieldType} : ev_kV (mo_m k nm ds cc nL rt) m_byteAt 234 2 := kv_of (i0 := 76) (i1 := 96) (i2 := 97) (i3 := 98) rfl rfl rfl rfl (by decide +kernel)
theorem kc_240 {k nL : Nat} {nm ds : String} {cc : ByteArray} {rt : Option FieldType} : ev_kV (mo_m k nm ds cc nL rt) m_number 240 3 := kv_of (i0 := 77) (i1 := 126) (i2 := 127) (i3 := 128) rfl rfl rfl rfl (by decide +kernel)
theorem kc_244 {k nL : Nat} {nm ds : String} {cc : ByteArray} {rt : Option FieldType} : ev_kV (mo_m k nm ds cc nL rt) m_readText 244 3 := kv_of (i0 := 78) (i1 := 152) (i2 := 153) (i3 := 154) rfl rfl rfl rfl (by decide +kernel)
theorem kc_247 {k nL : Nat} {nm ds : String} {cc : ByteArray} {rt : Option FieldType} : ev_kV (mo_m k nm ds cc nL rt) m_readHandle 247 4 := kv_of (i0 := 79) (i1 := 143) (i2 := 144) (i3 := 145) rfl rfl rfl rfl (by decide +kernel)
theorem kc_251 {k nL : Nat} {nm ds : String} {cc : ByteArray} {rt : Option FieldType} : ev_kV (mo_m k nm ds cc nL rt) m_readPlain 251 3 := kv_of (i0 := 80) (i1 := 149) (i2 := 150) (i3 := 151) rfl rfl rfl rfl (by decide +kernel)
theorem kc_257 {k nL : Nat} {nm ds : String} {cc : ByteArray} {rt : Option FieldType} : ev_kV (mo_m k nm ds cc nL rt) m_readItem 257 6 := kv_of (i0 := 81) (i1 := 146) (i2 := 147) (i3 := 148) rfl rfl rfl rfl (by decide +kernel)
theorem kc_263 {k nL : Nat} {nm ds : String} {cc : ByteArray} {rt : Option FieldType} : ev_kV (mo_m k nm ds cc nL rt) m_put 263 4 := kv_of (i0 := 82) (i1 := 137) (i2 := 138) (i3 := 139) rfl rfl rfl rfl (by decide +kernel)
theorem kc_266 {k nL : Nat} {nm ds : String} {cc : ByteArray} {rt : Option FieldType} : ev_kV (mo_m k nm ds cc nL rt) m_room 266 3 := kv_of (i0 := 83) (i1 := 158) (i2 := 159) (i3 := 160) rfl rfl rfl rfl (by decide +kernel)
theorem kc_269 {k nL : Nat} {nm ds : String} {cc : ByteArray} {rt : Option FieldType} : ev_kV (mo_m k nm ds cc nL rt) m_writeHandle 269 2 := kv_of (i0 := 84) (i1 := 169) (i2 := 170) (i3 := 171) rfl rfl rfl rfl (by decide +kernel)
theorem kc_272 {k nL : Nat} {nm ds : String} {cc : ByteArray} {rt : Option FieldType} : ev_kV (mo_m k nm ds cc nL rt) m_readAll 272 4 := kv_of (i0 := 85) (i1 := 140) (i2 := 141) (i3 := 142) rfl rfl rfl rfl (by decide +kernel)
theorem kc_275 {k nL : Nat} {nm ds : String} {cc : ByteArray} {rt : Option FieldType} : ev_kV (mo_m k nm ds cc nL rt) m_writeItem 275 3 := kv_of (i0 := 86) (i1 := 172) (i2 := 173) (i3 := 174) rfl rfl rfl rfl (by decide +kernel)
theorem kc_284 {k nL : Nat} {nm ds : String} {cc : ByteArray} {rt : Option FieldType} : ev_kV (mo_m k nm ds cc nL rt) m_trapped 284 3 := kv_of (i0 := 87) (i1 := 164) (i2 := 165) (i3 := 166) rfl rfl rfl rfl (by decide +kernel)
theorem kc_287 {k nL : Nat} {nm ds : String} {cc : ByteArray} {rt : Option FieldType} : ev_kV (mo_m k nm ds cc nL rt) m_pass 287 5 := kv_of (i0 := 88) (i1 := 129) (i2 := 130) (i3 := 131) rfl rfl rfl rfl (by decide +kernel)
theorem kc_291 {k nL : Nat} {nm ds : String} {cc : ByteArray} {rt : Option FieldType} : ev_kV (mo_m k nm ds cc nL rt) m_inUse 291 1 := kv_of (i0 := 89) (i1 := 105) (i2 := 106) (i3 := 107) rfl rfl rfl rfl (by decide +kernel)
def mo_qi (am : Nat → Nat) (kI kZ : ClassId) (P : Int32 → (Nat → Int32) → (Nat → Nat → Int32) → Prop) : Option Value → va_W → Prop := fun r w => ∃ (x : Int32) (F : Nat → Int32) (B : Nat → Nat → Int32), r = some (.int x) ∧ w = mo_W mo_ci am kI kZ F B ∧ P x F B
def mo_qv (am : Nat → Nat) (kI kZ : ClassId) (P : (Nat → Int32) → (Nat → Nat → Int32) → Prop) : Option Value → va_W → Prop := fun r w => ∃ (F : Nat → Int32) (B : Nat → Nat → Int32), r = none ∧ w = mo_W mo_ci am kI kZ F B ∧ P F B
/-- a yes or no -/
def mo_bl (x : Int32) (P : Prop) : Prop := (x = 1 ∧ P) ∨ (x = 0 ∧ ¬ P)
theorem mo_b0 {x : Int32} {P : Prop} (h : mo_bl x P) (e : x = 0) : ¬ P := by
  rcases h with ⟨rfl, -⟩ | ⟨-, h⟩
  · exact absurd e (by decide)
  · exact h
theorem mo_b1 {x : Int32} {P : Prop} (h : mo_bl x P) (e : ¬ x = 0) : P := by
  rcases h with ⟨-, h⟩ | ⟨rfl, -⟩
  · exact h
  · exact absurd rfl e
theorem mo_bn {x : Int32} {P : Prop} (h : mo_bl x P) : narrow .boolean (.int x) = .int x := by
  rcases h with ⟨rfl, -⟩ | ⟨rfl, -⟩ <;> rfl
section MOc
variable {l : Launch} {D : va_G} {tl : List (ClassId × FieldType)} {Z : (Nat → Prop) → State → Heap → Prop} {kI kZ : ClassId} {am : Nat → Nat} {F : Nat → Int32} {B : Nat → Nat → Int32} {E : ev_T} {lv : List (Option Value)} {st : List Value} {k k' nL nL' idx : Nat} {nm ds nm' ds' : String} {cc cc' : ByteArray} {rt rt' : Option FieldType}
theorem mo_calli0 {P : Int32 → (Nat → Int32) → (Nat → Nat → Int32) → Prop} (pc : Nat) (d : decode cc pc = .ok (.invokevirtual idx, 3)) (hZ : ev_Zok Z) (hk : ev_kV (mo_m k nm ds cc nL rt) (mo_m k' nm' ds' cc' nL' rt') idx 0) (hM : MT (mo_π l D cl_A kI kZ tl Z) (mo_m k' nm' ds' cc' nL' rt') 0 0 [.ref (am 60)] (mo_W mo_ci am kI kZ F B) (mo_qi am kI kZ P))
    (kk : ∀ (x : Int32) (F1 : Nat → Int32) (B1 : Nat → Nat → Int32), P x F1 B1 → EV (mo_π l D cl_A kI kZ tl Z) (mo_m k nm ds cc nL rt) E 0 0 (pc + 3) lv (.int x :: st) (mo_W mo_ci am kI kZ F1 B1)) (hR : k' < k := by decide) (hn : nL' ≤ 21 := by decide) (hrm : (st.map fun v => v.category).sum ≤ 8 := by exact Nat.le_of_ble_eq_true rfl) : EV (mo_π l D cl_A kI kZ tl Z) (mo_m k nm ds cc nL rt) E 0 0 pc lv (.ref (am 60) :: st) (mo_W mo_ci am kI kZ F B) := by
  refine ev_callV (T := T_mo) (N := 60) pc 0 [] st d hZ hk (kr_of hR hn) rfl rfl hM ?_ rfl hrm
  rintro r w ⟨x, F1, B1, rfl, rfl, hP⟩
  exact kk x F1 B1 hP
theorem mo_callv0 {P : (Nat → Int32) → (Nat → Nat → Int32) → Prop} (pc : Nat) (d : decode cc pc = .ok (.invokevirtual idx, 3)) (hZ : ev_Zok Z) (hk : ev_kV (mo_m k nm ds cc nL rt) (mo_m k' nm' ds' cc' nL' rt') idx 0) (hM : MT (mo_π l D cl_A kI kZ tl Z) (mo_m k' nm' ds' cc' nL' rt') 0 0 [.ref (am 60)] (mo_W mo_ci am kI kZ F B) (mo_qv am kI kZ P))
    (kk : ∀ (F1 : Nat → Int32) (B1 : Nat → Nat → Int32), P F1 B1 → EV (mo_π l D cl_A kI kZ tl Z) (mo_m k nm ds cc nL rt) E 0 0 (pc + 3) lv st (mo_W mo_ci am kI kZ F1 B1)) (hR : k' < k := by decide) (hn : nL' ≤ 21 := by decide) (hrm : (st.map fun v => v.category).sum ≤ 8 := by exact Nat.le_of_ble_eq_true rfl) : EV (mo_π l D cl_A kI kZ tl Z) (mo_m k nm ds cc nL rt) E 0 0 pc lv (.ref (am 60) :: st) (mo_W mo_ci am kI kZ F B) := by
  refine ev_callV (T := T_mo) (N := 60) pc 0 [] st d hZ hk (kr_of hR hn) rfl rfl hM ?_ rfl hrm
  rintro r w ⟨F1, B1, rfl, rfl, hP⟩
  exact kk F1 B1 hP
theorem mo_calli1 {x1 : Int32} {P : Int32 → (Nat → Int32) → (Nat → Nat → Int32) → Prop} (pc : Nat) (d : decode cc pc = .ok (.invokevirtual idx, 3)) (hZ : ev_Zok Z) (hk : ev_kV (mo_m k nm ds cc nL rt) (mo_m k' nm' ds' cc' nL' rt') idx 1) (hM : MT (mo_π l D cl_A kI kZ tl Z) (mo_m k' nm' ds' cc' nL' rt') 0 0 [.ref (am 60), .int x1] (mo_W mo_ci am kI kZ F B) (mo_qi am kI kZ P))
    (kk : ∀ (x : Int32) (F1 : Nat → Int32) (B1 : Nat → Nat → Int32), P x F1 B1 → EV (mo_π l D cl_A kI kZ tl Z) (mo_m k nm ds cc nL rt) E 0 0 (pc + 3) lv (.int x :: st) (mo_W mo_ci am kI kZ F1 B1)) (hR : k' < k := by decide) (hn : nL' ≤ 21 := by decide) (hrm : (st.map fun v => v.category).sum ≤ 8 := by exact Nat.le_of_ble_eq_true rfl) : EV (mo_π l D cl_A kI kZ tl Z) (mo_m k nm ds cc nL rt) E 0 0 pc lv (.int x1 :: .ref (am 60) :: st) (mo_W mo_ci am kI kZ F B) := by
  refine ev_callV (T := T_mo) (N := 60) pc 0 [.int x1] st d hZ hk (kr_of hR hn) rfl rfl hM ?_ rfl hrm
  rintro r w ⟨x, F1, B1, rfl, rfl, hP⟩
  exact kk x F1 B1 hP
theorem mo_callv1 {x1 : Int32} {P : (Nat → Int32) → (Nat → Nat → Int32) → Prop} (pc : Nat) (d : decode cc pc = .ok (.invokevirtual idx, 3)) (hZ : ev_Zok Z) (hk : ev_kV (mo_m k nm ds cc nL rt) (mo_m k' nm' ds' cc' nL' rt') idx 1) (hM : MT (mo_π l D cl_A kI kZ tl Z) (mo_m k' nm' ds' cc' nL' rt') 0 0 [.ref (am 60), .int x1] (mo_W mo_ci am kI kZ F B) (mo_qv am kI kZ P))
    (kk : ∀ (F1 : Nat → Int32) (B1 : Nat → Nat → Int32), P F1 B1 → EV (mo_π l D cl_A kI kZ tl Z) (mo_m k nm ds cc nL rt) E 0 0 (pc + 3) lv st (mo_W mo_ci am kI kZ F1 B1)) (hR : k' < k := by decide) (hn : nL' ≤ 21 := by decide) (hrm : (st.map fun v => v.category).sum ≤ 8 := by exact Nat.le_of_ble_eq_true rfl) : EV (mo_π l D cl_A kI kZ tl Z) (mo_m k nm ds cc nL rt) E 0 0 pc lv (.int x1 :: .ref (am 60) :: st) (mo_W mo_ci am kI kZ F B) := by
  refine ev_callV (T := T_mo) (N := 60) pc 0 [.int x1] st d hZ hk (kr_of hR hn) rfl rfl hM ?_ rfl hrm
  rintro r w ⟨F1, B1, rfl, rfl, hP⟩
  exact kk F1 B1 hP
theorem mo_scalli1 {x1 : Int32} {P : Int32 → (Nat → Int32) → (Nat → Nat → Int32) → Prop} (pc : Nat) (d : decode cc pc = .ok (.invokestatic idx, 3)) (hZ : ev_Zok Z) (hk : ev_kS (mo_m k nm ds cc nL rt) (mo_m k' nm' ds' cc' nL' rt') idx 1) (hM : MT (mo_π l D cl_A kI kZ tl Z) (mo_m k' nm' ds' cc' nL' rt') 0 0 [.int x1] (mo_W mo_ci am kI kZ F B) (mo_qi am kI kZ P))
    (kk : ∀ (x : Int32) (F1 : Nat → Int32) (B1 : Nat → Nat → Int32), P x F1 B1 → EV (mo_π l D cl_A kI kZ tl Z) (mo_m k nm ds cc nL rt) E 0 0 (pc + 3) lv (.int x :: st) (mo_W mo_ci am kI kZ F1 B1)) (hR : k' < k := by decide) (hn : nL' ≤ 21 := by decide) (hrm : (st.map fun v => v.category).sum ≤ 8 := by exact Nat.le_of_ble_eq_true rfl) : EV (mo_π l D cl_A kI kZ tl Z) (mo_m k nm ds cc nL rt) E 0 0 pc lv (.int x1 :: st) (mo_W mo_ci am kI kZ F B) := by
  refine ev_callS pc [.int x1] st d hZ hk (kr_of hR hn) hM ?_ rfl hrm
  rintro r w ⟨x, F1, B1, rfl, rfl, hP⟩
  exact kk x F1 B1 hP
theorem mo_calli2 {x1 x2 : Int32} {P : Int32 → (Nat → Int32) → (Nat → Nat → Int32) → Prop} (pc : Nat) (d : decode cc pc = .ok (.invokevirtual idx, 3)) (hZ : ev_Zok Z) (hk : ev_kV (mo_m k nm ds cc nL rt) (mo_m k' nm' ds' cc' nL' rt') idx 2) (hM : MT (mo_π l D cl_A kI kZ tl Z) (mo_m k' nm' ds' cc' nL' rt') 0 0 [.ref (am 60), .int x1, .int x2] (mo_W mo_ci am kI kZ F B) (mo_qi am kI kZ P))
    (kk : ∀ (x : Int32) (F1 : Nat → Int32) (B1 : Nat → Nat → Int32), P x F1 B1 → EV (mo_π l D cl_A kI kZ tl Z) (mo_m k nm ds cc nL rt) E 0 0 (pc + 3) lv (.int x :: st) (mo_W mo_ci am kI kZ F1 B1)) (hR : k' < k := by decide) (hn : nL' ≤ 21 := by decide) (hrm : (st.map fun v => v.category).sum ≤ 8 := by exact Nat.le_of_ble_eq_true rfl) : EV (mo_π l D cl_A kI kZ tl Z) (mo_m k nm ds cc nL rt) E 0 0 pc lv (.int x2 :: .int x1 :: .ref (am 60) :: st) (mo_W mo_ci am kI kZ F B) := by
  refine ev_callV (T := T_mo) (N := 60) pc 0 [.int x1, .int x2] st d hZ hk (kr_of hR hn) rfl rfl hM ?_ rfl hrm
  rintro r w ⟨x, F1, B1, rfl, rfl, hP⟩
  exact kk x F1 B1 hP
theorem mo_callv2 {x1 x2 : Int32} {P : (Nat → Int32) → (Nat → Nat → Int32) → Prop} (pc : Nat) (d : decode cc pc = .ok (.invokevirtual idx, 3)) (hZ : ev_Zok Z) (hk : ev_kV (mo_m k nm ds cc nL rt) (mo_m k' nm' ds' cc' nL' rt') idx 2) (hM : MT (mo_π l D cl_A kI kZ tl Z) (mo_m k' nm' ds' cc' nL' rt') 0 0 [.ref (am 60), .int x1, .int x2] (mo_W mo_ci am kI kZ F B) (mo_qv am kI kZ P))
    (kk : ∀ (F1 : Nat → Int32) (B1 : Nat → Nat → Int32), P F1 B1 → EV (mo_π l D cl_A kI kZ tl Z) (mo_m k nm ds cc nL rt) E 0 0 (pc + 3) lv st (mo_W mo_ci am kI kZ F1 B1)) (hR : k' < k := by decide) (hn : nL' ≤ 21 := by decide) (hrm : (st.map fun v => v.category).sum ≤ 8 := by exact Nat.le_of_ble_eq_true rfl) : EV (mo_π l D cl_A kI kZ tl Z) (mo_m k nm ds cc nL rt) E 0 0 pc lv (.int x2 :: .int x1 :: .ref (am 60) :: st) (mo_W mo_ci am kI kZ F B) := by
  refine ev_callV (T := T_mo) (N := 60) pc 0 [.int x1, .int x2] st d hZ hk (kr_of hR hn) rfl rfl hM ?_ rfl hrm
  rintro r w ⟨F1, B1, rfl, rfl, hP⟩
  exact kk F1 B1 hP
theorem mo_scalli2 {x1 x2 : Int32} {P : Int32 → (Nat → Int32) → (Nat → Nat → Int32) → Prop} (pc : Nat) (d : decode cc pc = .ok (.invokestatic idx, 3)) (hZ : ev_Zok Z) (hk : ev_kS (mo_m k nm ds cc nL rt) (mo_m k' nm' ds' cc' nL' rt') idx 2) (hM : MT (mo_π l D cl_A kI kZ tl Z) (mo_m k' nm' ds' cc' nL' rt') 0 0 [.int x1, .int x2] (mo_W mo_ci am kI kZ F B) (mo_qi am kI kZ P))
    (kk : ∀ (x : Int32) (F1 : Nat → Int32) (B1 : Nat → Nat → Int32), P x F1 B1 → EV (mo_π l D cl_A kI kZ tl Z) (mo_m k nm ds cc nL rt) E 0 0 (pc + 3) lv (.int x :: st) (mo_W mo_ci am kI kZ F1 B1)) (hR : k' < k := by decide) (hn : nL' ≤ 21 := by decide) (hrm : (st.map fun v => v.category).sum ≤ 8 := by exact Nat.le_of_ble_eq_true rfl) : EV (mo_π l D cl_A kI kZ tl Z) (mo_m k nm ds cc nL rt) E 0 0 pc lv (.int x2 :: .int x1 :: st) (mo_W mo_ci am kI kZ F B) := by
  refine ev_callS pc [.int x1, .int x2] st d hZ hk (kr_of hR hn) hM ?_ rfl hrm
  rintro r w ⟨x, F1, B1, rfl, rfl, hP⟩
  exact kk x F1 B1 hP
theorem mo_calli3 {x1 x2 x3 : Int32} {P : Int32 → (Nat → Int32) → (Nat → Nat → Int32) → Prop} (pc : Nat) (d : decode cc pc = .ok (.invokevirtual idx, 3)) (hZ : ev_Zok Z) (hk : ev_kV (mo_m k nm ds cc nL rt) (mo_m k' nm' ds' cc' nL' rt') idx 3) (hM : MT (mo_π l D cl_A kI kZ tl Z) (mo_m k' nm' ds' cc' nL' rt') 0 0 [.ref (am 60), .int x1, .int x2, .int x3] (mo_W mo_ci am kI kZ F B) (mo_qi am kI kZ P))
    (kk : ∀ (x : Int32) (F1 : Nat → Int32) (B1 : Nat → Nat → Int32), P x F1 B1 → EV (mo_π l D cl_A kI kZ tl Z) (mo_m k nm ds cc nL rt) E 0 0 (pc + 3) lv (.int x :: st) (mo_W mo_ci am kI kZ F1 B1)) (hR : k' < k := by decide) (hn : nL' ≤ 21 := by decide) (hrm : (st.map fun v => v.category).sum ≤ 8 := by exact Nat.le_of_ble_eq_true rfl) : EV (mo_π l D cl_A kI kZ tl Z) (mo_m k nm ds cc nL rt) E 0 0 pc lv (.int x3 :: .int x2 :: .int x1 :: .ref (am 60) :: st) (mo_W mo_ci am kI kZ F B) := by
  refine ev_callV (T := T_mo) (N := 60) pc 0 [.int x1, .int x2, .int x3] st d hZ hk (kr_of hR hn) rfl rfl hM ?_ rfl hrm
  rintro r w ⟨x, F1, B1, rfl, rfl, hP⟩
  exact kk x F1 B1 hP
theorem mo_callv3 {x1 x2 x3 : Int32} {P : (Nat → Int32) → (Nat → Nat → Int32) → Prop} (pc : Nat) (d : decode cc pc = .ok (.invokevirtual idx, 3)) (hZ : ev_Zok Z) (hk : ev_kV (mo_m k nm ds cc nL rt) (mo_m k' nm' ds' cc' nL' rt') idx 3) (hM : MT (mo_π l D cl_A kI kZ tl Z) (mo_m k' nm' ds' cc' nL' rt') 0 0 [.ref (am 60), .int x1, .int x2, .int x3] (mo_W mo_ci am kI kZ F B) (mo_qv am kI kZ P))
    (kk : ∀ (F1 : Nat → Int32) (B1 : Nat → Nat → Int32), P F1 B1 → EV (mo_π l D cl_A kI kZ tl Z) (mo_m k nm ds cc nL rt) E 0 0 (pc + 3) lv st (mo_W mo_ci am kI kZ F1 B1)) (hR : k' < k := by decide) (hn : nL' ≤ 21 := by decide) (hrm : (st.map fun v => v.category).sum ≤ 8 := by exact Nat.le_of_ble_eq_true rfl) : EV (mo_π l D cl_A kI kZ tl Z) (mo_m k nm ds cc nL rt) E 0 0 pc lv (.int x3 :: .int x2 :: .int x1 :: .ref (am 60) :: st) (mo_W mo_ci am kI kZ F B) := by
  refine ev_callV (T := T_mo) (N := 60) pc 0 [.int x1, .int x2, .int x3] st d hZ hk (kr_of hR hn) rfl rfl hM ?_ rfl hrm
  rintro r w ⟨F1, B1, rfl, rfl, hP⟩
  exact kk F1 B1 hP
theorem mo_calli4 {x1 x2 x3 x4 : Int32} {P : Int32 → (Nat → Int32) → (Nat → Nat → Int32) → Prop} (pc : Nat) (d : decode cc pc = .ok (.invokevirtual idx, 3)) (hZ : ev_Zok Z) (hk : ev_kV (mo_m k nm ds cc nL rt) (mo_m k' nm' ds' cc' nL' rt') idx 4) (hM : MT (mo_π l D cl_A kI kZ tl Z) (mo_m k' nm' ds' cc' nL' rt') 0 0 [.ref (am 60), .int x1, .int x2, .int x3, .int x4] (mo_W mo_ci am kI kZ F B) (mo_qi am kI kZ P))
    (kk : ∀ (x : Int32) (F1 : Nat → Int32) (B1 : Nat → Nat → Int32), P x F1 B1 → EV (mo_π l D cl_A kI kZ tl Z) (mo_m k nm ds cc nL rt) E 0 0 (pc + 3) lv (.int x :: st) (mo_W mo_ci am kI kZ F1 B1)) (hR : k' < k := by decide) (hn : nL' ≤ 21 := by decide) (hrm : (st.map fun v => v.category).sum ≤ 8 := by exact Nat.le_of_ble_eq_true rfl) : EV (mo_π l D cl_A kI kZ tl Z) (mo_m k nm ds cc nL rt) E 0 0 pc lv (.int x4 :: .int x3 :: .int x2 :: .int x1 :: .ref (am 60) :: st) (mo_W mo_ci am kI kZ F B) := by
  refine ev_callV (T := T_mo) (N := 60) pc 0 [.int x1, .int x2, .int x3, .int x4] st d hZ hk (kr_of hR hn) rfl rfl hM ?_ rfl hrm
  rintro r w ⟨x, F1, B1, rfl, rfl, hP⟩
  exact kk x F1 B1 hP
theorem mo_callv4 {x1 x2 x3 x4 : Int32} {P : (Nat → Int32) → (Nat → Nat → Int32) → Prop} (pc : Nat) (d : decode cc pc = .ok (.invokevirtual idx, 3)) (hZ : ev_Zok Z) (hk : ev_kV (mo_m k nm ds cc nL rt) (mo_m k' nm' ds' cc' nL' rt') idx 4) (hM : MT (mo_π l D cl_A kI kZ tl Z) (mo_m k' nm' ds' cc' nL' rt') 0 0 [.ref (am 60), .int x1, .int x2, .int x3, .int x4] (mo_W mo_ci am kI kZ F B) (mo_qv am kI kZ P))
    (kk : ∀ (F1 : Nat → Int32) (B1 : Nat → Nat → Int32), P F1 B1 → EV (mo_π l D cl_A kI kZ tl Z) (mo_m k nm ds cc nL rt) E 0 0 (pc + 3) lv st (mo_W mo_ci am kI kZ F1 B1)) (hR : k' < k := by decide) (hn : nL' ≤ 21 := by decide) (hrm : (st.map fun v => v.category).sum ≤ 8 := by exact Nat.le_of_ble_eq_true rfl) : EV (mo_π l D cl_A kI kZ tl Z) (mo_m k nm ds cc nL rt) E 0 0 pc lv (.int x4 :: .int x3 :: .int x2 :: .int x1 :: .ref (am 60) :: st) (mo_W mo_ci am kI kZ F B) := by
  refine ev_callV (T := T_mo) (N := 60) pc 0 [.int x1, .int x2, .int x3, .int x4] st d hZ hk (kr_of hR hn) rfl rfl hM ?_ rfl hrm
  rintro r w ⟨F1, B1, rfl, rfl, hP⟩
  exact kk F1 B1 hP
theorem mo_calli5 {x1 x2 x3 x4 x5 : Int32} {P : Int32 → (Nat → Int32) → (Nat → Nat → Int32) → Prop} (pc : Nat) (d : decode cc pc = .ok (.invokevirtual idx, 3)) (hZ : ev_Zok Z) (hk : ev_kV (mo_m k nm ds cc nL rt) (mo_m k' nm' ds' cc' nL' rt') idx 5) (hM : MT (mo_π l D cl_A kI kZ tl Z) (mo_m k' nm' ds' cc' nL' rt') 0 0 [.ref (am 60), .int x1, .int x2, .int x3, .int x4, .int x5] (mo_W mo_ci am kI kZ F B) (mo_qi am kI kZ P))
    (kk : ∀ (x : Int32) (F1 : Nat → Int32) (B1 : Nat → Nat → Int32), P x F1 B1 → EV (mo_π l D cl_A kI kZ tl Z) (mo_m k nm ds cc nL rt) E 0 0 (pc + 3) lv (.int x :: st) (mo_W mo_ci am kI kZ F1 B1)) (hR : k' < k := by decide) (hn : nL' ≤ 21 := by decide) (hrm : (st.map fun v => v.category).sum ≤ 8 := by exact Nat.le_of_ble_eq_true rfl) : EV (mo_π l D cl_A kI kZ tl Z) (mo_m k nm ds cc nL rt) E 0 0 pc lv (.int x5 :: .int x4 :: .int x3 :: .int x2 :: .int x1 :: .ref (am 60) :: st) (mo_W mo_ci am kI kZ F B) := by
  refine ev_callV (T := T_mo) (N := 60) pc 0 [.int x1, .int x2, .int x3, .int x4, .int x5] st d hZ hk (kr_of hR hn) rfl rfl hM ?_ rfl hrm
  rintro r w ⟨x, F1, B1, rfl, rfl, hP⟩
  exact kk x F1 B1 hP
theorem mo_callv5 {x1 x2 x3 x4 x5 : Int32} {P : (Nat → Int32) → (Nat → Nat → Int32) → Prop} (pc : Nat) (d : decode cc pc = .ok (.invokevirtual idx, 3)) (hZ : ev_Zok Z) (hk : ev_kV (mo_m k nm ds cc nL rt) (mo_m k' nm' ds' cc' nL' rt') idx 5) (hM : MT (mo_π l D cl_A kI kZ tl Z) (mo_m k' nm' ds' cc' nL' rt') 0 0 [.ref (am 60), .int x1, .int x2, .int x3, .int x4, .int x5] (mo_W mo_ci am kI kZ F B) (mo_qv am kI kZ P))
    (kk : ∀ (F1 : Nat → Int32) (B1 : Nat → Nat → Int32), P F1 B1 → EV (mo_π l D cl_A kI kZ tl Z) (mo_m k nm ds cc nL rt) E 0 0 (pc + 3) lv st (mo_W mo_ci am kI kZ F1 B1)) (hR : k' < k := by decide) (hn : nL' ≤ 21 := by decide) (hrm : (st.map fun v => v.category).sum ≤ 8 := by exact Nat.le_of_ble_eq_true rfl) : EV (mo_π l D cl_A kI kZ tl Z) (mo_m k nm ds cc nL rt) E 0 0 pc lv (.int x5 :: .int x4 :: .int x3 :: .int x2 :: .int x1 :: .ref (am 60) :: st) (mo_W mo_ci am kI kZ F B) := by
  refine ev_callV (T := T_mo) (N := 60) pc 0 [.int x1, .int x2, .int x3, .int x4, .int x5] st d hZ hk (kr_of hR hn) rfl rfl hM ?_ rfl hrm
  rintro r w ⟨F1, B1, rfl, rfl, hP⟩
  exact kk F1 B1 hP
theorem mo_calli6 {x1 x2 x3 x4 x5 x6 : Int32} {P : Int32 → (Nat → Int32) → (Nat → Nat → Int32) → Prop} (pc : Nat) (d : decode cc pc = .ok (.invokevirtual idx, 3)) (hZ : ev_Zok Z) (hk : ev_kV (mo_m k nm ds cc nL rt) (mo_m k' nm' ds' cc' nL' rt') idx 6) (hM : MT (mo_π l D cl_A kI kZ tl Z) (mo_m k' nm' ds' cc' nL' rt') 0 0 [.ref (am 60), .int x1, .int x2, .int x3, .int x4, .int x5, .int x6] (mo_W mo_ci am kI kZ F B) (mo_qi am kI kZ P))
    (kk : ∀ (x : Int32) (F1 : Nat → Int32) (B1 : Nat → Nat → Int32), P x F1 B1 → EV (mo_π l D cl_A kI kZ tl Z) (mo_m k nm ds cc nL rt) E 0 0 (pc + 3) lv (.int x :: st) (mo_W mo_ci am kI kZ F1 B1)) (hR : k' < k := by decide) (hn : nL' ≤ 21 := by decide) (hrm : (st.map fun v => v.category).sum ≤ 8 := by exact Nat.le_of_ble_eq_true rfl) : EV (mo_π l D cl_A kI kZ tl Z) (mo_m k nm ds cc nL rt) E 0 0 pc lv (.int x6 :: .int x5 :: .int x4 :: .int x3 :: .int x2 :: .int x1 :: .ref (am 60) :: st) (mo_W mo_ci am kI kZ F B) := by
  refine ev_callV (T := T_mo) (N := 60) pc 0 [.int x1, .int x2, .int x3, .int x4, .int x5, .int x6] st d hZ hk (kr_of hR hn) rfl rfl hM ?_ rfl hrm
  rintro r w ⟨x, F1, B1, rfl, rfl, hP⟩
  exact kk x F1 B1 hP
theorem mo_callv6 {x1 x2 x3 x4 x5 x6 : Int32} {P : (Nat → Int32) → (Nat → Nat → Int32) → Prop} (pc : Nat) (d : decode cc pc = .ok (.invokevirtual idx, 3)) (hZ : ev_Zok Z) (hk : ev_kV (mo_m k nm ds cc nL rt) (mo_m k' nm' ds' cc' nL' rt') idx 6) (hM : MT (mo_π l D cl_A kI kZ tl Z) (mo_m k' nm' ds' cc' nL' rt') 0 0 [.ref (am 60), .int x1, .int x2, .int x3, .int x4, .int x5, .int x6] (mo_W mo_ci am kI kZ F B) (mo_qv am kI kZ P))
    (kk : ∀ (F1 : Nat → Int32) (B1 : Nat → Nat → Int32), P F1 B1 → EV (mo_π l D cl_A kI kZ tl Z) (mo_m k nm ds cc nL rt) E 0 0 (pc + 3) lv st (mo_W mo_ci am kI kZ F1 B1)) (hR : k' < k := by decide) (hn : nL' ≤ 21 := by decide) (hrm : (st.map fun v => v.category).sum ≤ 8 := by exact Nat.le_of_ble_eq_true rfl) : EV (mo_π l D cl_A kI kZ tl Z) (mo_m k nm ds cc nL rt) E 0 0 pc lv (.int x6 :: .int x5 :: .int x4 :: .int x3 :: .int x2 :: .int x1 :: .ref (am 60) :: st) (mo_W mo_ci am kI kZ F B) := by
  refine ev_callV (T := T_mo) (N := 60) pc 0 [.int x1, .int x2, .int x3, .int x4, .int x5, .int x6] st d hZ hk (kr_of hR hn) rfl rfl hM ?_ rfl hrm
  rintro r w ⟨F1, B1, rfl, rfl, hP⟩
  exact kk F1 B1 hP
end MOc
