/-! the law's class: its words, its methods -/
abbrev RL : String := "HostedCallsLaw"
abbrev h_part : List (Nat × Nat × Nat × Nat) := [(0, 9, 12, 13), (0, 9, 15, 15)]
abbrev c_lw_part : ByteArray := method_3_code
abbrev h_type : List (Nat × Nat × Nat × Nat) := [(0, 10, 13, 13), (0, 10, 17, 15)]
abbrev c_lw_type : ByteArray := method_4_code
abbrev h_layout : List (Nat × Nat × Nat × Nat) := [(0, 10, 13, 13), (0, 10, 17, 24)]
abbrev c_lw_layout : ByteArray := method_5_code
abbrev h_fits : List (Nat × Nat × Nat × Nat) := [(0, 10, 13, 13)]
abbrev c_lw_fits : ByteArray := method_6_code
abbrev h_instance : List (Nat × Nat × Nat × Nat) := [(0, 8, 11, 15)]
abbrev c_lw_instance : ByteArray := method_7_code
abbrev h_function : List (Nat × Nat × Nat × Nat) := [(0, 12, 15, 13), (0, 12, 19, 37), (0, 12, 23, 15)]
abbrev c_lw_function : ByteArray := method_8_code
abbrev h_write : List (Nat × Nat × Nat × Nat) := [(0, 9, 12, 13), (0, 9, 16, 24)]
abbrev c_lw_write : ByteArray := method_9_code
abbrev h_read : List (Nat × Nat × Nat × Nat) := [(0, 10, 13, 13), (0, 10, 17, 24)]
abbrev c_lw_read : ByteArray := method_10_code
abbrev h_enter : List (Nat × Nat × Nat × Nat) := [(0, 5, 8, 13), (0, 5, 11, 15)]
abbrev c_lw_enter : ByteArray := method_11_code
abbrev h_leave : List (Nat × Nat × Nat × Nat) := [(0, 4, 7, 15)]
abbrev c_lw_leave : ByteArray := method_12_code
abbrev h_make : List (Nat × Nat × Nat × Nat) := [(0, 9, 12, 15), (0, 9, 15, 13), (0, 9, 18, 37)]
abbrev c_lw_make : ByteArray := method_13_code
abbrev h_drop : List (Nat × Nat × Nat × Nat) := [(0, 16, 19, 15), (0, 16, 22, 60), (0, 16, 25, 37)]
abbrev c_lw_drop : ByteArray := method_14_code
abbrev h_handle : List (Nat × Nat × Nat × Nat) := [(0, 12, 15, 13)]
abbrev c_lw_handle : ByteArray := method_15_code
abbrev h_call : List (Nat × Nat × Nat × Nat) := [(0, 12, 15, 15), (0, 12, 19, 13), (0, 12, 23, 37), (0, 12, 27, 60)]
abbrev c_lw_call : ByteArray := method_16_code
abbrev h_back : List (Nat × Nat × Nat × Nat) := [(0, 10, 13, 15), (0, 10, 17, 13), (0, 10, 21, 37)]
abbrev c_lw_back : ByteArray := method_17_code
abbrev h_trap : List (Nat × Nat × Nat × Nat) := [(0, 4, 7, 15)]
abbrev c_lw_trap : ByteArray := method_18_code
abbrev h_state : List (Nat × Nat × Nat × Nat) := [(0, 10, 13, 13)]
abbrev c_lw_state : ByteArray := method_19_code
abbrev h_close : List (Nat × Nat × Nat × Nat) := [(0, 9, 12, 13), (0, 9, 15, 15)]
abbrev c_lw_close : ByteArray := method_20_code
abbrev h_resources : List (Nat × Nat × Nat × Nat) := [(0, 10, 13, 13)]
abbrev c_lw_resources : ByteArray := method_21_code
abbrev h_latest : List (Nat × Nat × Nat × Nat) := [(0, 9, 12, 13)]
abbrev c_lw_latest : ByteArray := method_22_code
def lw_w0 : List Cond := [.initialized RL, .classLink RL 13 "java/lang/IllegalArgumentException", .classLink RL 15 "java/lang/IllegalStateException", .classLink RL 24 "java/lang/IndexOutOfBoundsException", .classLink RL 37 "java/lang/UnsupportedOperationException", .classLink RL 60 "java/util/NoSuchElementException", .classLink RL 8 R_hc, .instantiable R_hc 18, .classLink RL 88 mo_C, .instantiable mo_C 60, .constantLong RL 118 4294967295, .methodLink RL 87 ⟨R_hc, "<init>", "()V"⟩, .instanceMethod ⟨R_hc, "<init>", "()V"⟩, .code ⟨R_hc, "<init>", "()V"⟩ prog_1_method_1_code 1 (none : Option ClassFile.FieldType), .methodLink RL 90 ⟨mo_C, "<init>", "()V"⟩, .instanceMethod ⟨mo_C, "<init>", "()V"⟩, .code ⟨mo_C, "<init>", "()V"⟩ prog_12_method_1_code 1 (none : Option ClassFile.FieldType)]
def lw_v_part : List Cond := [.methodLink RL 91 ⟨RL, "part", "(LHostedCalls;I[J)I"⟩, .static ⟨RL, "part", "(LHostedCalls;I[J)I"⟩, .codeWith ⟨RL, "part", "(LHostedCalls;I[J)I"⟩ method_3_code 4 (some .int) h_part, .methodLink RL 7 ⟨R_hc, "part", "(I)I"⟩, .instanceMethod ⟨R_hc, "part", "(I)I"⟩, .selects R_hc ⟨R_hc, "part", "(I)I"⟩ ⟨R_hc, "part", "(I)I"⟩, .code ⟨R_hc, "part", "(I)I"⟩ prog_1_method_2_code 2 (some .int), .methodLink RL 96 ⟨mo_C, "part", "(I)I"⟩, .instanceMethod ⟨mo_C, "part", "(I)I"⟩, .selects mo_C ⟨mo_C, "part", "(I)I"⟩ ⟨mo_C, "part", "(I)I"⟩, .code ⟨mo_C, "part", "(I)I"⟩ prog_12_method_7_code 2 (some .int)]
def lw_v_type : List Cond := [.methodLink RL 100 ⟨RL, "type", "(LHostedCalls;II[J)I"⟩, .static ⟨RL, "type", "(LHostedCalls;II[J)I"⟩, .codeWith ⟨RL, "type", "(LHostedCalls;II[J)I"⟩ method_4_code 5 (some .int) h_type, .methodLink RL 17 ⟨R_hc, "type", "(II)I"⟩, .instanceMethod ⟨R_hc, "type", "(II)I"⟩, .selects R_hc ⟨R_hc, "type", "(II)I"⟩ ⟨R_hc, "type", "(II)I"⟩, .code ⟨R_hc, "type", "(II)I"⟩ prog_1_method_3_code 4 (some .int), .methodLink RL 103 ⟨mo_C, "type", "(II)I"⟩, .instanceMethod ⟨mo_C, "type", "(II)I"⟩, .selects mo_C ⟨mo_C, "type", "(II)I"⟩ ⟨mo_C, "type", "(II)I"⟩, .code ⟨mo_C, "type", "(II)I"⟩ prog_12_method_10_code 5 (some .int)]
def lw_v_layout : List Cond := [.methodLink RL 104 ⟨RL, "layout", "(LHostedCalls;II[J)I"⟩, .static ⟨RL, "layout", "(LHostedCalls;II[J)I"⟩, .codeWith ⟨RL, "layout", "(LHostedCalls;II[J)I"⟩ method_5_code 5 (some .int) h_layout, .methodLink RL 21 ⟨R_hc, "layout", "(II)I"⟩, .instanceMethod ⟨R_hc, "layout", "(II)I"⟩, .selects R_hc ⟨R_hc, "layout", "(II)I"⟩ ⟨R_hc, "layout", "(II)I"⟩, .code ⟨R_hc, "layout", "(II)I"⟩ prog_1_method_4_code 4 (some .int), .methodLink RL 106 ⟨mo_C, "layout", "(II)I"⟩, .instanceMethod ⟨mo_C, "layout", "(II)I"⟩, .selects mo_C ⟨mo_C, "layout", "(II)I"⟩ ⟨mo_C, "layout", "(II)I"⟩, .code ⟨mo_C, "layout", "(II)I"⟩ prog_12_method_11_code 3 (some .int)]
def lw_v_fits : List Cond := [.methodLink RL 107 ⟨RL, "fits", "(LHostedCalls;II[J)I"⟩, .static ⟨RL, "fits", "(LHostedCalls;II[J)I"⟩, .codeWith ⟨RL, "fits", "(LHostedCalls;II[J)I"⟩ method_6_code 5 (some .int) h_fits, .methodLink RL 26 ⟨R_hc, "fits", "(II)I"⟩, .instanceMethod ⟨R_hc, "fits", "(II)I"⟩, .selects R_hc ⟨R_hc, "fits", "(II)I"⟩ ⟨R_hc, "fits", "(II)I"⟩, .code ⟨R_hc, "fits", "(II)I"⟩ prog_1_method_5_code 3 (some .int), .methodLink RL 109 ⟨mo_C, "fits", "(II)I"⟩, .instanceMethod ⟨mo_C, "fits", "(II)I"⟩, .selects mo_C ⟨mo_C, "fits", "(II)I"⟩ ⟨mo_C, "fits", "(II)I"⟩, .code ⟨mo_C, "fits", "(II)I"⟩ prog_12_method_16_code 3 (some .int)]
def lw_v_instance : List Cond := [.methodLink RL 110 ⟨RL, "instance", "(LHostedCalls;[J)I"⟩, .static ⟨RL, "instance", "(LHostedCalls;[J)I"⟩, .codeWith ⟨RL, "instance", "(LHostedCalls;[J)I"⟩ method_7_code 3 (some .int) h_instance, .methodLink RL 29 ⟨R_hc, "instance", "()I"⟩, .instanceMethod ⟨R_hc, "instance", "()I"⟩, .selects R_hc ⟨R_hc, "instance", "()I"⟩ ⟨R_hc, "instance", "()I"⟩, .code ⟨R_hc, "instance", "()I"⟩ prog_1_method_6_code 1 (some .int), .methodLink RL 113 ⟨mo_C, "instance", "()I"⟩, .instanceMethod ⟨mo_C, "instance", "()I"⟩, .selects mo_C ⟨mo_C, "instance", "()I"⟩ ⟨mo_C, "instance", "()I"⟩, .code ⟨mo_C, "instance", "()I"⟩ prog_12_method_18_code 1 (some .int)]
def lw_v_function : List Cond := [.methodLink RL 114 ⟨RL, "function", "(LHostedCalls;III[J)I"⟩, .static ⟨RL, "function", "(LHostedCalls;III[J)I"⟩, .codeWith ⟨RL, "function", "(LHostedCalls;III[J)I"⟩ method_8_code 6 (some .int) h_function, .methodLink RL 33 ⟨R_hc, "function", "(III)I"⟩, .instanceMethod ⟨R_hc, "function", "(III)I"⟩, .selects R_hc ⟨R_hc, "function", "(III)I"⟩ ⟨R_hc, "function", "(III)I"⟩, .code ⟨R_hc, "function", "(III)I"⟩ prog_1_method_7_code 4 (some .int), .methodLink RL 117 ⟨mo_C, "function", "(III)I"⟩, .instanceMethod ⟨mo_C, "function", "(III)I"⟩, .selects mo_C ⟨mo_C, "function", "(III)I"⟩ ⟨mo_C, "function", "(III)I"⟩, .code ⟨mo_C, "function", "(III)I"⟩ prog_12_method_19_code 4 (some .int)]
def lw_v_write : List Cond := [.methodLink RL 120 ⟨RL, "write", "(LHostedCalls;IIIJ)I"⟩, .static ⟨RL, "write", "(LHostedCalls;IIIJ)I"⟩, .codeWith ⟨RL, "write", "(LHostedCalls;IIIJ)I"⟩ method_9_code 7 (some .int) h_write, .methodLink RL 39 ⟨R_hc, "write", "(IIIJ)V"⟩, .instanceMethod ⟨R_hc, "write", "(IIIJ)V"⟩, .selects R_hc ⟨R_hc, "write", "(IIIJ)V"⟩ ⟨R_hc, "write", "(IIIJ)V"⟩, .code ⟨R_hc, "write", "(IIIJ)V"⟩ prog_1_method_8_code 6 (none : Option ClassFile.FieldType), .methodLink RL 123 ⟨mo_C, "write", "(IIIJ)V"⟩, .instanceMethod ⟨mo_C, "write", "(IIIJ)V"⟩, .selects mo_C ⟨mo_C, "write", "(IIIJ)V"⟩ ⟨mo_C, "write", "(IIIJ)V"⟩, .code ⟨mo_C, "write", "(IIIJ)V"⟩ prog_12_method_20_code 7 (none : Option ClassFile.FieldType)]
def lw_v_read : List Cond := [.methodLink RL 124 ⟨RL, "read", "(LHostedCalls;II[J)I"⟩, .static ⟨RL, "read", "(LHostedCalls;II[J)I"⟩, .codeWith ⟨RL, "read", "(LHostedCalls;II[J)I"⟩ method_10_code 5 (some .int) h_read, .methodLink RL 43 ⟨R_hc, "read", "(II)I"⟩, .instanceMethod ⟨R_hc, "read", "(II)I"⟩, .selects R_hc ⟨R_hc, "read", "(II)I"⟩ ⟨R_hc, "read", "(II)I"⟩, .code ⟨R_hc, "read", "(II)I"⟩ prog_1_method_9_code 3 (some .int), .methodLink RL 126 ⟨mo_C, "read", "(II)I"⟩, .instanceMethod ⟨mo_C, "read", "(II)I"⟩, .selects mo_C ⟨mo_C, "read", "(II)I"⟩ ⟨mo_C, "read", "(II)I"⟩, .code ⟨mo_C, "read", "(II)I"⟩ prog_12_method_21_code 3 (some .int)]
def lw_v_enter : List Cond := [.methodLink RL 127 ⟨RL, "enter", "(LHostedCalls;I)I"⟩, .static ⟨RL, "enter", "(LHostedCalls;I)I"⟩, .codeWith ⟨RL, "enter", "(LHostedCalls;I)I"⟩ method_11_code 3 (some .int) h_enter, .methodLink RL 46 ⟨R_hc, "enter", "(I)V"⟩, .instanceMethod ⟨R_hc, "enter", "(I)V"⟩, .selects R_hc ⟨R_hc, "enter", "(I)V"⟩ ⟨R_hc, "enter", "(I)V"⟩, .code ⟨R_hc, "enter", "(I)V"⟩ prog_1_method_10_code 2 (none : Option ClassFile.FieldType), .methodLink RL 130 ⟨mo_C, "enter", "(I)V"⟩, .instanceMethod ⟨mo_C, "enter", "(I)V"⟩, .selects mo_C ⟨mo_C, "enter", "(I)V"⟩ ⟨mo_C, "enter", "(I)V"⟩, .code ⟨mo_C, "enter", "(I)V"⟩ prog_12_method_22_code 2 (none : Option ClassFile.FieldType)]
def lw_v_leave : List Cond := [.methodLink RL 131 ⟨RL, "leave", "(LHostedCalls;)I"⟩, .static ⟨RL, "leave", "(LHostedCalls;)I"⟩, .codeWith ⟨RL, "leave", "(LHostedCalls;)I"⟩ method_12_code 2 (some .int) h_leave, .methodLink RL 50 ⟨R_hc, "leave", "()V"⟩, .instanceMethod ⟨R_hc, "leave", "()V"⟩, .selects R_hc ⟨R_hc, "leave", "()V"⟩ ⟨R_hc, "leave", "()V"⟩, .code ⟨R_hc, "leave", "()V"⟩ prog_1_method_11_code 1 (none : Option ClassFile.FieldType), .methodLink RL 134 ⟨mo_C, "leave", "()V"⟩, .instanceMethod ⟨mo_C, "leave", "()V"⟩, .selects mo_C ⟨mo_C, "leave", "()V"⟩ ⟨mo_C, "leave", "()V"⟩, .code ⟨mo_C, "leave", "()V"⟩ prog_12_method_24_code 1 (none : Option ClassFile.FieldType)]
def lw_v_make : List Cond := [.methodLink RL 135 ⟨RL, "make", "(LHostedCalls;I[J)I"⟩, .static ⟨RL, "make", "(LHostedCalls;I[J)I"⟩, .codeWith ⟨RL, "make", "(LHostedCalls;I[J)I"⟩ method_13_code 4 (some .int) h_make, .methodLink RL 53 ⟨R_hc, "make", "(I)I"⟩, .instanceMethod ⟨R_hc, "make", "(I)I"⟩, .selects R_hc ⟨R_hc, "make", "(I)I"⟩ ⟨R_hc, "make", "(I)I"⟩, .code ⟨R_hc, "make", "(I)I"⟩ prog_1_method_12_code 4 (some .int), .methodLink RL 137 ⟨mo_C, "make", "(I)I"⟩, .instanceMethod ⟨mo_C, "make", "(I)I"⟩, .selects mo_C ⟨mo_C, "make", "(I)I"⟩ ⟨mo_C, "make", "(I)I"⟩, .code ⟨mo_C, "make", "(I)I"⟩ prog_12_method_27_code 4 (some .int)]
def lw_v_drop : List Cond := [.methodLink RL 138 ⟨RL, "drop", "(LHostedCalls;I[J)I"⟩, .static ⟨RL, "drop", "(LHostedCalls;I[J)I"⟩, .codeWith ⟨RL, "drop", "(LHostedCalls;I[J)I"⟩ method_14_code 4 (some .int) h_drop, .methodLink RL 56 ⟨R_hc, "drop", "(I)Z"⟩, .instanceMethod ⟨R_hc, "drop", "(I)Z"⟩, .selects R_hc ⟨R_hc, "drop", "(I)Z"⟩ ⟨R_hc, "drop", "(I)Z"⟩, .code ⟨R_hc, "drop", "(I)Z"⟩ prog_1_method_13_code 3 (some .boolean), .methodLink RL 140 ⟨mo_C, "drop", "(I)Z"⟩, .instanceMethod ⟨mo_C, "drop", "(I)Z"⟩, .selects mo_C ⟨mo_C, "drop", "(I)Z"⟩ ⟨mo_C, "drop", "(I)Z"⟩, .code ⟨mo_C, "drop", "(I)Z"⟩ prog_12_method_28_code 4 (some .boolean)]
def lw_v_handle : List Cond := [.methodLink RL 141 ⟨RL, "handle", "(LHostedCalls;III[J)I"⟩, .static ⟨RL, "handle", "(LHostedCalls;III[J)I"⟩, .codeWith ⟨RL, "handle", "(LHostedCalls;III[J)I"⟩ method_15_code 6 (some .int) h_handle, .methodLink RL 62 ⟨R_hc, "handle", "(III)I"⟩, .instanceMethod ⟨R_hc, "handle", "(III)I"⟩, .selects R_hc ⟨R_hc, "handle", "(III)I"⟩ ⟨R_hc, "handle", "(III)I"⟩, .code ⟨R_hc, "handle", "(III)I"⟩ prog_1_method_14_code 5 (some .int), .methodLink RL 143 ⟨mo_C, "handle", "(III)I"⟩, .instanceMethod ⟨mo_C, "handle", "(III)I"⟩, .selects mo_C ⟨mo_C, "handle", "(III)I"⟩ ⟨mo_C, "handle", "(III)I"⟩, .code ⟨mo_C, "handle", "(III)I"⟩ prog_12_method_29_code 5 (some .int)]
def lw_v_call : List Cond := [.methodLink RL 144 ⟨RL, "call", "(LHostedCalls;III[J)I"⟩, .static ⟨RL, "call", "(LHostedCalls;III[J)I"⟩, .codeWith ⟨RL, "call", "(LHostedCalls;III[J)I"⟩ method_16_code 6 (some .int) h_call, .methodLink RL 65 ⟨R_hc, "call", "(III)I"⟩, .instanceMethod ⟨R_hc, "call", "(III)I"⟩, .selects R_hc ⟨R_hc, "call", "(III)I"⟩ ⟨R_hc, "call", "(III)I"⟩, .code ⟨R_hc, "call", "(III)I"⟩ prog_1_method_15_code 7 (some .int), .methodLink RL 146 ⟨mo_C, "call", "(III)I"⟩, .instanceMethod ⟨mo_C, "call", "(III)I"⟩, .selects mo_C ⟨mo_C, "call", "(III)I"⟩ ⟨mo_C, "call", "(III)I"⟩, .code ⟨mo_C, "call", "(III)I"⟩ prog_12_method_44_code 8 (some .int)]
def lw_v_back : List Cond := [.methodLink RL 147 ⟨RL, "back", "(LHostedCalls;II[J)I"⟩, .static ⟨RL, "back", "(LHostedCalls;II[J)I"⟩, .codeWith ⟨RL, "back", "(LHostedCalls;II[J)I"⟩ method_17_code 5 (some .int) h_back, .methodLink RL 68 ⟨R_hc, "back", "(II)I"⟩, .instanceMethod ⟨R_hc, "back", "(II)I"⟩, .selects R_hc ⟨R_hc, "back", "(II)I"⟩ ⟨R_hc, "back", "(II)I"⟩, .code ⟨R_hc, "back", "(II)I"⟩ prog_1_method_16_code 5 (some .int), .methodLink RL 149 ⟨mo_C, "back", "(II)I"⟩, .instanceMethod ⟨mo_C, "back", "(II)I"⟩, .selects mo_C ⟨mo_C, "back", "(II)I"⟩ ⟨mo_C, "back", "(II)I"⟩, .code ⟨mo_C, "back", "(II)I"⟩ prog_12_method_45_code 7 (some .int)]
def lw_v_trap : List Cond := [.methodLink RL 150 ⟨RL, "trap", "(LHostedCalls;)I"⟩, .static ⟨RL, "trap", "(LHostedCalls;)I"⟩, .codeWith ⟨RL, "trap", "(LHostedCalls;)I"⟩ method_18_code 2 (some .int) h_trap, .methodLink RL 71 ⟨R_hc, "trap", "()V"⟩, .instanceMethod ⟨R_hc, "trap", "()V"⟩, .selects R_hc ⟨R_hc, "trap", "()V"⟩ ⟨R_hc, "trap", "()V"⟩, .code ⟨R_hc, "trap", "()V"⟩ prog_1_method_17_code 1 (none : Option ClassFile.FieldType), .methodLink RL 152 ⟨mo_C, "trap", "()V"⟩, .instanceMethod ⟨mo_C, "trap", "()V"⟩, .selects mo_C ⟨mo_C, "trap", "()V"⟩ ⟨mo_C, "trap", "()V"⟩, .code ⟨mo_C, "trap", "()V"⟩ prog_12_method_46_code 1 (none : Option ClassFile.FieldType)]
def lw_v_state : List Cond := [.methodLink RL 165 ⟨RL, "state", "(LHostedCalls;II[J)I"⟩, .static ⟨RL, "state", "(LHostedCalls;II[J)I"⟩, .codeWith ⟨RL, "state", "(LHostedCalls;II[J)I"⟩ method_19_code 5 (some .int) h_state, .methodLink RL 74 ⟨R_hc, "state", "(II)I"⟩, .instanceMethod ⟨R_hc, "state", "(II)I"⟩, .selects R_hc ⟨R_hc, "state", "(II)I"⟩ ⟨R_hc, "state", "(II)I"⟩, .code ⟨R_hc, "state", "(II)I"⟩ prog_1_method_21_code 3 (some .int), .methodLink RL 167 ⟨mo_C, "state", "(II)I"⟩, .instanceMethod ⟨mo_C, "state", "(II)I"⟩, .selects mo_C ⟨mo_C, "state", "(II)I"⟩ ⟨mo_C, "state", "(II)I"⟩, .code ⟨mo_C, "state", "(II)I"⟩ prog_12_method_51_code 3 (some .int)]
def lw_v_close : List Cond := [.methodLink RL 168 ⟨RL, "close", "(LHostedCalls;I[J)I"⟩, .static ⟨RL, "close", "(LHostedCalls;I[J)I"⟩, .codeWith ⟨RL, "close", "(LHostedCalls;I[J)I"⟩ method_20_code 4 (some .int) h_close, .methodLink RL 77 ⟨R_hc, "close", "(I)I"⟩, .instanceMethod ⟨R_hc, "close", "(I)I"⟩, .selects R_hc ⟨R_hc, "close", "(I)I"⟩ ⟨R_hc, "close", "(I)I"⟩, .code ⟨R_hc, "close", "(I)I"⟩ prog_1_method_22_code 5 (some .int), .methodLink RL 170 ⟨mo_C, "close", "(I)I"⟩, .instanceMethod ⟨mo_C, "close", "(I)I"⟩, .selects mo_C ⟨mo_C, "close", "(I)I"⟩ ⟨mo_C, "close", "(I)I"⟩, .code ⟨mo_C, "close", "(I)I"⟩ prog_12_method_52_code 5 (some .int)]
def lw_v_resources : List Cond := [.methodLink RL 171 ⟨RL, "resources", "(LHostedCalls;IZ[J)I"⟩, .static ⟨RL, "resources", "(LHostedCalls;IZ[J)I"⟩, .codeWith ⟨RL, "resources", "(LHostedCalls;IZ[J)I"⟩ method_21_code 5 (some .int) h_resources, .methodLink RL 80 ⟨R_hc, "resources", "(IZ)I"⟩, .instanceMethod ⟨R_hc, "resources", "(IZ)I"⟩, .selects R_hc ⟨R_hc, "resources", "(IZ)I"⟩ ⟨R_hc, "resources", "(IZ)I"⟩, .code ⟨R_hc, "resources", "(IZ)I"⟩ prog_1_method_23_code 3 (some .int), .methodLink RL 174 ⟨mo_C, "resources", "(IZ)I"⟩, .instanceMethod ⟨mo_C, "resources", "(IZ)I"⟩, .selects mo_C ⟨mo_C, "resources", "(IZ)I"⟩ ⟨mo_C, "resources", "(IZ)I"⟩, .code ⟨mo_C, "resources", "(IZ)I"⟩ prog_12_method_53_code 5 (some .int)]
def lw_v_latest : List Cond := [.methodLink RL 175 ⟨RL, "latest", "(LHostedCalls;I[J)I"⟩, .static ⟨RL, "latest", "(LHostedCalls;I[J)I"⟩, .codeWith ⟨RL, "latest", "(LHostedCalls;I[J)I"⟩ method_22_code 4 (some .int) h_latest, .methodLink RL 84 ⟨R_hc, "latest", "(I)I"⟩, .instanceMethod ⟨R_hc, "latest", "(I)I"⟩, .selects R_hc ⟨R_hc, "latest", "(I)I"⟩ ⟨R_hc, "latest", "(I)I"⟩, .code ⟨R_hc, "latest", "(I)I"⟩ prog_1_method_24_code 2 (some .int), .methodLink RL 177 ⟨mo_C, "latest", "(I)I"⟩, .instanceMethod ⟨mo_C, "latest", "(I)I"⟩, .selects mo_C ⟨mo_C, "latest", "(I)I"⟩ ⟨mo_C, "latest", "(I)I"⟩, .code ⟨mo_C, "latest", "(I)I"⟩ prog_12_method_54_code 2 (some .int)]
def lw_v_passed : List Cond := [.methodLink RL 153 ⟨R_hc, "passed", "()I"⟩, .instanceMethod ⟨R_hc, "passed", "()I"⟩, .selects R_hc ⟨R_hc, "passed", "()I"⟩ ⟨R_hc, "passed", "()I"⟩, .code ⟨R_hc, "passed", "()I"⟩ prog_1_method_18_code 1 (some .int), .methodLink RL 156 ⟨mo_C, "passed", "()I"⟩, .instanceMethod ⟨mo_C, "passed", "()I"⟩, .selects mo_C ⟨mo_C, "passed", "()I"⟩ ⟨mo_C, "passed", "()I"⟩, .code ⟨mo_C, "passed", "()I"⟩ prog_12_method_47_code 1 (some .int)]
def lw_v_depth : List Cond := [.methodLink RL 157 ⟨R_hc, "depth", "()I"⟩, .instanceMethod ⟨R_hc, "depth", "()I"⟩, .selects R_hc ⟨R_hc, "depth", "()I"⟩ ⟨R_hc, "depth", "()I"⟩, .code ⟨R_hc, "depth", "()I"⟩ prog_1_method_19_code 1 (some .int), .methodLink RL 160 ⟨mo_C, "depth", "()I"⟩, .instanceMethod ⟨mo_C, "depth", "()I"⟩, .selects mo_C ⟨mo_C, "depth", "()I"⟩ ⟨mo_C, "depth", "()I"⟩, .code ⟨mo_C, "depth", "()I"⟩ prog_12_method_48_code 1 (some .int)]
def lw_v_level : List Cond := [.methodLink RL 161 ⟨R_hc, "level", "(I)I"⟩, .instanceMethod ⟨R_hc, "level", "(I)I"⟩, .selects R_hc ⟨R_hc, "level", "(I)I"⟩ ⟨R_hc, "level", "(I)I"⟩, .code ⟨R_hc, "level", "(I)I"⟩ prog_1_method_20_code 2 (some .int), .methodLink RL 164 ⟨mo_C, "level", "(I)I"⟩, .instanceMethod ⟨mo_C, "level", "(I)I"⟩, .selects mo_C ⟨mo_C, "level", "(I)I"⟩ ⟨mo_C, "level", "(I)I"⟩, .code ⟨mo_C, "level", "(I)I"⟩ prog_12_method_49_code 2 (some .int)]
def lw_v_thrown : List Cond := [.methodLink RL 97 ⟨mo_C, "thrown", "()I"⟩, .instanceMethod ⟨mo_C, "thrown", "()I"⟩, .selects mo_C ⟨mo_C, "thrown", "()I"⟩ ⟨mo_C, "thrown", "()I"⟩, .code ⟨mo_C, "thrown", "()I"⟩ prog_12_method_2_code 1 (some .int)]
def lw_wl : List Cond := lw_w0 ++ (lw_v_part ++ (lw_v_type ++ (lw_v_layout ++ (lw_v_fits ++ (lw_v_instance ++ (lw_v_function ++ (lw_v_write ++ (lw_v_read ++ (lw_v_enter ++ (lw_v_leave ++ (lw_v_make ++ (lw_v_drop ++ (lw_v_handle ++ (lw_v_call ++ (lw_v_back ++ (lw_v_trap ++ (lw_v_state ++ (lw_v_close ++ (lw_v_resources ++ (lw_v_latest ++ (lw_v_passed ++ (lw_v_depth ++ (lw_v_level ++ (lw_v_thrown))))))))))))))))))))))))
def lw_ws : List Cond := lw_wl ++ (hc_ws ++ mi_ws)
theorem li_w0 {w : Cond} {i : Nat} (h : lw_w0[i]? = some w) : w ∈ lw_ws := List.mem_append_left _ (List.mem_append_left _ (List.mem_of_getElem? h))
theorem li_v_part {w : Cond} {i : Nat} (h : lw_v_part[i]? = some w) : w ∈ lw_ws := List.mem_append_left _ (List.mem_append_right _ (List.mem_append_left _ (List.mem_of_getElem? h)))
theorem li_v_type {w : Cond} {i : Nat} (h : lw_v_type[i]? = some w) : w ∈ lw_ws := List.mem_append_left _ (List.mem_append_right _ (List.mem_append_right _ (List.mem_append_left _ (List.mem_of_getElem? h))))
theorem li_v_layout {w : Cond} {i : Nat} (h : lw_v_layout[i]? = some w) : w ∈ lw_ws := List.mem_append_left _ (List.mem_append_right _ (List.mem_append_right _ (List.mem_append_right _ (List.mem_append_left _ (List.mem_of_getElem? h)))))
theorem li_v_fits {w : Cond} {i : Nat} (h : lw_v_fits[i]? = some w) : w ∈ lw_ws := List.mem_append_left _ (List.mem_append_right _ (List.mem_append_right _ (List.mem_append_right _ (List.mem_append_right _ (List.mem_append_left _ (List.mem_of_getElem? h))))))
theorem li_v_instance {w : Cond} {i : Nat} (h : lw_v_instance[i]? = some w) : w ∈ lw_ws := List.mem_append_left _ (List.mem_append_right _ (List.mem_append_right _ (List.mem_append_right _ (List.mem_append_right _ (List.mem_append_right _ (List.mem_append_left _ (List.mem_of_getElem? h)))))))
theorem li_v_function {w : Cond} {i : Nat} (h : lw_v_function[i]? = some w) : w ∈ lw_ws := List.mem_append_left _ (List.mem_append_right _ (List.mem_append_right _ (List.mem_append_right _ (List.mem_append_right _ (List.mem_append_right _ (List.mem_append_right _ (List.mem_append_left _ (List.mem_of_getElem? h))))))))
theorem li_v_write {w : Cond} {i : Nat} (h : lw_v_write[i]? = some w) : w ∈ lw_ws := List.mem_append_left _ (List.mem_append_right _ (List.mem_append_right _ (List.mem_append_right _ (List.mem_append_right _ (List.mem_append_right _ (List.mem_append_right _ (List.mem_append_right _ (List.mem_append_left _ (List.mem_of_getElem? h)))))))))
theorem li_v_read {w : Cond} {i : Nat} (h : lw_v_read[i]? = some w) : w ∈ lw_ws := List.mem_append_left _ (List.mem_append_right _ (List.mem_append_right _ (List.mem_append_right _ (List.mem_append_right _ (List.mem_append_right _ (List.mem_append_right _ (List.mem_append_right _ (List.mem_append_right _ (List.mem_append_left _ (List.mem_of_getElem? h))))))))))
theorem li_v_enter {w : Cond} {i : Nat} (h : lw_v_enter[i]? = some w) : w ∈ lw_ws := List.mem_append_left _ (List.mem_append_right _ (List.mem_append_right _ (List.mem_append_right _ (List.mem_append_right _ (List.mem_append_right _ (List.mem_append_right _ (List.mem_append_right _ (List.mem_append_right _ (List.mem_append_right _ (List.mem_append_left _ (List.mem_of_getElem? h)))))))))))
theorem li_v_leave {w : Cond} {i : Nat} (h : lw_v_leave[i]? = some w) : w ∈ lw_ws := List.mem_append_left _ (List.mem_append_right _ (List.mem_append_right _ (List.mem_append_right _ (List.mem_append_right _ (List.mem_append_right _ (List.mem_append_right _ (List.mem_append_right _ (List.mem_append_right _ (List.mem_append_right _ (List.mem_append_right _ (List.mem_append_left _ (List.mem_of_getElem? h))))))))))))
theorem li_v_make {w : Cond} {i : Nat} (h : lw_v_make[i]? = some w) : w ∈ lw_ws := List.mem_append_left _ (List.mem_append_right _ (List.mem_append_right _ (List.mem_append_right _ (List.mem_append_right _ (List.mem_append_right _ (List.mem_append_right _ (List.mem_append_right _ (List.mem_append_right _ (List.mem_append_right _ (List.mem_append_right _ (List.mem_append_right _ (List.mem_append_left _ (List.mem_of_getElem? h)))))))))))))
theorem li_v_drop {w : Cond} {i : Nat} (h : lw_v_drop[i]? = some w) : w ∈ lw_ws := List.mem_append_left _ (List.mem_append_right _ (List.mem_append_right _ (List.mem_append_right _ (List.mem_append_right _ (List.mem_append_right _ (List.mem_append_right _ (List.mem_append_right _ (List.mem_append_right _ (List.mem_append_right _ (List.mem_append_right _ (List.mem_append_right _ (List.mem_append_right _ (List.mem_append_left _ (List.mem_of_getElem? h))))))))))))))
theorem li_v_handle {w : Cond} {i : Nat} (h : lw_v_handle[i]? = some w) : w ∈ lw_ws := List.mem_append_left _ (List.mem_append_right _ (List.mem_append_right _ (List.mem_append_right _ (List.mem_append_right _ (List.mem_append_right _ (List.mem_append_right _ (List.mem_append_right _ (List.mem_append_right _ (List.mem_append_right _ (List.mem_append_right _ (List.mem_append_right _ (List.mem_append_right _ (List.mem_append_right _ (List.mem_append_left _ (List.mem_of_getElem? h)))))))))))))))
theorem li_v_call {w : Cond} {i : Nat} (h : lw_v_call[i]? = some w) : w ∈ lw_ws := List.mem_append_left _ (List.mem_append_right _ (List.mem_append_right _ (List.mem_append_right _ (List.mem_append_right _ (List.mem_append_right _ (List.mem_append_right _ (List.mem_append_right _ (List.mem_append_right _ (List.mem_append_right _ (List.mem_append_right _ (List.mem_append_right _ (List.mem_append_right _ (List.mem_append_right _ (List.mem_append_right _ (List.mem_append_left _ (List.mem_of_getElem? h))))))))))))))))
theorem li_v_back {w : Cond} {i : Nat} (h : lw_v_back[i]? = some w) : w ∈ lw_ws := List.mem_append_left _ (List.mem_append_right _ (List.mem_append_right _ (List.mem_append_right _ (List.mem_append_right _ (List.mem_append_right _ (List.mem_append_right _ (List.mem_append_right _ (List.mem_append_right _ (List.mem_append_right _ (List.mem_append_right _ (List.mem_append_right _ (List.mem_append_right _ (List.mem_append_right _ (List.mem_append_right _ (List.mem_append_right _ (List.mem_append_left _ (List.mem_of_getElem? h)))))))))))))))))
theorem li_v_trap {w : Cond} {i : Nat} (h : lw_v_trap[i]? = some w) : w ∈ lw_ws := List.mem_append_left _ (List.mem_append_right _ (List.mem_append_right _ (List.mem_append_right _ (List.mem_append_right _ (List.mem_append_right _ (List.mem_append_right _ (List.mem_append_right _ (List.mem_append_right _ (List.mem_append_right _ (List.mem_append_right _ (List.mem_append_right _ (List.mem_append_right _ (List.mem_append_right _ (List.mem_append_right _ (List.mem_append_right _ (List.mem_append_right _ (List.mem_append_left _ (List.mem_of_getElem? h))))))))))))))))))
theorem li_v_state {w : Cond} {i : Nat} (h : lw_v_state[i]? = some w) : w ∈ lw_ws := List.mem_append_left _ (List.mem_append_right _ (List.mem_append_right _ (List.mem_append_right _ (List.mem_append_right _ (List.mem_append_right _ (List.mem_append_right _ (List.mem_append_right _ (List.mem_append_right _ (List.mem_append_right _ (List.mem_append_right _ (List.mem_append_right _ (List.mem_append_right _ (List.mem_append_right _ (List.mem_append_right _ (List.mem_append_right _ (List.mem_append_right _ (List.mem_append_right _ (List.mem_append_left _ (List.mem_of_getElem? h)))))))))))))))))))
theorem li_v_close {w : Cond} {i : Nat} (h : lw_v_close[i]? = some w) : w ∈ lw_ws := List.mem_append_left _ (List.mem_append_right _ (List.mem_append_right _ (List.mem_append_right _ (List.mem_append_right _ (List.mem_append_right _ (List.mem_append_right _ (List.mem_append_right _ (List.mem_append_right _ (List.mem_append_right _ (List.mem_append_right _ (List.mem_append_right _ (List.mem_append_right _ (List.mem_append_right _ (List.mem_append_right _ (List.mem_append_right _ (List.mem_append_right _ (List.mem_append_right _ (List.mem_append_right _ (List.mem_append_left _ (List.mem_of_getElem? h))))))))))))))))))))
theorem li_v_resources {w : Cond} {i : Nat} (h : lw_v_resources[i]? = some w) : w ∈ lw_ws := List.mem_append_left _ (List.mem_append_right _ (List.mem_append_right _ (List.mem_append_right _ (List.mem_append_right _ (List.mem_append_right _ (List.mem_append_right _ (List.mem_append_right _ (List.mem_append_right _ (List.mem_append_right _ (List.mem_append_right _ (List.mem_append_right _ (List.mem_append_right _ (List.mem_append_right _ (List.mem_append_right _ (List.mem_append_right _ (List.mem_append_right _ (List.mem_append_right _ (List.mem_append_right _ (List.mem_append_right _ (List.mem_append_left _ (List.mem_of_getElem? h)))))))))))))))))))))
theorem li_v_latest {w : Cond} {i : Nat} (h : lw_v_latest[i]? = some w) : w ∈ lw_ws := List.mem_append_left _ (List.mem_append_right _ (List.mem_append_right _ (List.mem_append_right _ (List.mem_append_right _ (List.mem_append_right _ (List.mem_append_right _ (List.mem_append_right _ (List.mem_append_right _ (List.mem_append_right _ (List.mem_append_right _ (List.mem_append_right _ (List.mem_append_right _ (List.mem_append_right _ (List.mem_append_right _ (List.mem_append_right _ (List.mem_append_right _ (List.mem_append_right _ (List.mem_append_right _ (List.mem_append_right _ (List.mem_append_right _ (List.mem_append_left _ (List.mem_of_getElem? h))))))))))))))))))))))
theorem li_v_passed {w : Cond} {i : Nat} (h : lw_v_passed[i]? = some w) : w ∈ lw_ws := List.mem_append_left _ (List.mem_append_right _ (List.mem_append_right _ (List.mem_append_right _ (List.mem_append_right _ (List.mem_append_right _ (List.mem_append_right _ (List.mem_append_right _ (List.mem_append_right _ (List.mem_append_right _ (List.mem_append_right _ (List.mem_append_right _ (List.mem_append_right _ (List.mem_append_right _ (List.mem_append_right _ (List.mem_append_right _ (List.mem_append_right _ (List.mem_append_right _ (List.mem_append_right _ (List.mem_append_right _ (List.mem_append_right _ (List.mem_append_right _ (List.mem_append_left _ (List.mem_of_getElem? h)))))))))))))))))))))))
theorem li_v_depth {w : Cond} {i : Nat} (h : lw_v_depth[i]? = some w) : w ∈ lw_ws := List.mem_append_left _ (List.mem_append_right _ (List.mem_append_right _ (List.mem_append_right _ (List.mem_append_right _ (List.mem_append_right _ (List.mem_append_right _ (List.mem_append_right _ (List.mem_append_right _ (List.mem_append_right _ (List.mem_append_right _ (List.mem_append_right _ (List.mem_append_right _ (List.mem_append_right _ (List.mem_append_right _ (List.mem_append_right _ (List.mem_append_right _ (List.mem_append_right _ (List.mem_append_right _ (List.mem_append_right _ (List.mem_append_right _ (List.mem_append_right _ (List.mem_append_right _ (List.mem_append_left _ (List.mem_of_getElem? h))))))))))))))))))))))))
theorem li_v_level {w : Cond} {i : Nat} (h : lw_v_level[i]? = some w) : w ∈ lw_ws := List.mem_append_left _ (List.mem_append_right _ (List.mem_append_right _ (List.mem_append_right _ (List.mem_append_right _ (List.mem_append_right _ (List.mem_append_right _ (List.mem_append_right _ (List.mem_append_right _ (List.mem_append_right _ (List.mem_append_right _ (List.mem_append_right _ (List.mem_append_right _ (List.mem_append_right _ (List.mem_append_right _ (List.mem_append_right _ (List.mem_append_right _ (List.mem_append_right _ (List.mem_append_right _ (List.mem_append_right _ (List.mem_append_right _ (List.mem_append_right _ (List.mem_append_right _ (List.mem_append_right _ (List.mem_append_left _ (List.mem_of_getElem? h)))))))))))))))))))))))))
theorem li_v_thrown {w : Cond} {i : Nat} (h : lw_v_thrown[i]? = some w) : w ∈ lw_ws := List.mem_append_left _ (List.mem_append_right _ (List.mem_append_right _ (List.mem_append_right _ (List.mem_append_right _ (List.mem_append_right _ (List.mem_append_right _ (List.mem_append_right _ (List.mem_append_right _ (List.mem_append_right _ (List.mem_append_right _ (List.mem_append_right _ (List.mem_append_right _ (List.mem_append_right _ (List.mem_append_right _ (List.mem_append_right _ (List.mem_append_right _ (List.mem_append_right _ (List.mem_append_right _ (List.mem_append_right _ (List.mem_append_right _ (List.mem_append_right _ (List.mem_append_right _ (List.mem_append_right _ (List.mem_append_right _ (List.mem_of_getElem? h)))))))))))))))))))))))))
theorem lw_hc : ∀ w ∈ hc_ws, w ∈ lw_ws := fun w h => List.mem_append_right _ (List.mem_append_left _ h)
theorem lw_mi : ∀ w ∈ mi_ws, w ∈ lw_ws := fun w h => List.mem_append_right _ (List.mem_append_right _ h)
theorem lw_mo : ∀ w ∈ mo_ws, w ∈ lw_ws := fun w h => lw_mi w (List.mem_append_right _ h)
theorem lw_gdl : ∀ w ∈ lw_wl, goodWord w = true := by decide +kernel
theorem mi_gd : ∀ w ∈ mi_ws, goodWord w = true := by decide +kernel
theorem lw_gd : ∀ w ∈ lw_ws, goodWord w = true := fun w h => (List.mem_append.mp h).elim (lw_gdl w) (fun h => (List.mem_append.mp h).elim (hc_gd w) (mi_gd w))
theorem lw_gi {Ts : List Cond} (hT : ∀ w ∈ lw_ws, w ∈ Ts) : ∀ w ∈ lw_ws, w ∈ Ts ∧ ((w.onTables && w.keeps) = true ∨ ∃ ty, w = .arrayClass ty) := fun w h => ⟨hT w h, good_of_word (lw_gd w h)⟩
theorem lw_gw {Ts small : List Cond} {c' : Cond} (hT : ∀ w ∈ lw_ws, w ∈ Ts) (hs : ∀ w ∈ small, w ∈ lw_ws) (h : c' ∈ lw_ws) (l0 : List Cond) (hl : ∀ w ∈ l0, w ∈ lw_ws) : GoodIn Ts (l0 ++ c' :: small) := by
  intro w hw
  rcases List.mem_append.mp hw with hw | hw
  · exact lw_gi hT w (hl w hw)
  · rcases List.mem_cons.mp hw with rfl | hw
    · exact lw_gi hT _ h
    · exact lw_gi hT w (hs w hw)
theorem lv_of {Ts small : List Cond} {idx n nL nL' : Nat} {C' nm ds nm' ds' : String} {cc cc' : ByteArray} {rt rt' : Option FieldType} {rm rm' : Room} (hT : ∀ w ∈ lw_ws, w ∈ Ts) (hs : ∀ w ∈ small, w ∈ lw_ws) (h0 : Cond.methodLink RL idx ⟨C', nm', ds'⟩ ∈ lw_ws) (h1 : Cond.instanceMethod ⟨C', nm', ds'⟩ ∈ lw_ws) (h2 : Cond.selects C' ⟨C', nm', ds'⟩ ⟨C', nm', ds'⟩ ∈ lw_ws) (h3 : Cond.code ⟨C', nm', ds'⟩ cc' nL' rt' ∈ lw_ws) (h4 : Cond.initialized C' ∈ lw_ws) (hn : C' ≠ "java/lang/invoke/MethodHandle" ∧ C' ≠ "java/lang/invoke/VarHandle") (hd : (parseMethodDescriptor ds').map (fun d => d.parameters.length) = some n) : ev_kV (⟨RL, nm, ds⟩, cc, nL, rt, Ts, rm) (⟨C', nm', ds'⟩, cc', nL', rt', Cond.code ⟨C', nm', ds'⟩ cc' nL' rt' :: small, rm') idx n := by
  refine ⟨lw_gw hT hs h3 [_, _, _, _] ?_, ⟨_, rfl⟩, hn.1, hn.2, hd⟩
  intro w hw
  simp only [List.mem_cons, List.not_mem_nil, or_false] at hw
  rcases hw with rfl | rfl | rfl | rfl
  · exact h0
  · exact h1
  · exact h2
  · exact h4
theorem pn_rl : RL ≠ "java/lang/invoke/MethodHandle" ∧ RL ≠ "java/lang/invoke/VarHandle" := by decide
theorem ls_of {Ts : List Cond} {idx n nL nL' : Nat} {nm ds nm' ds' : String} {cc cc' : ByteArray} {rt rt' : Option FieldType} {rm rm' : Room} {hh : List (Nat × Nat × Nat × Nat)} (hT : ∀ w ∈ lw_ws, w ∈ Ts) (h0 : Cond.methodLink RL idx ⟨RL, nm', ds'⟩ ∈ lw_ws) (h1 : Cond.static ⟨RL, nm', ds'⟩ ∈ lw_ws) (h3 : Cond.codeWith ⟨RL, nm', ds'⟩ cc' nL' rt' hh ∈ lw_ws) (h4 : Cond.initialized RL ∈ lw_ws) (hd : (parseMethodDescriptor ds').map (fun d => d.parameters.length) = some n) : ev_kSW (⟨RL, nm, ds⟩, cc, nL, rt, Ts, rm) (⟨RL, nm', ds'⟩, cc', nL', rt', Cond.codeWith ⟨RL, nm', ds'⟩ cc' nL' rt' hh :: lw_ws, rm') idx n hh := by
  refine ⟨lw_gw hT (fun w h => h) h3 [_, _, _] ?_, ⟨_, rfl⟩, pn_rl.1, pn_rl.2, hd⟩
  intro w hw
  simp only [List.mem_cons, List.not_mem_nil, or_false] at hw
  rcases hw with rfl | rfl | rfl
  · exact h0
  · exact h1
  · exact h4
def lw_rm (mc ms : Nat) : Room := { frames := 23, cells := mc, slots := ms, locals := 920 }
def lw_m (mc ms : Nat) (nm ds : String) (cc : ByteArray) (nL : Nat) (hh : List (Nat × Nat × Nat × Nat)) : ev_M := (⟨RL, nm, ds⟩, cc, nL, some .int, Cond.codeWith ⟨RL, nm, ds⟩ cc nL (some .int) hh :: lw_ws, lw_rm mc ms)
abbrev lw_M : ev_M := (⟨RL, "law", "([I)Z"⟩, code, 7, some .boolean, lw_ws, room_1)
theorem pn_mo : mo_C ≠ "java/lang/invoke/MethodHandle" ∧ mo_C ≠ "java/lang/invoke/VarHandle" := by decide
theorem lw_ihc : Cond.initialized R_hc ∈ lw_ws := lw_hc _ (hc_inl (i := 0) rfl)
theorem lw_imo : Cond.initialized mo_C ∈ lw_ws := lw_mo _ (List.mem_append_left _ (List.mem_of_getElem? (i := 0) rfl))
theorem lw_irl : Cond.initialized RL ∈ lw_ws := li_w0 (i := 0) rfl
theorem lw_cons {c : Cond} : ∀ w ∈ lw_ws, w ∈ c :: lw_ws := fun w h => List.mem_cons_of_mem _ h
theorem lw_cl13 {c : Cond} : Cond.classLink RL 13 "java/lang/IllegalArgumentException" ∈ c :: lw_ws := lw_cons _ (li_w0 (i := 1) rfl)
theorem lw_cl15 {c : Cond} : Cond.classLink RL 15 "java/lang/IllegalStateException" ∈ c :: lw_ws := lw_cons _ (li_w0 (i := 2) rfl)
theorem lw_cl24 {c : Cond} : Cond.classLink RL 24 "java/lang/IndexOutOfBoundsException" ∈ c :: lw_ws := lw_cons _ (li_w0 (i := 3) rfl)
theorem lw_cl37 {c : Cond} : Cond.classLink RL 37 "java/lang/UnsupportedOperationException" ∈ c :: lw_ws := lw_cons _ (li_w0 (i := 4) rfl)
theorem lw_cl60 {c : Cond} : Cond.classLink RL 60 "java/util/NoSuchElementException" ∈ c :: lw_ws := lw_cons _ (li_w0 (i := 5) rfl)
abbrev m_lw_part : ev_M := lw_m 1 6 "part" "(LHostedCalls;I[J)I" c_lw_part 4 h_part
theorem kw_part : ev_kV m_lw_part (m_hc_part 21 1 6) 7 1 := lv_of lw_cons lw_hc (li_v_part (i := 3) rfl) (li_v_part (i := 4) rfl) (li_v_part (i := 5) rfl) (li_v_part (i := 6) rfl) lw_ihc pn_hc (by decide +kernel)
theorem ks_part : ev_kSW lw_M m_lw_part 91 3 h_part := ls_of (fun w h => h) (li_v_part (i := 0) rfl) (li_v_part (i := 1) rfl) (li_v_part (i := 2) rfl) lw_irl (by decide +kernel)
theorem km_part : ev_kV lw_M m_part 96 1 := lv_of (fun w h => h) lw_mo (li_v_part (i := 7) rfl) (li_v_part (i := 8) rfl) (li_v_part (i := 9) rfl) (li_v_part (i := 10) rfl) lw_imo pn_mo (by decide +kernel)
abbrev m_lw_type : ev_M := lw_m 4 27 "type" "(LHostedCalls;II[J)I" c_lw_type 5 h_type
theorem kw_type : ev_kV m_lw_type (m_hc_type 21 4 27) 17 2 := lv_of lw_cons lw_hc (li_v_type (i := 3) rfl) (li_v_type (i := 4) rfl) (li_v_type (i := 5) rfl) (li_v_type (i := 6) rfl) lw_ihc pn_hc (by decide +kernel)
theorem ks_type : ev_kSW lw_M m_lw_type 100 4 h_type := ls_of (fun w h => h) (li_v_type (i := 0) rfl) (li_v_type (i := 1) rfl) (li_v_type (i := 2) rfl) lw_irl (by decide +kernel)
theorem km_type : ev_kV lw_M m_type 103 2 := lv_of (fun w h => h) lw_mo (li_v_type (i := 7) rfl) (li_v_type (i := 8) rfl) (li_v_type (i := 9) rfl) (li_v_type (i := 10) rfl) lw_imo pn_mo (by decide +kernel)
abbrev m_lw_layout : ev_M := lw_m 1 6 "layout" "(LHostedCalls;II[J)I" c_lw_layout 5 h_layout
theorem kw_layout : ev_kV m_lw_layout (m_hc_layout 21 1 6) 21 2 := lv_of lw_cons lw_hc (li_v_layout (i := 3) rfl) (li_v_layout (i := 4) rfl) (li_v_layout (i := 5) rfl) (li_v_layout (i := 6) rfl) lw_ihc pn_hc (by decide +kernel)
theorem ks_layout : ev_kSW lw_M m_lw_layout 104 4 h_layout := ls_of (fun w h => h) (li_v_layout (i := 0) rfl) (li_v_layout (i := 1) rfl) (li_v_layout (i := 2) rfl) lw_irl (by decide +kernel)
theorem km_layout : ev_kV lw_M m_layout 106 2 := lv_of (fun w h => h) lw_mo (li_v_layout (i := 7) rfl) (li_v_layout (i := 8) rfl) (li_v_layout (i := 9) rfl) (li_v_layout (i := 10) rfl) lw_imo pn_mo (by decide +kernel)
abbrev m_lw_fits : ev_M := lw_m 1 6 "fits" "(LHostedCalls;II[J)I" c_lw_fits 5 h_fits
theorem kw_fits : ev_kV m_lw_fits (m_hc_fits 21 1 6) 26 2 := lv_of lw_cons lw_hc (li_v_fits (i := 3) rfl) (li_v_fits (i := 4) rfl) (li_v_fits (i := 5) rfl) (li_v_fits (i := 6) rfl) lw_ihc pn_hc (by decide +kernel)
theorem ks_fits : ev_kSW lw_M m_lw_fits 107 4 h_fits := ls_of (fun w h => h) (li_v_fits (i := 0) rfl) (li_v_fits (i := 1) rfl) (li_v_fits (i := 2) rfl) lw_irl (by decide +kernel)
theorem km_fits : ev_kV lw_M m_fits 109 2 := lv_of (fun w h => h) lw_mo (li_v_fits (i := 7) rfl) (li_v_fits (i := 8) rfl) (li_v_fits (i := 9) rfl) (li_v_fits (i := 10) rfl) lw_imo pn_mo (by decide +kernel)
abbrev m_lw_instance : ev_M := lw_m 19 356 "instance" "(LHostedCalls;[J)I" c_lw_instance 3 h_instance
theorem kw_instance : ev_kV m_lw_instance (m_hc_instance 21 19 356) 29 0 := lv_of lw_cons lw_hc (li_v_instance (i := 3) rfl) (li_v_instance (i := 4) rfl) (li_v_instance (i := 5) rfl) (li_v_instance (i := 6) rfl) lw_ihc pn_hc (by decide +kernel)
theorem ks_instance : ev_kSW lw_M m_lw_instance 110 2 h_instance := ls_of (fun w h => h) (li_v_instance (i := 0) rfl) (li_v_instance (i := 1) rfl) (li_v_instance (i := 2) rfl) lw_irl (by decide +kernel)
theorem km_instance : ev_kV lw_M m_instance 113 0 := lv_of (fun w h => h) lw_mo (li_v_instance (i := 7) rfl) (li_v_instance (i := 8) rfl) (li_v_instance (i := 9) rfl) (li_v_instance (i := 10) rfl) lw_imo pn_mo (by decide +kernel)
abbrev m_lw_function : ev_M := lw_m 1 6 "function" "(LHostedCalls;III[J)I" c_lw_function 6 h_function
theorem kw_function : ev_kV m_lw_function (m_hc_function 21 1 6) 33 3 := lv_of lw_cons lw_hc (li_v_function (i := 3) rfl) (li_v_function (i := 4) rfl) (li_v_function (i := 5) rfl) (li_v_function (i := 6) rfl) lw_ihc pn_hc (by decide +kernel)
theorem ks_function : ev_kSW lw_M m_lw_function 114 5 h_function := ls_of (fun w h => h) (li_v_function (i := 0) rfl) (li_v_function (i := 1) rfl) (li_v_function (i := 2) rfl) lw_irl (by decide +kernel)
theorem km_function : ev_kV lw_M m_function 117 3 := lv_of (fun w h => h) lw_mo (li_v_function (i := 7) rfl) (li_v_function (i := 8) rfl) (li_v_function (i := 9) rfl) (li_v_function (i := 10) rfl) lw_imo pn_mo (by decide +kernel)
abbrev m_lw_write : ev_M := lw_m 1 6 "write" "(LHostedCalls;IIIJ)I" c_lw_write 7 h_write
theorem kw_write : ev_kV m_lw_write (m_hc_write 21 1 6) 39 4 := lv_of lw_cons lw_hc (li_v_write (i := 3) rfl) (li_v_write (i := 4) rfl) (li_v_write (i := 5) rfl) (li_v_write (i := 6) rfl) lw_ihc pn_hc (by decide +kernel)
theorem ks_write : ev_kSW lw_M m_lw_write 120 5 h_write := ls_of (fun w h => h) (li_v_write (i := 0) rfl) (li_v_write (i := 1) rfl) (li_v_write (i := 2) rfl) lw_irl (by decide +kernel)
theorem km_write : ev_kV lw_M m_write 123 4 := lv_of (fun w h => h) lw_mo (li_v_write (i := 7) rfl) (li_v_write (i := 8) rfl) (li_v_write (i := 9) rfl) (li_v_write (i := 10) rfl) lw_imo pn_mo (by decide +kernel)
abbrev m_lw_read : ev_M := lw_m 1 6 "read" "(LHostedCalls;II[J)I" c_lw_read 5 h_read
theorem kw_read : ev_kV m_lw_read (m_hc_read 21 1 6) 43 2 := lv_of lw_cons lw_hc (li_v_read (i := 3) rfl) (li_v_read (i := 4) rfl) (li_v_read (i := 5) rfl) (li_v_read (i := 6) rfl) lw_ihc pn_hc (by decide +kernel)
theorem ks_read : ev_kSW lw_M m_lw_read 124 4 h_read := ls_of (fun w h => h) (li_v_read (i := 0) rfl) (li_v_read (i := 1) rfl) (li_v_read (i := 2) rfl) lw_irl (by decide +kernel)
theorem km_read : ev_kV lw_M m_read 126 2 := lv_of (fun w h => h) lw_mo (li_v_read (i := 7) rfl) (li_v_read (i := 8) rfl) (li_v_read (i := 9) rfl) (li_v_read (i := 10) rfl) lw_imo pn_mo (by decide +kernel)
abbrev m_lw_enter : ev_M := lw_m 1 6 "enter" "(LHostedCalls;I)I" c_lw_enter 3 h_enter
theorem kw_enter : ev_kV m_lw_enter (m_hc_enter 21 1 6) 46 1 := lv_of lw_cons lw_hc (li_v_enter (i := 3) rfl) (li_v_enter (i := 4) rfl) (li_v_enter (i := 5) rfl) (li_v_enter (i := 6) rfl) lw_ihc pn_hc (by decide +kernel)
theorem ks_enter : ev_kSW lw_M m_lw_enter 127 2 h_enter := ls_of (fun w h => h) (li_v_enter (i := 0) rfl) (li_v_enter (i := 1) rfl) (li_v_enter (i := 2) rfl) lw_irl (by decide +kernel)
theorem km_enter : ev_kV lw_M m_enter 130 1 := lv_of (fun w h => h) lw_mo (li_v_enter (i := 7) rfl) (li_v_enter (i := 8) rfl) (li_v_enter (i := 9) rfl) (li_v_enter (i := 10) rfl) lw_imo pn_mo (by decide +kernel)
abbrev m_lw_leave : ev_M := lw_m 1 6 "leave" "(LHostedCalls;)I" c_lw_leave 2 h_leave
theorem kw_leave : ev_kV m_lw_leave (m_hc_leave 21 1 6) 50 0 := lv_of lw_cons lw_hc (li_v_leave (i := 3) rfl) (li_v_leave (i := 4) rfl) (li_v_leave (i := 5) rfl) (li_v_leave (i := 6) rfl) lw_ihc pn_hc (by decide +kernel)
theorem ks_leave : ev_kSW lw_M m_lw_leave 131 1 h_leave := ls_of (fun w h => h) (li_v_leave (i := 0) rfl) (li_v_leave (i := 1) rfl) (li_v_leave (i := 2) rfl) lw_irl (by decide +kernel)
theorem km_leave : ev_kV lw_M m_leave 134 0 := lv_of (fun w h => h) lw_mo (li_v_leave (i := 7) rfl) (li_v_leave (i := 8) rfl) (li_v_leave (i := 9) rfl) (li_v_leave (i := 10) rfl) lw_imo pn_mo (by decide +kernel)
abbrev m_lw_make : ev_M := lw_m 1 6 "make" "(LHostedCalls;I[J)I" c_lw_make 4 h_make
theorem kw_make : ev_kV m_lw_make (m_hc_make 21 1 6) 53 1 := lv_of lw_cons lw_hc (li_v_make (i := 3) rfl) (li_v_make (i := 4) rfl) (li_v_make (i := 5) rfl) (li_v_make (i := 6) rfl) lw_ihc pn_hc (by decide +kernel)
theorem ks_make : ev_kSW lw_M m_lw_make 135 3 h_make := ls_of (fun w h => h) (li_v_make (i := 0) rfl) (li_v_make (i := 1) rfl) (li_v_make (i := 2) rfl) lw_irl (by decide +kernel)
theorem km_make : ev_kV lw_M m_make 137 1 := lv_of (fun w h => h) lw_mo (li_v_make (i := 7) rfl) (li_v_make (i := 8) rfl) (li_v_make (i := 9) rfl) (li_v_make (i := 10) rfl) lw_imo pn_mo (by decide +kernel)
abbrev m_lw_drop : ev_M := lw_m 1 6 "drop" "(LHostedCalls;I[J)I" c_lw_drop 4 h_drop
theorem kw_drop : ev_kV m_lw_drop (m_hc_drop 21 1 6) 56 1 := lv_of lw_cons lw_hc (li_v_drop (i := 3) rfl) (li_v_drop (i := 4) rfl) (li_v_drop (i := 5) rfl) (li_v_drop (i := 6) rfl) lw_ihc pn_hc (by decide +kernel)
theorem ks_drop : ev_kSW lw_M m_lw_drop 138 3 h_drop := ls_of (fun w h => h) (li_v_drop (i := 0) rfl) (li_v_drop (i := 1) rfl) (li_v_drop (i := 2) rfl) lw_irl (by decide +kernel)
theorem km_drop : ev_kV lw_M m_drop 140 1 := lv_of (fun w h => h) lw_mo (li_v_drop (i := 7) rfl) (li_v_drop (i := 8) rfl) (li_v_drop (i := 9) rfl) (li_v_drop (i := 10) rfl) lw_imo pn_mo (by decide +kernel)
abbrev m_lw_handle : ev_M := lw_m 1 6 "handle" "(LHostedCalls;III[J)I" c_lw_handle 6 h_handle
theorem kw_handle : ev_kV m_lw_handle (m_hc_handle 21 1 6) 62 3 := lv_of lw_cons lw_hc (li_v_handle (i := 3) rfl) (li_v_handle (i := 4) rfl) (li_v_handle (i := 5) rfl) (li_v_handle (i := 6) rfl) lw_ihc pn_hc (by decide +kernel)
theorem ks_handle : ev_kSW lw_M m_lw_handle 141 5 h_handle := ls_of (fun w h => h) (li_v_handle (i := 0) rfl) (li_v_handle (i := 1) rfl) (li_v_handle (i := 2) rfl) lw_irl (by decide +kernel)
theorem km_handle : ev_kV lw_M m_handle 143 3 := lv_of (fun w h => h) lw_mo (li_v_handle (i := 7) rfl) (li_v_handle (i := 8) rfl) (li_v_handle (i := 9) rfl) (li_v_handle (i := 10) rfl) lw_imo pn_mo (by decide +kernel)
abbrev m_lw_call : ev_M := lw_m 2 9 "call" "(LHostedCalls;III[J)I" c_lw_call 6 h_call
theorem kw_call : ev_kV m_lw_call (m_hc_call 21 2 9) 65 3 := lv_of lw_cons lw_hc (li_v_call (i := 3) rfl) (li_v_call (i := 4) rfl) (li_v_call (i := 5) rfl) (li_v_call (i := 6) rfl) lw_ihc pn_hc (by decide +kernel)
theorem ks_call : ev_kSW lw_M m_lw_call 144 5 h_call := ls_of (fun w h => h) (li_v_call (i := 0) rfl) (li_v_call (i := 1) rfl) (li_v_call (i := 2) rfl) lw_irl (by decide +kernel)
theorem km_call : ev_kV lw_M m_call 146 3 := lv_of (fun w h => h) lw_mo (li_v_call (i := 7) rfl) (li_v_call (i := 8) rfl) (li_v_call (i := 9) rfl) (li_v_call (i := 10) rfl) lw_imo pn_mo (by decide +kernel)
abbrev m_lw_back : ev_M := lw_m 2 9 "back" "(LHostedCalls;II[J)I" c_lw_back 5 h_back
theorem kw_back : ev_kV m_lw_back (m_hc_back 21 2 9) 68 2 := lv_of lw_cons lw_hc (li_v_back (i := 3) rfl) (li_v_back (i := 4) rfl) (li_v_back (i := 5) rfl) (li_v_back (i := 6) rfl) lw_ihc pn_hc (by decide +kernel)
theorem ks_back : ev_kSW lw_M m_lw_back 147 4 h_back := ls_of (fun w h => h) (li_v_back (i := 0) rfl) (li_v_back (i := 1) rfl) (li_v_back (i := 2) rfl) lw_irl (by decide +kernel)
theorem km_back : ev_kV lw_M m_back 149 2 := lv_of (fun w h => h) lw_mo (li_v_back (i := 7) rfl) (li_v_back (i := 8) rfl) (li_v_back (i := 9) rfl) (li_v_back (i := 10) rfl) lw_imo pn_mo (by decide +kernel)
abbrev m_lw_trap : ev_M := lw_m 1 6 "trap" "(LHostedCalls;)I" c_lw_trap 2 h_trap
theorem kw_trap : ev_kV m_lw_trap (m_hc_trap 21 1 6) 71 0 := lv_of lw_cons lw_hc (li_v_trap (i := 3) rfl) (li_v_trap (i := 4) rfl) (li_v_trap (i := 5) rfl) (li_v_trap (i := 6) rfl) lw_ihc pn_hc (by decide +kernel)
theorem ks_trap : ev_kSW lw_M m_lw_trap 150 1 h_trap := ls_of (fun w h => h) (li_v_trap (i := 0) rfl) (li_v_trap (i := 1) rfl) (li_v_trap (i := 2) rfl) lw_irl (by decide +kernel)
theorem km_trap : ev_kV lw_M m_trap 152 0 := lv_of (fun w h => h) lw_mo (li_v_trap (i := 7) rfl) (li_v_trap (i := 8) rfl) (li_v_trap (i := 9) rfl) (li_v_trap (i := 10) rfl) lw_imo pn_mo (by decide +kernel)
abbrev m_lw_state : ev_M := lw_m 1 6 "state" "(LHostedCalls;II[J)I" c_lw_state 5 h_state
theorem kw_state : ev_kV m_lw_state (m_hc_state 21 1 6) 74 2 := lv_of lw_cons lw_hc (li_v_state (i := 3) rfl) (li_v_state (i := 4) rfl) (li_v_state (i := 5) rfl) (li_v_state (i := 6) rfl) lw_ihc pn_hc (by decide +kernel)
theorem ks_state : ev_kSW lw_M m_lw_state 165 4 h_state := ls_of (fun w h => h) (li_v_state (i := 0) rfl) (li_v_state (i := 1) rfl) (li_v_state (i := 2) rfl) lw_irl (by decide +kernel)
theorem km_state : ev_kV lw_M m_state 167 2 := lv_of (fun w h => h) lw_mo (li_v_state (i := 7) rfl) (li_v_state (i := 8) rfl) (li_v_state (i := 9) rfl) (li_v_state (i := 10) rfl) lw_imo pn_mo (by decide +kernel)
abbrev m_lw_close : ev_M := lw_m 1 6 "close" "(LHostedCalls;I[J)I" c_lw_close 4 h_close
theorem kw_close : ev_kV m_lw_close (m_hc_close 21 1 6) 77 1 := lv_of lw_cons lw_hc (li_v_close (i := 3) rfl) (li_v_close (i := 4) rfl) (li_v_close (i := 5) rfl) (li_v_close (i := 6) rfl) lw_ihc pn_hc (by decide +kernel)
theorem ks_close : ev_kSW lw_M m_lw_close 168 3 h_close := ls_of (fun w h => h) (li_v_close (i := 0) rfl) (li_v_close (i := 1) rfl) (li_v_close (i := 2) rfl) lw_irl (by decide +kernel)
theorem km_close : ev_kV lw_M m_close 170 1 := lv_of (fun w h => h) lw_mo (li_v_close (i := 7) rfl) (li_v_close (i := 8) rfl) (li_v_close (i := 9) rfl) (li_v_close (i := 10) rfl) lw_imo pn_mo (by decide +kernel)
abbrev m_lw_resources : ev_M := lw_m 1 6 "resources" "(LHostedCalls;IZ[J)I" c_lw_resources 5 h_resources
theorem kw_resources : ev_kV m_lw_resources (m_hc_resources 21 1 6) 80 2 := lv_of lw_cons lw_hc (li_v_resources (i := 3) rfl) (li_v_resources (i := 4) rfl) (li_v_resources (i := 5) rfl) (li_v_resources (i := 6) rfl) lw_ihc pn_hc (by decide +kernel)
theorem ks_resources : ev_kSW lw_M m_lw_resources 171 4 h_resources := ls_of (fun w h => h) (li_v_resources (i := 0) rfl) (li_v_resources (i := 1) rfl) (li_v_resources (i := 2) rfl) lw_irl (by decide +kernel)
theorem km_resources : ev_kV lw_M m_resources 174 2 := lv_of (fun w h => h) lw_mo (li_v_resources (i := 7) rfl) (li_v_resources (i := 8) rfl) (li_v_resources (i := 9) rfl) (li_v_resources (i := 10) rfl) lw_imo pn_mo (by decide +kernel)
abbrev m_lw_latest : ev_M := lw_m 1 6 "latest" "(LHostedCalls;I[J)I" c_lw_latest 4 h_latest
theorem kw_latest : ev_kV m_lw_latest (m_hc_latest 21 1 6) 84 1 := lv_of lw_cons lw_hc (li_v_latest (i := 3) rfl) (li_v_latest (i := 4) rfl) (li_v_latest (i := 5) rfl) (li_v_latest (i := 6) rfl) lw_ihc pn_hc (by decide +kernel)
theorem ks_latest : ev_kSW lw_M m_lw_latest 175 3 h_latest := ls_of (fun w h => h) (li_v_latest (i := 0) rfl) (li_v_latest (i := 1) rfl) (li_v_latest (i := 2) rfl) lw_irl (by decide +kernel)
theorem km_latest : ev_kV lw_M m_latest 177 1 := lv_of (fun w h => h) lw_mo (li_v_latest (i := 7) rfl) (li_v_latest (i := 8) rfl) (li_v_latest (i := 9) rfl) (li_v_latest (i := 10) rfl) lw_imo pn_mo (by decide +kernel)
theorem kw_passed : ev_kV lw_M (m_hc_passed 21 0 0) 153 0 := lv_of (fun w h => h) lw_hc (li_v_passed (i := 0) rfl) (li_v_passed (i := 1) rfl) (li_v_passed (i := 2) rfl) (li_v_passed (i := 3) rfl) lw_ihc pn_hc (by decide +kernel)
theorem km_passed : ev_kV lw_M m_passed 156 0 := lv_of (fun w h => h) lw_mo (li_v_passed (i := 4) rfl) (li_v_passed (i := 5) rfl) (li_v_passed (i := 6) rfl) (li_v_passed (i := 7) rfl) lw_imo pn_mo (by decide +kernel)
theorem kw_depth : ev_kV lw_M (m_hc_depth 21 0 0) 157 0 := lv_of (fun w h => h) lw_hc (li_v_depth (i := 0) rfl) (li_v_depth (i := 1) rfl) (li_v_depth (i := 2) rfl) (li_v_depth (i := 3) rfl) lw_ihc pn_hc (by decide +kernel)
theorem km_depth : ev_kV lw_M m_depth 160 0 := lv_of (fun w h => h) lw_mo (li_v_depth (i := 4) rfl) (li_v_depth (i := 5) rfl) (li_v_depth (i := 6) rfl) (li_v_depth (i := 7) rfl) lw_imo pn_mo (by decide +kernel)
theorem kw_level : ev_kV lw_M (m_hc_level 21 0 0) 161 1 := lv_of (fun w h => h) lw_hc (li_v_level (i := 0) rfl) (li_v_level (i := 1) rfl) (li_v_level (i := 2) rfl) (li_v_level (i := 3) rfl) lw_ihc pn_hc (by decide +kernel)
theorem km_level : ev_kV lw_M m_level 164 1 := lv_of (fun w h => h) lw_mo (li_v_level (i := 4) rfl) (li_v_level (i := 5) rfl) (li_v_level (i := 6) rfl) (li_v_level (i := 7) rfl) lw_imo pn_mo (by decide +kernel)
theorem km_thrown : ev_kV lw_M m_thrown 97 0 := lv_of (fun w h => h) lw_mo (li_v_thrown (i := 0) rfl) (li_v_thrown (i := 1) rfl) (li_v_thrown (i := 2) rfl) (li_v_thrown (i := 3) rfl) lw_imo pn_mo (by decide +kernel)
theorem d_lw_part_0 : decode c_lw_part 0 = .ok (.aload_n 2, 1) := by decide +kernel
theorem d_lw_part_1 : decode c_lw_part 1 = .ok (.iconst 0, 1) := by decide +kernel
theorem d_lw_part_2 : decode c_lw_part 2 = .ok (.aload_n 0, 1) := by decide +kernel
theorem d_lw_part_3 : decode c_lw_part 3 = .ok (.iload_n 1, 1) := by decide +kernel
theorem d_lw_part_4 : decode c_lw_part 4 = .ok (.invokevirtual 7, 3) := by decide +kernel
theorem d_lw_part_7 : decode c_lw_part 7 = .ok (.i2l, 1) := by decide +kernel
theorem d_lw_part_8 : decode c_lw_part 8 = .ok (.lastore, 1) := by decide +kernel
theorem d_lw_part_9 : decode c_lw_part 9 = .ok (.goto 9, 3) := by decide +kernel
theorem d_lw_part_12 : decode c_lw_part 12 = .ok (.astore_n 3, 1) := by decide +kernel
theorem d_lw_part_13 : decode c_lw_part 13 = .ok (.iconst 1, 1) := by decide +kernel
theorem d_lw_part_14 : decode c_lw_part 14 = .ok (.ireturn, 1) := by decide +kernel
theorem d_lw_part_15 : decode c_lw_part 15 = .ok (.astore_n 3, 1) := by decide +kernel
theorem d_lw_part_16 : decode c_lw_part 16 = .ok (.iconst 2, 1) := by decide +kernel
theorem d_lw_part_17 : decode c_lw_part 17 = .ok (.ireturn, 1) := by decide +kernel
theorem d_lw_part_18 : decode c_lw_part 18 = .ok (.iconst 0, 1) := by decide +kernel
theorem d_lw_part_19 : decode c_lw_part 19 = .ok (.ireturn, 1) := by decide +kernel
theorem d_lw_type_0 : decode c_lw_type 0 = .ok (.aload_n 3, 1) := by decide +kernel
theorem d_lw_type_1 : decode c_lw_type 1 = .ok (.iconst 0, 1) := by decide +kernel
theorem d_lw_type_2 : decode c_lw_type 2 = .ok (.aload_n 0, 1) := by decide +kernel
theorem d_lw_type_3 : decode c_lw_type 3 = .ok (.iload_n 1, 1) := by decide +kernel
theorem d_lw_type_4 : decode c_lw_type 4 = .ok (.iload_n 2, 1) := by decide +kernel
theorem d_lw_type_5 : decode c_lw_type 5 = .ok (.invokevirtual 17, 3) := by decide +kernel
theorem d_lw_type_8 : decode c_lw_type 8 = .ok (.i2l, 1) := by decide +kernel
theorem d_lw_type_9 : decode c_lw_type 9 = .ok (.lastore, 1) := by decide +kernel
theorem d_lw_type_10 : decode c_lw_type 10 = .ok (.goto 11, 3) := by decide +kernel
theorem d_lw_type_13 : decode c_lw_type 13 = .ok (.astore 4, 2) := by decide +kernel
theorem d_lw_type_15 : decode c_lw_type 15 = .ok (.iconst 1, 1) := by decide +kernel
theorem d_lw_type_16 : decode c_lw_type 16 = .ok (.ireturn, 1) := by decide +kernel
theorem d_lw_type_17 : decode c_lw_type 17 = .ok (.astore 4, 2) := by decide +kernel
theorem d_lw_type_19 : decode c_lw_type 19 = .ok (.iconst 2, 1) := by decide +kernel
theorem d_lw_type_20 : decode c_lw_type 20 = .ok (.ireturn, 1) := by decide +kernel
theorem d_lw_type_21 : decode c_lw_type 21 = .ok (.iconst 0, 1) := by decide +kernel
theorem d_lw_type_22 : decode c_lw_type 22 = .ok (.ireturn, 1) := by decide +kernel
theorem d_lw_layout_0 : decode c_lw_layout 0 = .ok (.aload_n 3, 1) := by decide +kernel
theorem d_lw_layout_1 : decode c_lw_layout 1 = .ok (.iconst 0, 1) := by decide +kernel
theorem d_lw_layout_2 : decode c_lw_layout 2 = .ok (.aload_n 0, 1) := by decide +kernel
theorem d_lw_layout_3 : decode c_lw_layout 3 = .ok (.iload_n 1, 1) := by decide +kernel
theorem d_lw_layout_4 : decode c_lw_layout 4 = .ok (.iload_n 2, 1) := by decide +kernel
theorem d_lw_layout_5 : decode c_lw_layout 5 = .ok (.invokevirtual 21, 3) := by decide +kernel
theorem d_lw_layout_8 : decode c_lw_layout 8 = .ok (.i2l, 1) := by decide +kernel
theorem d_lw_layout_9 : decode c_lw_layout 9 = .ok (.lastore, 1) := by decide +kernel
theorem d_lw_layout_10 : decode c_lw_layout 10 = .ok (.goto 11, 3) := by decide +kernel
theorem d_lw_layout_13 : decode c_lw_layout 13 = .ok (.astore 4, 2) := by decide +kernel
theorem d_lw_layout_15 : decode c_lw_layout 15 = .ok (.iconst 1, 1) := by decide +kernel
theorem d_lw_layout_16 : decode c_lw_layout 16 = .ok (.ireturn, 1) := by decide +kernel
theorem d_lw_layout_17 : decode c_lw_layout 17 = .ok (.astore 4, 2) := by decide +kernel
theorem d_lw_layout_19 : decode c_lw_layout 19 = .ok (.iconst 2, 1) := by decide +kernel
theorem d_lw_layout_20 : decode c_lw_layout 20 = .ok (.ireturn, 1) := by decide +kernel
theorem d_lw_layout_21 : decode c_lw_layout 21 = .ok (.iconst 0, 1) := by decide +kernel
theorem d_lw_layout_22 : decode c_lw_layout 22 = .ok (.ireturn, 1) := by decide +kernel
theorem d_lw_fits_0 : decode c_lw_fits 0 = .ok (.aload_n 3, 1) := by decide +kernel
theorem d_lw_fits_1 : decode c_lw_fits 1 = .ok (.iconst 0, 1) := by decide +kernel
theorem d_lw_fits_2 : decode c_lw_fits 2 = .ok (.aload_n 0, 1) := by decide +kernel
theorem d_lw_fits_3 : decode c_lw_fits 3 = .ok (.iload_n 1, 1) := by decide +kernel
theorem d_lw_fits_4 : decode c_lw_fits 4 = .ok (.iload_n 2, 1) := by decide +kernel
theorem d_lw_fits_5 : decode c_lw_fits 5 = .ok (.invokevirtual 26, 3) := by decide +kernel
theorem d_lw_fits_8 : decode c_lw_fits 8 = .ok (.i2l, 1) := by decide +kernel
theorem d_lw_fits_9 : decode c_lw_fits 9 = .ok (.lastore, 1) := by decide +kernel
theorem d_lw_fits_10 : decode c_lw_fits 10 = .ok (.goto 7, 3) := by decide +kernel
theorem d_lw_fits_13 : decode c_lw_fits 13 = .ok (.astore 4, 2) := by decide +kernel
theorem d_lw_fits_15 : decode c_lw_fits 15 = .ok (.iconst 1, 1) := by decide +kernel
theorem d_lw_fits_16 : decode c_lw_fits 16 = .ok (.ireturn, 1) := by decide +kernel
theorem d_lw_fits_17 : decode c_lw_fits 17 = .ok (.iconst 0, 1) := by decide +kernel
theorem d_lw_fits_18 : decode c_lw_fits 18 = .ok (.ireturn, 1) := by decide +kernel
theorem d_lw_instance_0 : decode c_lw_instance 0 = .ok (.aload_n 1, 1) := by decide +kernel
theorem d_lw_instance_1 : decode c_lw_instance 1 = .ok (.iconst 0, 1) := by decide +kernel
theorem d_lw_instance_2 : decode c_lw_instance 2 = .ok (.aload_n 0, 1) := by decide +kernel
theorem d_lw_instance_3 : decode c_lw_instance 3 = .ok (.invokevirtual 29, 3) := by decide +kernel
theorem d_lw_instance_6 : decode c_lw_instance 6 = .ok (.i2l, 1) := by decide +kernel
theorem d_lw_instance_7 : decode c_lw_instance 7 = .ok (.lastore, 1) := by decide +kernel
theorem d_lw_instance_8 : decode c_lw_instance 8 = .ok (.goto 6, 3) := by decide +kernel
theorem d_lw_instance_11 : decode c_lw_instance 11 = .ok (.astore_n 2, 1) := by decide +kernel
theorem d_lw_instance_12 : decode c_lw_instance 12 = .ok (.iconst 1, 1) := by decide +kernel
theorem d_lw_instance_13 : decode c_lw_instance 13 = .ok (.ireturn, 1) := by decide +kernel
theorem d_lw_instance_14 : decode c_lw_instance 14 = .ok (.iconst 0, 1) := by decide +kernel
theorem d_lw_instance_15 : decode c_lw_instance 15 = .ok (.ireturn, 1) := by decide +kernel
theorem d_lw_function_0 : decode c_lw_function 0 = .ok (.aload 4, 2) := by decide +kernel
theorem d_lw_function_2 : decode c_lw_function 2 = .ok (.iconst 0, 1) := by decide +kernel
theorem d_lw_function_3 : decode c_lw_function 3 = .ok (.aload_n 0, 1) := by decide +kernel
theorem d_lw_function_4 : decode c_lw_function 4 = .ok (.iload_n 1, 1) := by decide +kernel
theorem d_lw_function_5 : decode c_lw_function 5 = .ok (.iload_n 2, 1) := by decide +kernel
theorem d_lw_function_6 : decode c_lw_function 6 = .ok (.iload_n 3, 1) := by decide +kernel
theorem d_lw_function_7 : decode c_lw_function 7 = .ok (.invokevirtual 33, 3) := by decide +kernel
theorem d_lw_function_10 : decode c_lw_function 10 = .ok (.i2l, 1) := by decide +kernel
theorem d_lw_function_11 : decode c_lw_function 11 = .ok (.lastore, 1) := by decide +kernel
theorem d_lw_function_12 : decode c_lw_function 12 = .ok (.goto 15, 3) := by decide +kernel
theorem d_lw_function_15 : decode c_lw_function 15 = .ok (.astore 5, 2) := by decide +kernel
theorem d_lw_function_17 : decode c_lw_function 17 = .ok (.iconst 1, 1) := by decide +kernel
theorem d_lw_function_18 : decode c_lw_function 18 = .ok (.ireturn, 1) := by decide +kernel
theorem d_lw_function_19 : decode c_lw_function 19 = .ok (.astore 5, 2) := by decide +kernel
theorem d_lw_function_21 : decode c_lw_function 21 = .ok (.iconst 2, 1) := by decide +kernel
theorem d_lw_function_22 : decode c_lw_function 22 = .ok (.ireturn, 1) := by decide +kernel
theorem d_lw_function_23 : decode c_lw_function 23 = .ok (.astore 5, 2) := by decide +kernel
theorem d_lw_function_25 : decode c_lw_function 25 = .ok (.iconst 3, 1) := by decide +kernel
theorem d_lw_function_26 : decode c_lw_function 26 = .ok (.ireturn, 1) := by decide +kernel
theorem d_lw_function_27 : decode c_lw_function 27 = .ok (.iconst 0, 1) := by decide +kernel
theorem d_lw_function_28 : decode c_lw_function 28 = .ok (.ireturn, 1) := by decide +kernel
theorem d_lw_write_0 : decode c_lw_write 0 = .ok (.aload_n 0, 1) := by decide +kernel
theorem d_lw_write_1 : decode c_lw_write 1 = .ok (.iload_n 1, 1) := by decide +kernel
theorem d_lw_write_2 : decode c_lw_write 2 = .ok (.iload_n 2, 1) := by decide +kernel
theorem d_lw_write_3 : decode c_lw_write 3 = .ok (.iload_n 3, 1) := by decide +kernel
theorem d_lw_write_4 : decode c_lw_write 4 = .ok (.lload 4, 2) := by decide +kernel
theorem d_lw_write_6 : decode c_lw_write 6 = .ok (.invokevirtual 39, 3) := by decide +kernel
theorem d_lw_write_9 : decode c_lw_write 9 = .ok (.goto 11, 3) := by decide +kernel
theorem d_lw_write_12 : decode c_lw_write 12 = .ok (.astore 6, 2) := by decide +kernel
theorem d_lw_write_14 : decode c_lw_write 14 = .ok (.iconst 1, 1) := by decide +kernel
theorem d_lw_write_15 : decode c_lw_write 15 = .ok (.ireturn, 1) := by decide +kernel
theorem d_lw_write_16 : decode c_lw_write 16 = .ok (.astore 6, 2) := by decide +kernel
theorem d_lw_write_18 : decode c_lw_write 18 = .ok (.iconst 2, 1) := by decide +kernel
theorem d_lw_write_19 : decode c_lw_write 19 = .ok (.ireturn, 1) := by decide +kernel
theorem d_lw_write_20 : decode c_lw_write 20 = .ok (.iconst 0, 1) := by decide +kernel
theorem d_lw_write_21 : decode c_lw_write 21 = .ok (.ireturn, 1) := by decide +kernel
theorem d_lw_read_0 : decode c_lw_read 0 = .ok (.aload_n 3, 1) := by decide +kernel
theorem d_lw_read_1 : decode c_lw_read 1 = .ok (.iconst 0, 1) := by decide +kernel
theorem d_lw_read_2 : decode c_lw_read 2 = .ok (.aload_n 0, 1) := by decide +kernel
theorem d_lw_read_3 : decode c_lw_read 3 = .ok (.iload_n 1, 1) := by decide +kernel
theorem d_lw_read_4 : decode c_lw_read 4 = .ok (.iload_n 2, 1) := by decide +kernel
theorem d_lw_read_5 : decode c_lw_read 5 = .ok (.invokevirtual 43, 3) := by decide +kernel
theorem d_lw_read_8 : decode c_lw_read 8 = .ok (.i2l, 1) := by decide +kernel
theorem d_lw_read_9 : decode c_lw_read 9 = .ok (.lastore, 1) := by decide +kernel
theorem d_lw_read_10 : decode c_lw_read 10 = .ok (.goto 11, 3) := by decide +kernel
theorem d_lw_read_13 : decode c_lw_read 13 = .ok (.astore 4, 2) := by decide +kernel
theorem d_lw_read_15 : decode c_lw_read 15 = .ok (.iconst 1, 1) := by decide +kernel
theorem d_lw_read_16 : decode c_lw_read 16 = .ok (.ireturn, 1) := by decide +kernel
theorem d_lw_read_17 : decode c_lw_read 17 = .ok (.astore 4, 2) := by decide +kernel
theorem d_lw_read_19 : decode c_lw_read 19 = .ok (.iconst 2, 1) := by decide +kernel
theorem d_lw_read_20 : decode c_lw_read 20 = .ok (.ireturn, 1) := by decide +kernel
theorem d_lw_read_21 : decode c_lw_read 21 = .ok (.iconst 0, 1) := by decide +kernel
theorem d_lw_read_22 : decode c_lw_read 22 = .ok (.ireturn, 1) := by decide +kernel
theorem d_lw_enter_0 : decode c_lw_enter 0 = .ok (.aload_n 0, 1) := by decide +kernel
theorem d_lw_enter_1 : decode c_lw_enter 1 = .ok (.iload_n 1, 1) := by decide +kernel
theorem d_lw_enter_2 : decode c_lw_enter 2 = .ok (.invokevirtual 46, 3) := by decide +kernel
theorem d_lw_enter_5 : decode c_lw_enter 5 = .ok (.goto 9, 3) := by decide +kernel
theorem d_lw_enter_8 : decode c_lw_enter 8 = .ok (.astore_n 2, 1) := by decide +kernel
theorem d_lw_enter_9 : decode c_lw_enter 9 = .ok (.iconst 1, 1) := by decide +kernel
theorem d_lw_enter_10 : decode c_lw_enter 10 = .ok (.ireturn, 1) := by decide +kernel
theorem d_lw_enter_11 : decode c_lw_enter 11 = .ok (.astore_n 2, 1) := by decide +kernel
theorem d_lw_enter_12 : decode c_lw_enter 12 = .ok (.iconst 2, 1) := by decide +kernel
theorem d_lw_enter_13 : decode c_lw_enter 13 = .ok (.ireturn, 1) := by decide +kernel
theorem d_lw_enter_14 : decode c_lw_enter 14 = .ok (.iconst 0, 1) := by decide +kernel
theorem d_lw_enter_15 : decode c_lw_enter 15 = .ok (.ireturn, 1) := by decide +kernel
theorem d_lw_leave_0 : decode c_lw_leave 0 = .ok (.aload_n 0, 1) := by decide +kernel
theorem d_lw_leave_1 : decode c_lw_leave 1 = .ok (.invokevirtual 50, 3) := by decide +kernel
theorem d_lw_leave_4 : decode c_lw_leave 4 = .ok (.goto 6, 3) := by decide +kernel
theorem d_lw_leave_7 : decode c_lw_leave 7 = .ok (.astore_n 1, 1) := by decide +kernel
theorem d_lw_leave_8 : decode c_lw_leave 8 = .ok (.iconst 1, 1) := by decide +kernel
theorem d_lw_leave_9 : decode c_lw_leave 9 = .ok (.ireturn, 1) := by decide +kernel
theorem d_lw_leave_10 : decode c_lw_leave 10 = .ok (.iconst 0, 1) := by decide +kernel
theorem d_lw_leave_11 : decode c_lw_leave 11 = .ok (.ireturn, 1) := by decide +kernel
theorem d_lw_make_0 : decode c_lw_make 0 = .ok (.aload_n 2, 1) := by decide +kernel
theorem d_lw_make_1 : decode c_lw_make 1 = .ok (.iconst 0, 1) := by decide +kernel
theorem d_lw_make_2 : decode c_lw_make 2 = .ok (.aload_n 0, 1) := by decide +kernel
theorem d_lw_make_3 : decode c_lw_make 3 = .ok (.iload_n 1, 1) := by decide +kernel
theorem d_lw_make_4 : decode c_lw_make 4 = .ok (.invokevirtual 53, 3) := by decide +kernel
theorem d_lw_make_7 : decode c_lw_make 7 = .ok (.i2l, 1) := by decide +kernel
theorem d_lw_make_8 : decode c_lw_make 8 = .ok (.lastore, 1) := by decide +kernel
theorem d_lw_make_9 : decode c_lw_make 9 = .ok (.goto 12, 3) := by decide +kernel
theorem d_lw_make_12 : decode c_lw_make 12 = .ok (.astore_n 3, 1) := by decide +kernel
theorem d_lw_make_13 : decode c_lw_make 13 = .ok (.iconst 1, 1) := by decide +kernel
theorem d_lw_make_14 : decode c_lw_make 14 = .ok (.ireturn, 1) := by decide +kernel
theorem d_lw_make_15 : decode c_lw_make 15 = .ok (.astore_n 3, 1) := by decide +kernel
theorem d_lw_make_16 : decode c_lw_make 16 = .ok (.iconst 2, 1) := by decide +kernel
theorem d_lw_make_17 : decode c_lw_make 17 = .ok (.ireturn, 1) := by decide +kernel
theorem d_lw_make_18 : decode c_lw_make 18 = .ok (.astore_n 3, 1) := by decide +kernel
theorem d_lw_make_19 : decode c_lw_make 19 = .ok (.iconst 3, 1) := by decide +kernel
theorem d_lw_make_20 : decode c_lw_make 20 = .ok (.ireturn, 1) := by decide +kernel
theorem d_lw_make_21 : decode c_lw_make 21 = .ok (.iconst 0, 1) := by decide +kernel
theorem d_lw_make_22 : decode c_lw_make 22 = .ok (.ireturn, 1) := by decide +kernel
theorem d_lw_drop_0 : decode c_lw_drop 0 = .ok (.aload_n 2, 1) := by decide +kernel
theorem d_lw_drop_1 : decode c_lw_drop 1 = .ok (.iconst 0, 1) := by decide +kernel
theorem d_lw_drop_2 : decode c_lw_drop 2 = .ok (.aload_n 0, 1) := by decide +kernel
theorem d_lw_drop_3 : decode c_lw_drop 3 = .ok (.iload_n 1, 1) := by decide +kernel
theorem d_lw_drop_4 : decode c_lw_drop 4 = .ok (.invokevirtual 56, 3) := by decide +kernel
theorem d_lw_drop_7 : decode c_lw_drop 7 = .ok (.ifCond .eq 7, 3) := by decide +kernel
theorem d_lw_drop_10 : decode c_lw_drop 10 = .ok (.lconst 1, 1) := by decide +kernel
theorem d_lw_drop_11 : decode c_lw_drop 11 = .ok (.goto 4, 3) := by decide +kernel
theorem d_lw_drop_14 : decode c_lw_drop 14 = .ok (.lconst 0, 1) := by decide +kernel
theorem d_lw_drop_15 : decode c_lw_drop 15 = .ok (.lastore, 1) := by decide +kernel
theorem d_lw_drop_16 : decode c_lw_drop 16 = .ok (.goto 12, 3) := by decide +kernel
theorem d_lw_drop_19 : decode c_lw_drop 19 = .ok (.astore_n 3, 1) := by decide +kernel
theorem d_lw_drop_20 : decode c_lw_drop 20 = .ok (.iconst 1, 1) := by decide +kernel
theorem d_lw_drop_21 : decode c_lw_drop 21 = .ok (.ireturn, 1) := by decide +kernel
theorem d_lw_drop_22 : decode c_lw_drop 22 = .ok (.astore_n 3, 1) := by decide +kernel
theorem d_lw_drop_23 : decode c_lw_drop 23 = .ok (.iconst 2, 1) := by decide +kernel
theorem d_lw_drop_24 : decode c_lw_drop 24 = .ok (.ireturn, 1) := by decide +kernel
theorem d_lw_drop_25 : decode c_lw_drop 25 = .ok (.astore_n 3, 1) := by decide +kernel
theorem d_lw_drop_26 : decode c_lw_drop 26 = .ok (.iconst 3, 1) := by decide +kernel
theorem d_lw_drop_27 : decode c_lw_drop 27 = .ok (.ireturn, 1) := by decide +kernel
theorem d_lw_drop_28 : decode c_lw_drop 28 = .ok (.iconst 0, 1) := by decide +kernel
theorem d_lw_drop_29 : decode c_lw_drop 29 = .ok (.ireturn, 1) := by decide +kernel
theorem d_lw_handle_0 : decode c_lw_handle 0 = .ok (.aload 4, 2) := by decide +kernel
theorem d_lw_handle_2 : decode c_lw_handle 2 = .ok (.iconst 0, 1) := by decide +kernel
theorem d_lw_handle_3 : decode c_lw_handle 3 = .ok (.aload_n 0, 1) := by decide +kernel
theorem d_lw_handle_4 : decode c_lw_handle 4 = .ok (.iload_n 1, 1) := by decide +kernel
theorem d_lw_handle_5 : decode c_lw_handle 5 = .ok (.iload_n 2, 1) := by decide +kernel
theorem d_lw_handle_6 : decode c_lw_handle 6 = .ok (.iload_n 3, 1) := by decide +kernel
theorem d_lw_handle_7 : decode c_lw_handle 7 = .ok (.invokevirtual 62, 3) := by decide +kernel
theorem d_lw_handle_10 : decode c_lw_handle 10 = .ok (.i2l, 1) := by decide +kernel
theorem d_lw_handle_11 : decode c_lw_handle 11 = .ok (.lastore, 1) := by decide +kernel
theorem d_lw_handle_12 : decode c_lw_handle 12 = .ok (.goto 7, 3) := by decide +kernel
theorem d_lw_handle_15 : decode c_lw_handle 15 = .ok (.astore 5, 2) := by decide +kernel
theorem d_lw_handle_17 : decode c_lw_handle 17 = .ok (.iconst 1, 1) := by decide +kernel
theorem d_lw_handle_18 : decode c_lw_handle 18 = .ok (.ireturn, 1) := by decide +kernel
theorem d_lw_handle_19 : decode c_lw_handle 19 = .ok (.iconst 0, 1) := by decide +kernel
theorem d_lw_handle_20 : decode c_lw_handle 20 = .ok (.ireturn, 1) := by decide +kernel
theorem d_lw_call_0 : decode c_lw_call 0 = .ok (.aload 4, 2) := by decide +kernel
theorem d_lw_call_2 : decode c_lw_call 2 = .ok (.iconst 0, 1) := by decide +kernel
theorem d_lw_call_3 : decode c_lw_call 3 = .ok (.aload_n 0, 1) := by decide +kernel
theorem d_lw_call_4 : decode c_lw_call 4 = .ok (.iload_n 1, 1) := by decide +kernel
theorem d_lw_call_5 : decode c_lw_call 5 = .ok (.iload_n 2, 1) := by decide +kernel
theorem d_lw_call_6 : decode c_lw_call 6 = .ok (.iload_n 3, 1) := by decide +kernel
theorem d_lw_call_7 : decode c_lw_call 7 = .ok (.invokevirtual 65, 3) := by decide +kernel
theorem d_lw_call_10 : decode c_lw_call 10 = .ok (.i2l, 1) := by decide +kernel
theorem d_lw_call_11 : decode c_lw_call 11 = .ok (.lastore, 1) := by decide +kernel
theorem d_lw_call_12 : decode c_lw_call 12 = .ok (.goto 19, 3) := by decide +kernel
theorem d_lw_call_15 : decode c_lw_call 15 = .ok (.astore 5, 2) := by decide +kernel
theorem d_lw_call_17 : decode c_lw_call 17 = .ok (.iconst 1, 1) := by decide +kernel
theorem d_lw_call_18 : decode c_lw_call 18 = .ok (.ireturn, 1) := by decide +kernel
theorem d_lw_call_19 : decode c_lw_call 19 = .ok (.astore 5, 2) := by decide +kernel
theorem d_lw_call_21 : decode c_lw_call 21 = .ok (.iconst 2, 1) := by decide +kernel
theorem d_lw_call_22 : decode c_lw_call 22 = .ok (.ireturn, 1) := by decide +kernel
theorem d_lw_call_23 : decode c_lw_call 23 = .ok (.astore 5, 2) := by decide +kernel
theorem d_lw_call_25 : decode c_lw_call 25 = .ok (.iconst 3, 1) := by decide +kernel
theorem d_lw_call_26 : decode c_lw_call 26 = .ok (.ireturn, 1) := by decide +kernel
theorem d_lw_call_27 : decode c_lw_call 27 = .ok (.astore 5, 2) := by decide +kernel
theorem d_lw_call_29 : decode c_lw_call 29 = .ok (.iconst 4, 1) := by decide +kernel
theorem d_lw_call_30 : decode c_lw_call 30 = .ok (.ireturn, 1) := by decide +kernel
theorem d_lw_call_31 : decode c_lw_call 31 = .ok (.iconst 0, 1) := by decide +kernel
theorem d_lw_call_32 : decode c_lw_call 32 = .ok (.ireturn, 1) := by decide +kernel
theorem d_lw_back_0 : decode c_lw_back 0 = .ok (.aload_n 3, 1) := by decide +kernel
theorem d_lw_back_1 : decode c_lw_back 1 = .ok (.iconst 0, 1) := by decide +kernel
theorem d_lw_back_2 : decode c_lw_back 2 = .ok (.aload_n 0, 1) := by decide +kernel
theorem d_lw_back_3 : decode c_lw_back 3 = .ok (.iload_n 1, 1) := by decide +kernel
theorem d_lw_back_4 : decode c_lw_back 4 = .ok (.iload_n 2, 1) := by decide +kernel
theorem d_lw_back_5 : decode c_lw_back 5 = .ok (.invokevirtual 68, 3) := by decide +kernel
theorem d_lw_back_8 : decode c_lw_back 8 = .ok (.i2l, 1) := by decide +kernel
theorem d_lw_back_9 : decode c_lw_back 9 = .ok (.lastore, 1) := by decide +kernel
theorem d_lw_back_10 : decode c_lw_back 10 = .ok (.goto 15, 3) := by decide +kernel
theorem d_lw_back_13 : decode c_lw_back 13 = .ok (.astore 4, 2) := by decide +kernel
theorem d_lw_back_15 : decode c_lw_back 15 = .ok (.iconst 1, 1) := by decide +kernel
theorem d_lw_back_16 : decode c_lw_back 16 = .ok (.ireturn, 1) := by decide +kernel
theorem d_lw_back_17 : decode c_lw_back 17 = .ok (.astore 4, 2) := by decide +kernel
theorem d_lw_back_19 : decode c_lw_back 19 = .ok (.iconst 2, 1) := by decide +kernel
theorem d_lw_back_20 : decode c_lw_back 20 = .ok (.ireturn, 1) := by decide +kernel
theorem d_lw_back_21 : decode c_lw_back 21 = .ok (.astore 4, 2) := by decide +kernel
theorem d_lw_back_23 : decode c_lw_back 23 = .ok (.iconst 3, 1) := by decide +kernel
theorem d_lw_back_24 : decode c_lw_back 24 = .ok (.ireturn, 1) := by decide +kernel
theorem d_lw_back_25 : decode c_lw_back 25 = .ok (.iconst 0, 1) := by decide +kernel
theorem d_lw_back_26 : decode c_lw_back 26 = .ok (.ireturn, 1) := by decide +kernel
theorem d_lw_trap_0 : decode c_lw_trap 0 = .ok (.aload_n 0, 1) := by decide +kernel
theorem d_lw_trap_1 : decode c_lw_trap 1 = .ok (.invokevirtual 71, 3) := by decide +kernel
theorem d_lw_trap_4 : decode c_lw_trap 4 = .ok (.goto 6, 3) := by decide +kernel
theorem d_lw_trap_7 : decode c_lw_trap 7 = .ok (.astore_n 1, 1) := by decide +kernel
theorem d_lw_trap_8 : decode c_lw_trap 8 = .ok (.iconst 1, 1) := by decide +kernel
theorem d_lw_trap_9 : decode c_lw_trap 9 = .ok (.ireturn, 1) := by decide +kernel
theorem d_lw_trap_10 : decode c_lw_trap 10 = .ok (.iconst 0, 1) := by decide +kernel
theorem d_lw_trap_11 : decode c_lw_trap 11 = .ok (.ireturn, 1) := by decide +kernel
theorem d_lw_state_0 : decode c_lw_state 0 = .ok (.aload_n 3, 1) := by decide +kernel
theorem d_lw_state_1 : decode c_lw_state 1 = .ok (.iconst 0, 1) := by decide +kernel
theorem d_lw_state_2 : decode c_lw_state 2 = .ok (.aload_n 0, 1) := by decide +kernel
theorem d_lw_state_3 : decode c_lw_state 3 = .ok (.iload_n 1, 1) := by decide +kernel
theorem d_lw_state_4 : decode c_lw_state 4 = .ok (.iload_n 2, 1) := by decide +kernel
theorem d_lw_state_5 : decode c_lw_state 5 = .ok (.invokevirtual 74, 3) := by decide +kernel
theorem d_lw_state_8 : decode c_lw_state 8 = .ok (.i2l, 1) := by decide +kernel
theorem d_lw_state_9 : decode c_lw_state 9 = .ok (.lastore, 1) := by decide +kernel
theorem d_lw_state_10 : decode c_lw_state 10 = .ok (.goto 7, 3) := by decide +kernel
theorem d_lw_state_13 : decode c_lw_state 13 = .ok (.astore 4, 2) := by decide +kernel
theorem d_lw_state_15 : decode c_lw_state 15 = .ok (.iconst 1, 1) := by decide +kernel
theorem d_lw_state_16 : decode c_lw_state 16 = .ok (.ireturn, 1) := by decide +kernel
theorem d_lw_state_17 : decode c_lw_state 17 = .ok (.iconst 0, 1) := by decide +kernel
theorem d_lw_state_18 : decode c_lw_state 18 = .ok (.ireturn, 1) := by decide +kernel
theorem d_lw_close_0 : decode c_lw_close 0 = .ok (.aload_n 2, 1) := by decide +kernel
theorem d_lw_close_1 : decode c_lw_close 1 = .ok (.iconst 0, 1) := by decide +kernel
theorem d_lw_close_2 : decode c_lw_close 2 = .ok (.aload_n 0, 1) := by decide +kernel
theorem d_lw_close_3 : decode c_lw_close 3 = .ok (.iload_n 1, 1) := by decide +kernel
theorem d_lw_close_4 : decode c_lw_close 4 = .ok (.invokevirtual 77, 3) := by decide +kernel
theorem d_lw_close_7 : decode c_lw_close 7 = .ok (.i2l, 1) := by decide +kernel
theorem d_lw_close_8 : decode c_lw_close 8 = .ok (.lastore, 1) := by decide +kernel
theorem d_lw_close_9 : decode c_lw_close 9 = .ok (.goto 9, 3) := by decide +kernel
theorem d_lw_close_12 : decode c_lw_close 12 = .ok (.astore_n 3, 1) := by decide +kernel
theorem d_lw_close_13 : decode c_lw_close 13 = .ok (.iconst 1, 1) := by decide +kernel
theorem d_lw_close_14 : decode c_lw_close 14 = .ok (.ireturn, 1) := by decide +kernel
theorem d_lw_close_15 : decode c_lw_close 15 = .ok (.astore_n 3, 1) := by decide +kernel
theorem d_lw_close_16 : decode c_lw_close 16 = .ok (.iconst 2, 1) := by decide +kernel
theorem d_lw_close_17 : decode c_lw_close 17 = .ok (.ireturn, 1) := by decide +kernel
theorem d_lw_close_18 : decode c_lw_close 18 = .ok (.iconst 0, 1) := by decide +kernel
theorem d_lw_close_19 : decode c_lw_close 19 = .ok (.ireturn, 1) := by decide +kernel
theorem d_lw_resources_0 : decode c_lw_resources 0 = .ok (.aload_n 3, 1) := by decide +kernel
theorem d_lw_resources_1 : decode c_lw_resources 1 = .ok (.iconst 0, 1) := by decide +kernel
theorem d_lw_resources_2 : decode c_lw_resources 2 = .ok (.aload_n 0, 1) := by decide +kernel
theorem d_lw_resources_3 : decode c_lw_resources 3 = .ok (.iload_n 1, 1) := by decide +kernel
theorem d_lw_resources_4 : decode c_lw_resources 4 = .ok (.iload_n 2, 1) := by decide +kernel
theorem d_lw_resources_5 : decode c_lw_resources 5 = .ok (.invokevirtual 80, 3) := by decide +kernel
theorem d_lw_resources_8 : decode c_lw_resources 8 = .ok (.i2l, 1) := by decide +kernel
theorem d_lw_resources_9 : decode c_lw_resources 9 = .ok (.lastore, 1) := by decide +kernel
theorem d_lw_resources_10 : decode c_lw_resources 10 = .ok (.goto 7, 3) := by decide +kernel
theorem d_lw_resources_13 : decode c_lw_resources 13 = .ok (.astore 4, 2) := by decide +kernel
theorem d_lw_resources_15 : decode c_lw_resources 15 = .ok (.iconst 1, 1) := by decide +kernel
theorem d_lw_resources_16 : decode c_lw_resources 16 = .ok (.ireturn, 1) := by decide +kernel
theorem d_lw_resources_17 : decode c_lw_resources 17 = .ok (.iconst 0, 1) := by decide +kernel
theorem d_lw_resources_18 : decode c_lw_resources 18 = .ok (.ireturn, 1) := by decide +kernel
theorem d_lw_latest_0 : decode c_lw_latest 0 = .ok (.aload_n 2, 1) := by decide +kernel
theorem d_lw_latest_1 : decode c_lw_latest 1 = .ok (.iconst 0, 1) := by decide +kernel
theorem d_lw_latest_2 : decode c_lw_latest 2 = .ok (.aload_n 0, 1) := by decide +kernel
theorem d_lw_latest_3 : decode c_lw_latest 3 = .ok (.iload_n 1, 1) := by decide +kernel
theorem d_lw_latest_4 : decode c_lw_latest 4 = .ok (.invokevirtual 84, 3) := by decide +kernel
theorem d_lw_latest_7 : decode c_lw_latest 7 = .ok (.i2l, 1) := by decide +kernel
theorem d_lw_latest_8 : decode c_lw_latest 8 = .ok (.lastore, 1) := by decide +kernel
theorem d_lw_latest_9 : decode c_lw_latest 9 = .ok (.goto 6, 3) := by decide +kernel
theorem d_lw_latest_12 : decode c_lw_latest 12 = .ok (.astore_n 3, 1) := by decide +kernel
theorem d_lw_latest_13 : decode c_lw_latest 13 = .ok (.iconst 1, 1) := by decide +kernel
theorem d_lw_latest_14 : decode c_lw_latest 14 = .ok (.ireturn, 1) := by decide +kernel
theorem d_lw_latest_15 : decode c_lw_latest 15 = .ok (.iconst 0, 1) := by decide +kernel
theorem d_lw_latest_16 : decode c_lw_latest 16 = .ok (.ireturn, 1) := by decide +kernel
