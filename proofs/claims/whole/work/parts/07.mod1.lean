theorem d_mo_thrown_0 : decode c_mo_thrown 0 = .ok (.aload_n 0, 1) := by decide +kernel
theorem d_mo_thrown_1 : decode c_mo_thrown 1 = .ok (.getfield 141, 3) := by decide +kernel
theorem d_mo_thrown_4 : decode c_mo_thrown 4 = .ok (.ireturn, 1) := by decide +kernel
theorem d_mo_refuses_0 : decode c_mo_refuses 0 = .ok (.aload_n 0, 1) := by decide +kernel
theorem d_mo_refuses_1 : decode c_mo_refuses 1 = .ok (.iload_n 1, 1) := by decide +kernel
theorem d_mo_refuses_2 : decode c_mo_refuses 2 = .ok (.putfield 141, 3) := by decide +kernel
theorem d_mo_refuses_5 : decode c_mo_refuses 5 = .ok (.iload_n 1, 1) := by decide +kernel
theorem d_mo_refuses_6 : decode c_mo_refuses 6 = .ok (.ifCond .le 7, 3) := by decide +kernel
theorem d_mo_refuses_9 : decode c_mo_refuses 9 = .ok (.iconst 1, 1) := by decide +kernel
theorem d_mo_refuses_10 : decode c_mo_refuses 10 = .ok (.goto 4, 3) := by decide +kernel
theorem d_mo_refuses_13 : decode c_mo_refuses 13 = .ok (.iconst 0, 1) := by decide +kernel
theorem d_mo_refuses_14 : decode c_mo_refuses 14 = .ok (.ireturn, 1) := by decide +kernel
theorem d_mo_isType_0 : decode c_mo_isType 0 = .ok (.iload_n 1, 1) := by decide +kernel
theorem d_mo_isType_1 : decode c_mo_isType 1 = .ok (.ifCond .lt 15, 3) := by decide +kernel
theorem d_mo_isType_4 : decode c_mo_isType 4 = .ok (.iload_n 1, 1) := by decide +kernel
theorem d_mo_isType_5 : decode c_mo_isType 5 = .ok (.aload_n 0, 1) := by decide +kernel
theorem d_mo_isType_6 : decode c_mo_isType 6 = .ok (.getfield 144, 3) := by decide +kernel
theorem d_mo_isType_9 : decode c_mo_isType 9 = .ok (.if_icmp .ge 7, 3) := by decide +kernel
theorem d_mo_isType_12 : decode c_mo_isType 12 = .ok (.iconst 1, 1) := by decide +kernel
theorem d_mo_isType_13 : decode c_mo_isType 13 = .ok (.goto 4, 3) := by decide +kernel
theorem d_mo_isType_16 : decode c_mo_isType 16 = .ok (.iconst 0, 1) := by decide +kernel
theorem d_mo_isType_17 : decode c_mo_isType 17 = .ok (.ireturn, 1) := by decide +kernel
theorem d_mo_isInstance_0 : decode c_mo_isInstance 0 = .ok (.iload_n 1, 1) := by decide +kernel
theorem d_mo_isInstance_1 : decode c_mo_isInstance 1 = .ok (.ifCond .lt 15, 3) := by decide +kernel
theorem d_mo_isInstance_4 : decode c_mo_isInstance 4 = .ok (.iload_n 1, 1) := by decide +kernel
theorem d_mo_isInstance_5 : decode c_mo_isInstance 5 = .ok (.aload_n 0, 1) := by decide +kernel
theorem d_mo_isInstance_6 : decode c_mo_isInstance 6 = .ok (.getfield 147, 3) := by decide +kernel
theorem d_mo_isInstance_9 : decode c_mo_isInstance 9 = .ok (.if_icmp .ge 7, 3) := by decide +kernel
theorem d_mo_isInstance_12 : decode c_mo_isInstance 12 = .ok (.iconst 1, 1) := by decide +kernel
theorem d_mo_isInstance_13 : decode c_mo_isInstance 13 = .ok (.goto 4, 3) := by decide +kernel
theorem d_mo_isInstance_16 : decode c_mo_isInstance 16 = .ok (.iconst 0, 1) := by decide +kernel
theorem d_mo_isInstance_17 : decode c_mo_isInstance 17 = .ok (.ireturn, 1) := by decide +kernel
theorem d_mo_upTo_0 : decode c_mo_upTo 0 = .ok (.iload_n 0, 1) := by decide +kernel
theorem d_mo_upTo_1 : decode c_mo_upTo 1 = .ok (.iload_n 1, 1) := by decide +kernel
theorem d_mo_upTo_2 : decode c_mo_upTo 2 = .ok (.iadd, 1) := by decide +kernel
theorem d_mo_upTo_3 : decode c_mo_upTo 3 = .ok (.iconst 1, 1) := by decide +kernel
theorem d_mo_upTo_4 : decode c_mo_upTo 4 = .ok (.isub, 1) := by decide +kernel
theorem d_mo_upTo_5 : decode c_mo_upTo 5 = .ok (.iload_n 1, 1) := by decide +kernel
theorem d_mo_upTo_6 : decode c_mo_upTo 6 = .ok (.idiv, 1) := by decide +kernel
theorem d_mo_upTo_7 : decode c_mo_upTo 7 = .ok (.iload_n 1, 1) := by decide +kernel
theorem d_mo_upTo_8 : decode c_mo_upTo 8 = .ok (.imul, 1) := by decide +kernel
theorem d_mo_upTo_9 : decode c_mo_upTo 9 = .ok (.ireturn, 1) := by decide +kernel
theorem d_mo_plainSize_0 : decode c_mo_plainSize 0 = .ok (.iload_n 0, 1) := by decide +kernel
theorem d_mo_plainSize_1 : decode c_mo_plainSize 1 = .ok (.iconst 2, 1) := by decide +kernel
theorem d_mo_plainSize_2 : decode c_mo_plainSize 2 = .ok (.if_icmp .ne 7, 3) := by decide +kernel
theorem d_mo_plainSize_5 : decode c_mo_plainSize 5 = .ok (.iconst 2, 1) := by decide +kernel
theorem d_mo_plainSize_6 : decode c_mo_plainSize 6 = .ok (.goto 40, 3) := by decide +kernel
theorem d_mo_plainSize_9 : decode c_mo_plainSize 9 = .ok (.iload_n 0, 1) := by decide +kernel
theorem d_mo_plainSize_10 : decode c_mo_plainSize 10 = .ok (.iconst 3, 1) := by decide +kernel
theorem d_mo_plainSize_11 : decode c_mo_plainSize 11 = .ok (.if_icmp .eq 20, 3) := by decide +kernel
theorem d_mo_plainSize_14 : decode c_mo_plainSize 14 = .ok (.iload_n 0, 1) := by decide +kernel
theorem d_mo_plainSize_15 : decode c_mo_plainSize 15 = .ok (.iconst 5, 1) := by decide +kernel
theorem d_mo_plainSize_16 : decode c_mo_plainSize 16 = .ok (.if_icmp .eq 15, 3) := by decide +kernel
theorem d_mo_plainSize_19 : decode c_mo_plainSize 19 = .ok (.iload_n 0, 1) := by decide +kernel
theorem d_mo_plainSize_20 : decode c_mo_plainSize 20 = .ok (.bipush 6, 2) := by decide +kernel
theorem d_mo_plainSize_22 : decode c_mo_plainSize 22 = .ok (.if_icmp .eq 9, 3) := by decide +kernel
theorem d_mo_plainSize_25 : decode c_mo_plainSize 25 = .ok (.iload_n 0, 1) := by decide +kernel
theorem d_mo_plainSize_26 : decode c_mo_plainSize 26 = .ok (.bipush 8, 2) := by decide +kernel
theorem d_mo_plainSize_28 : decode c_mo_plainSize 28 = .ok (.if_icmp .ne 7, 3) := by decide +kernel
theorem d_mo_plainSize_31 : decode c_mo_plainSize 31 = .ok (.iconst 4, 1) := by decide +kernel
theorem d_mo_plainSize_32 : decode c_mo_plainSize 32 = .ok (.goto 14, 3) := by decide +kernel
theorem d_mo_plainSize_35 : decode c_mo_plainSize 35 = .ok (.iload_n 0, 1) := by decide +kernel
theorem d_mo_plainSize_36 : decode c_mo_plainSize 36 = .ok (.iconst 4, 1) := by decide +kernel
theorem d_mo_plainSize_37 : decode c_mo_plainSize 37 = .ok (.if_icmp .ne 8, 3) := by decide +kernel
theorem d_mo_plainSize_40 : decode c_mo_plainSize 40 = .ok (.bipush 8, 2) := by decide +kernel
theorem d_mo_plainSize_42 : decode c_mo_plainSize 42 = .ok (.goto 4, 3) := by decide +kernel
theorem d_mo_plainSize_45 : decode c_mo_plainSize 45 = .ok (.iconst 1, 1) := by decide +kernel
theorem d_mo_plainSize_46 : decode c_mo_plainSize 46 = .ok (.ireturn, 1) := by decide +kernel
theorem d_mo_shared_0 : decode c_mo_shared 0 = .ok (.aload_n 0, 1) := by decide +kernel
theorem d_mo_shared_1 : decode c_mo_shared 1 = .ok (.getfield 25, 3) := by decide +kernel
theorem d_mo_shared_4 : decode c_mo_shared 4 = .ok (.iload_n 1, 1) := by decide +kernel
theorem d_mo_shared_5 : decode c_mo_shared 5 = .ok (.iaload, 1) := by decide +kernel
theorem d_mo_shared_6 : decode c_mo_shared 6 = .ok (.aload_n 0, 1) := by decide +kernel
theorem d_mo_shared_7 : decode c_mo_shared 7 = .ok (.getfield 25, 3) := by decide +kernel
theorem d_mo_shared_10 : decode c_mo_shared 10 = .ok (.iload_n 2, 1) := by decide +kernel
theorem d_mo_shared_11 : decode c_mo_shared 11 = .ok (.iaload, 1) := by decide +kernel
theorem d_mo_shared_12 : decode c_mo_shared 12 = .ok (.if_icmp .ge 12, 3) := by decide +kernel
theorem d_mo_shared_15 : decode c_mo_shared 15 = .ok (.aload_n 0, 1) := by decide +kernel
theorem d_mo_shared_16 : decode c_mo_shared 16 = .ok (.getfield 25, 3) := by decide +kernel
theorem d_mo_shared_19 : decode c_mo_shared 19 = .ok (.iload_n 1, 1) := by decide +kernel
theorem d_mo_shared_20 : decode c_mo_shared 20 = .ok (.iaload, 1) := by decide +kernel
theorem d_mo_shared_21 : decode c_mo_shared 21 = .ok (.goto 9, 3) := by decide +kernel
theorem d_mo_shared_24 : decode c_mo_shared 24 = .ok (.aload_n 0, 1) := by decide +kernel
theorem d_mo_shared_25 : decode c_mo_shared 25 = .ok (.getfield 25, 3) := by decide +kernel
theorem d_mo_shared_28 : decode c_mo_shared 28 = .ok (.iload_n 2, 1) := by decide +kernel
theorem d_mo_shared_29 : decode c_mo_shared 29 = .ok (.iaload, 1) := by decide +kernel
theorem d_mo_shared_30 : decode c_mo_shared 30 = .ok (.ireturn, 1) := by decide +kernel
theorem d_mo_alike_0 : decode c_mo_alike 0 = .ok (.aload_n 0, 1) := by decide +kernel
theorem d_mo_alike_1 : decode c_mo_alike 1 = .ok (.getfield 7, 3) := by decide +kernel
theorem d_mo_alike_4 : decode c_mo_alike 4 = .ok (.iload_n 1, 1) := by decide +kernel
theorem d_mo_alike_5 : decode c_mo_alike 5 = .ok (.iaload, 1) := by decide +kernel
theorem d_mo_alike_6 : decode c_mo_alike 6 = .ok (.istore_n 3, 1) := by decide +kernel
theorem d_mo_alike_7 : decode c_mo_alike 7 = .ok (.iload_n 3, 1) := by decide +kernel
theorem d_mo_alike_8 : decode c_mo_alike 8 = .ok (.aload_n 0, 1) := by decide +kernel
theorem d_mo_alike_9 : decode c_mo_alike 9 = .ok (.getfield 7, 3) := by decide +kernel
theorem d_mo_alike_12 : decode c_mo_alike 12 = .ok (.iload_n 2, 1) := by decide +kernel
theorem d_mo_alike_13 : decode c_mo_alike 13 = .ok (.iaload, 1) := by decide +kernel
theorem d_mo_alike_14 : decode c_mo_alike 14 = .ok (.if_icmp .ne 91, 3) := by decide +kernel
theorem d_mo_alike_17 : decode c_mo_alike 17 = .ok (.iload_n 3, 1) := by decide +kernel
theorem d_mo_alike_18 : decode c_mo_alike 18 = .ok (.bipush 7, 2) := by decide +kernel
theorem d_mo_alike_20 : decode c_mo_alike 20 = .ok (.if_icmp .ne 18, 3) := by decide +kernel
theorem d_mo_alike_23 : decode c_mo_alike 23 = .ok (.aload_n 0, 1) := by decide +kernel
theorem d_mo_alike_24 : decode c_mo_alike 24 = .ok (.getfield 13, 3) := by decide +kernel
theorem d_mo_alike_27 : decode c_mo_alike 27 = .ok (.iload_n 1, 1) := by decide +kernel
theorem d_mo_alike_28 : decode c_mo_alike 28 = .ok (.iaload, 1) := by decide +kernel
theorem d_mo_alike_29 : decode c_mo_alike 29 = .ok (.aload_n 0, 1) := by decide +kernel
theorem d_mo_alike_30 : decode c_mo_alike 30 = .ok (.getfield 13, 3) := by decide +kernel
theorem d_mo_alike_33 : decode c_mo_alike 33 = .ok (.iload_n 2, 1) := by decide +kernel
theorem d_mo_alike_34 : decode c_mo_alike 34 = .ok (.iaload, 1) := by decide +kernel
theorem d_mo_alike_35 : decode c_mo_alike 35 = .ok (.if_icmp .gt 70, 3) := by decide +kernel
theorem d_mo_alike_38 : decode c_mo_alike 38 = .ok (.iload_n 3, 1) := by decide +kernel
theorem d_mo_alike_39 : decode c_mo_alike 39 = .ok (.bipush 11, 2) := by decide +kernel
theorem d_mo_alike_41 : decode c_mo_alike 41 = .ok (.if_icmp .lt 18, 3) := by decide +kernel
theorem d_mo_alike_44 : decode c_mo_alike 44 = .ok (.aload_n 0, 1) := by decide +kernel
theorem d_mo_alike_45 : decode c_mo_alike 45 = .ok (.getfield 13, 3) := by decide +kernel
theorem d_mo_alike_48 : decode c_mo_alike 48 = .ok (.iload_n 1, 1) := by decide +kernel
theorem d_mo_alike_49 : decode c_mo_alike 49 = .ok (.iaload, 1) := by decide +kernel
theorem d_mo_alike_50 : decode c_mo_alike 50 = .ok (.aload_n 0, 1) := by decide +kernel
theorem d_mo_alike_51 : decode c_mo_alike 51 = .ok (.getfield 13, 3) := by decide +kernel
theorem d_mo_alike_54 : decode c_mo_alike 54 = .ok (.iload_n 2, 1) := by decide +kernel
theorem d_mo_alike_55 : decode c_mo_alike 55 = .ok (.iaload, 1) := by decide +kernel
theorem d_mo_alike_56 : decode c_mo_alike 56 = .ok (.if_icmp .ne 49, 3) := by decide +kernel
theorem d_mo_alike_59 : decode c_mo_alike 59 = .ok (.iload_n 3, 1) := by decide +kernel
theorem d_mo_alike_60 : decode c_mo_alike 60 = .ok (.bipush 9, 2) := by decide +kernel
theorem d_mo_alike_62 : decode c_mo_alike 62 = .ok (.if_icmp .ne 18, 3) := by decide +kernel
theorem d_mo_alike_65 : decode c_mo_alike 65 = .ok (.aload_n 0, 1) := by decide +kernel
theorem d_mo_alike_66 : decode c_mo_alike 66 = .ok (.getfield 25, 3) := by decide +kernel
theorem d_mo_alike_69 : decode c_mo_alike 69 = .ok (.iload_n 1, 1) := by decide +kernel
theorem d_mo_alike_70 : decode c_mo_alike 70 = .ok (.iaload, 1) := by decide +kernel
theorem d_mo_alike_71 : decode c_mo_alike 71 = .ok (.aload_n 0, 1) := by decide +kernel
theorem d_mo_alike_72 : decode c_mo_alike 72 = .ok (.getfield 25, 3) := by decide +kernel
theorem d_mo_alike_75 : decode c_mo_alike 75 = .ok (.iload_n 2, 1) := by decide +kernel
theorem d_mo_alike_76 : decode c_mo_alike 76 = .ok (.iaload, 1) := by decide +kernel
theorem d_mo_alike_77 : decode c_mo_alike 77 = .ok (.if_icmp .lt 28, 3) := by decide +kernel
theorem d_mo_alike_80 : decode c_mo_alike 80 = .ok (.iload_n 3, 1) := by decide +kernel
theorem d_mo_alike_81 : decode c_mo_alike 81 = .ok (.bipush 10, 2) := by decide +kernel
theorem d_mo_alike_83 : decode c_mo_alike 83 = .ok (.if_icmp .ne 18, 3) := by decide +kernel
theorem d_mo_alike_86 : decode c_mo_alike 86 = .ok (.aload_n 0, 1) := by decide +kernel
theorem d_mo_alike_87 : decode c_mo_alike 87 = .ok (.getfield 25, 3) := by decide +kernel
theorem d_mo_alike_90 : decode c_mo_alike 90 = .ok (.iload_n 1, 1) := by decide +kernel
theorem d_mo_alike_91 : decode c_mo_alike 91 = .ok (.iaload, 1) := by decide +kernel
theorem d_mo_alike_92 : decode c_mo_alike 92 = .ok (.aload_n 0, 1) := by decide +kernel
theorem d_mo_alike_93 : decode c_mo_alike 93 = .ok (.getfield 25, 3) := by decide +kernel
theorem d_mo_alike_96 : decode c_mo_alike 96 = .ok (.iload_n 2, 1) := by decide +kernel
theorem d_mo_alike_97 : decode c_mo_alike 97 = .ok (.iaload, 1) := by decide +kernel
theorem d_mo_alike_98 : decode c_mo_alike 98 = .ok (.if_icmp .gt 7, 3) := by decide +kernel
theorem d_mo_alike_101 : decode c_mo_alike 101 = .ok (.iconst 1, 1) := by decide +kernel
theorem d_mo_alike_102 : decode c_mo_alike 102 = .ok (.goto 4, 3) := by decide +kernel
theorem d_mo_alike_105 : decode c_mo_alike 105 = .ok (.iconst 0, 1) := by decide +kernel
theorem d_mo_alike_106 : decode c_mo_alike 106 = .ok (.ireturn, 1) := by decide +kernel
theorem d_mo_await_0 : decode c_mo_await 0 = .ok (.aload_n 0, 1) := by decide +kernel
theorem d_mo_await_1 : decode c_mo_await 1 = .ok (.getfield 93, 3) := by decide +kernel
theorem d_mo_await_4 : decode c_mo_await 4 = .ok (.aload_n 0, 1) := by decide +kernel
theorem d_mo_await_5 : decode c_mo_await 5 = .ok (.getfield 181, 3) := by decide +kernel
theorem d_mo_await_8 : decode c_mo_await 8 = .ok (.iload_n 1, 1) := by decide +kernel
theorem d_mo_await_9 : decode c_mo_await 9 = .ok (.iastore, 1) := by decide +kernel
theorem d_mo_await_10 : decode c_mo_await 10 = .ok (.aload_n 0, 1) := by decide +kernel
theorem d_mo_await_11 : decode c_mo_await 11 = .ok (.getfield 96, 3) := by decide +kernel
theorem d_mo_await_14 : decode c_mo_await 14 = .ok (.aload_n 0, 1) := by decide +kernel
theorem d_mo_await_15 : decode c_mo_await 15 = .ok (.getfield 181, 3) := by decide +kernel
theorem d_mo_await_18 : decode c_mo_await 18 = .ok (.iload_n 2, 1) := by decide +kernel
theorem d_mo_await_19 : decode c_mo_await 19 = .ok (.iastore, 1) := by decide +kernel
theorem d_mo_await_20 : decode c_mo_await 20 = .ok (.aload_n 0, 1) := by decide +kernel
theorem d_mo_await_21 : decode c_mo_await 21 = .ok (.getfield 99, 3) := by decide +kernel
theorem d_mo_await_24 : decode c_mo_await 24 = .ok (.aload_n 0, 1) := by decide +kernel
theorem d_mo_await_25 : decode c_mo_await 25 = .ok (.getfield 181, 3) := by decide +kernel
theorem d_mo_await_28 : decode c_mo_await 28 = .ok (.iload_n 3, 1) := by decide +kernel
theorem d_mo_await_29 : decode c_mo_await 29 = .ok (.iastore, 1) := by decide +kernel
theorem d_mo_await_30 : decode c_mo_await 30 = .ok (.aload_n 0, 1) := by decide +kernel
theorem d_mo_await_31 : decode c_mo_await 31 = .ok (.getfield 102, 3) := by decide +kernel
theorem d_mo_await_34 : decode c_mo_await 34 = .ok (.aload_n 0, 1) := by decide +kernel
theorem d_mo_await_35 : decode c_mo_await 35 = .ok (.getfield 181, 3) := by decide +kernel
theorem d_mo_await_38 : decode c_mo_await 38 = .ok (.iload 4, 2) := by decide +kernel
theorem d_mo_await_40 : decode c_mo_await 40 = .ok (.iastore, 1) := by decide +kernel
theorem d_mo_await_41 : decode c_mo_await 41 = .ok (.aload_n 0, 1) := by decide +kernel
theorem d_mo_await_42 : decode c_mo_await 42 = .ok (.getfield 105, 3) := by decide +kernel
theorem d_mo_await_45 : decode c_mo_await 45 = .ok (.aload_n 0, 1) := by decide +kernel
theorem d_mo_await_46 : decode c_mo_await 46 = .ok (.getfield 181, 3) := by decide +kernel
theorem d_mo_await_49 : decode c_mo_await 49 = .ok (.iload 5, 2) := by decide +kernel
theorem d_mo_await_51 : decode c_mo_await 51 = .ok (.iastore, 1) := by decide +kernel
theorem d_mo_await_52 : decode c_mo_await 52 = .ok (.aload_n 0, 1) := by decide +kernel
theorem d_mo_await_53 : decode c_mo_await 53 = .ok (.getfield 108, 3) := by decide +kernel
theorem d_mo_await_56 : decode c_mo_await 56 = .ok (.aload_n 0, 1) := by decide +kernel
theorem d_mo_await_57 : decode c_mo_await 57 = .ok (.getfield 181, 3) := by decide +kernel
theorem d_mo_await_60 : decode c_mo_await 60 = .ok (.iload 6, 2) := by decide +kernel
theorem d_mo_await_62 : decode c_mo_await 62 = .ok (.iastore, 1) := by decide +kernel
theorem d_mo_await_63 : decode c_mo_await 63 = .ok (.aload_n 0, 1) := by decide +kernel
theorem d_mo_await_64 : decode c_mo_await 64 = .ok (.dup, 1) := by decide +kernel
theorem d_mo_await_65 : decode c_mo_await 65 = .ok (.getfield 181, 3) := by decide +kernel
theorem d_mo_await_68 : decode c_mo_await 68 = .ok (.iconst 1, 1) := by decide +kernel
theorem d_mo_await_69 : decode c_mo_await 69 = .ok (.iadd, 1) := by decide +kernel
theorem d_mo_await_70 : decode c_mo_await 70 = .ok (.putfield 181, 3) := by decide +kernel
theorem d_mo_await_73 : decode c_mo_await 73 = .ok (.return_, 1) := by decide +kernel
theorem d_mo_fails_0 : decode c_mo_fails 0 = .ok (.aload_n 0, 1) := by decide +kernel
theorem d_mo_fails_1 : decode c_mo_fails 1 = .ok (.getfield 224, 3) := by decide +kernel
theorem d_mo_fails_4 : decode c_mo_fails 4 = .ok (.ifCond .ne 13, 3) := by decide +kernel
theorem d_mo_fails_7 : decode c_mo_fails 7 = .ok (.aload_n 0, 1) := by decide +kernel
theorem d_mo_fails_8 : decode c_mo_fails 8 = .ok (.iload_n 1, 1) := by decide +kernel
theorem d_mo_fails_9 : decode c_mo_fails 9 = .ok (.putfield 224, 3) := by decide +kernel
theorem d_mo_fails_12 : decode c_mo_fails 12 = .ok (.aload_n 0, 1) := by decide +kernel
theorem d_mo_fails_13 : decode c_mo_fails 13 = .ok (.iload_n 2, 1) := by decide +kernel
theorem d_mo_fails_14 : decode c_mo_fails 14 = .ok (.putfield 227, 3) := by decide +kernel
theorem d_mo_fails_17 : decode c_mo_fails 17 = .ok (.return_, 1) := by decide +kernel
theorem d_mo_push_0 : decode c_mo_push 0 = .ok (.aload_n 0, 1) := by decide +kernel
theorem d_mo_push_1 : decode c_mo_push 1 = .ok (.getfield 80, 3) := by decide +kernel
theorem d_mo_push_4 : decode c_mo_push 4 = .ok (.aload_n 0, 1) := by decide +kernel
theorem d_mo_push_5 : decode c_mo_push 5 = .ok (.getfield 208, 3) := by decide +kernel
theorem d_mo_push_8 : decode c_mo_push 8 = .ok (.iload_n 1, 1) := by decide +kernel
theorem d_mo_push_9 : decode c_mo_push 9 = .ok (.iastore, 1) := by decide +kernel
theorem d_mo_push_10 : decode c_mo_push 10 = .ok (.aload_n 0, 1) := by decide +kernel
theorem d_mo_push_11 : decode c_mo_push 11 = .ok (.getfield 83, 3) := by decide +kernel
theorem d_mo_push_14 : decode c_mo_push 14 = .ok (.aload_n 0, 1) := by decide +kernel
theorem d_mo_push_15 : decode c_mo_push 15 = .ok (.getfield 208, 3) := by decide +kernel
theorem d_mo_push_18 : decode c_mo_push 18 = .ok (.iload_n 2, 1) := by decide +kernel
theorem d_mo_push_19 : decode c_mo_push 19 = .ok (.iastore, 1) := by decide +kernel
theorem d_mo_push_20 : decode c_mo_push 20 = .ok (.aload_n 0, 1) := by decide +kernel
theorem d_mo_push_21 : decode c_mo_push 21 = .ok (.getfield 86, 3) := by decide +kernel
theorem d_mo_push_24 : decode c_mo_push 24 = .ok (.aload_n 0, 1) := by decide +kernel
theorem d_mo_push_25 : decode c_mo_push 25 = .ok (.getfield 208, 3) := by decide +kernel
theorem d_mo_push_28 : decode c_mo_push 28 = .ok (.iload_n 3, 1) := by decide +kernel
theorem d_mo_push_29 : decode c_mo_push 29 = .ok (.iastore, 1) := by decide +kernel
theorem d_mo_push_30 : decode c_mo_push 30 = .ok (.aload_n 0, 1) := by decide +kernel
theorem d_mo_push_31 : decode c_mo_push 31 = .ok (.dup, 1) := by decide +kernel
theorem d_mo_push_32 : decode c_mo_push 32 = .ok (.getfield 208, 3) := by decide +kernel
theorem d_mo_push_35 : decode c_mo_push 35 = .ok (.iconst 1, 1) := by decide +kernel
theorem d_mo_push_36 : decode c_mo_push 36 = .ok (.iadd, 1) := by decide +kernel
theorem d_mo_push_37 : decode c_mo_push 37 = .ok (.putfield 208, 3) := by decide +kernel
theorem d_mo_push_40 : decode c_mo_push 40 = .ok (.aload_n 0, 1) := by decide +kernel
theorem d_mo_push_41 : decode c_mo_push 41 = .ok (.getfield 43, 3) := by decide +kernel
theorem d_mo_push_44 : decode c_mo_push 44 = .ok (.iload_n 1, 1) := by decide +kernel
theorem d_mo_push_45 : decode c_mo_push 45 = .ok (.iconst 1, 1) := by decide +kernel
theorem d_mo_push_46 : decode c_mo_push 46 = .ok (.iastore, 1) := by decide +kernel
theorem d_mo_push_47 : decode c_mo_push 47 = .ok (.return_, 1) := by decide +kernel
theorem d_mo_passed_0 : decode c_mo_passed 0 = .ok (.aload_n 0, 1) := by decide +kernel
theorem d_mo_passed_1 : decode c_mo_passed 1 = .ok (.iconst 0, 1) := by decide +kernel
theorem d_mo_passed_2 : decode c_mo_passed 2 = .ok (.putfield 141, 3) := by decide +kernel
theorem d_mo_passed_5 : decode c_mo_passed 5 = .ok (.aload_n 0, 1) := by decide +kernel
theorem d_mo_passed_6 : decode c_mo_passed 6 = .ok (.getfield 208, 3) := by decide +kernel
theorem d_mo_passed_9 : decode c_mo_passed 9 = .ok (.ifCond .ne 7, 3) := by decide +kernel
theorem d_mo_passed_12 : decode c_mo_passed 12 = .ok (.iconst (-1), 1) := by decide +kernel
theorem d_mo_passed_13 : decode c_mo_passed 13 = .ok (.goto 14, 3) := by decide +kernel
theorem d_mo_passed_16 : decode c_mo_passed 16 = .ok (.aload_n 0, 1) := by decide +kernel
theorem d_mo_passed_17 : decode c_mo_passed 17 = .ok (.getfield 86, 3) := by decide +kernel
theorem d_mo_passed_20 : decode c_mo_passed 20 = .ok (.aload_n 0, 1) := by decide +kernel
theorem d_mo_passed_21 : decode c_mo_passed 21 = .ok (.getfield 208, 3) := by decide +kernel
theorem d_mo_passed_24 : decode c_mo_passed 24 = .ok (.iconst 1, 1) := by decide +kernel
theorem d_mo_passed_25 : decode c_mo_passed 25 = .ok (.isub, 1) := by decide +kernel
theorem d_mo_passed_26 : decode c_mo_passed 26 = .ok (.iaload, 1) := by decide +kernel
theorem d_mo_passed_27 : decode c_mo_passed 27 = .ok (.ireturn, 1) := by decide +kernel
theorem d_mo_depth_0 : decode c_mo_depth 0 = .ok (.aload_n 0, 1) := by decide +kernel
theorem d_mo_depth_1 : decode c_mo_depth 1 = .ok (.iconst 0, 1) := by decide +kernel
theorem d_mo_depth_2 : decode c_mo_depth 2 = .ok (.putfield 141, 3) := by decide +kernel
theorem d_mo_depth_5 : decode c_mo_depth 5 = .ok (.aload_n 0, 1) := by decide +kernel
theorem d_mo_depth_6 : decode c_mo_depth 6 = .ok (.getfield 208, 3) := by decide +kernel
theorem d_mo_depth_9 : decode c_mo_depth 9 = .ok (.ireturn, 1) := by decide +kernel
theorem d_mo_level_0 : decode c_mo_level 0 = .ok (.aload_n 0, 1) := by decide +kernel
theorem d_mo_level_1 : decode c_mo_level 1 = .ok (.iconst 0, 1) := by decide +kernel
theorem d_mo_level_2 : decode c_mo_level 2 = .ok (.putfield 141, 3) := by decide +kernel
theorem d_mo_level_5 : decode c_mo_level 5 = .ok (.iload_n 1, 1) := by decide +kernel
theorem d_mo_level_6 : decode c_mo_level 6 = .ok (.ifCond .lt 20, 3) := by decide +kernel
theorem d_mo_level_9 : decode c_mo_level 9 = .ok (.iload_n 1, 1) := by decide +kernel
theorem d_mo_level_10 : decode c_mo_level 10 = .ok (.aload_n 0, 1) := by decide +kernel
theorem d_mo_level_11 : decode c_mo_level 11 = .ok (.getfield 208, 3) := by decide +kernel
theorem d_mo_level_14 : decode c_mo_level 14 = .ok (.if_icmp .ge 12, 3) := by decide +kernel
theorem d_mo_level_17 : decode c_mo_level 17 = .ok (.aload_n 0, 1) := by decide +kernel
theorem d_mo_level_18 : decode c_mo_level 18 = .ok (.getfield 80, 3) := by decide +kernel
theorem d_mo_level_21 : decode c_mo_level 21 = .ok (.iload_n 1, 1) := by decide +kernel
theorem d_mo_level_22 : decode c_mo_level 22 = .ok (.iaload, 1) := by decide +kernel
theorem d_mo_level_23 : decode c_mo_level 23 = .ok (.goto 4, 3) := by decide +kernel
theorem d_mo_level_26 : decode c_mo_level 26 = .ok (.iconst (-1), 1) := by decide +kernel
theorem d_mo_level_27 : decode c_mo_level 27 = .ok (.ireturn, 1) := by decide +kernel
theorem d_mo_byteAt_0 : decode c_mo_byteAt 0 = .ok (.aload_n 0, 1) := by decide +kernel
theorem d_mo_byteAt_1 : decode c_mo_byteAt 1 = .ok (.getfield 224, 3) := by decide +kernel
theorem d_mo_byteAt_4 : decode c_mo_byteAt 4 = .ok (.ifCond .le 5, 3) := by decide +kernel
theorem d_mo_byteAt_7 : decode c_mo_byteAt 7 = .ok (.iconst 0, 1) := by decide +kernel
theorem d_mo_byteAt_8 : decode c_mo_byteAt 8 = .ok (.ireturn, 1) := by decide +kernel
theorem d_mo_byteAt_9 : decode c_mo_byteAt 9 = .ok (.iload_n 2, 1) := by decide +kernel
theorem d_mo_byteAt_10 : decode c_mo_byteAt 10 = .ok (.ifCond .lt 10, 3) := by decide +kernel
theorem d_mo_byteAt_13 : decode c_mo_byteAt 13 = .ok (.iload_n 2, 1) := by decide +kernel
theorem d_mo_byteAt_14 : decode c_mo_byteAt 14 = .ok (.sipush 255, 3) := by decide +kernel
theorem d_mo_byteAt_17 : decode c_mo_byteAt 17 = .ok (.if_icmp .le 11, 3) := by decide +kernel
theorem d_mo_byteAt_20 : decode c_mo_byteAt 20 = .ok (.aload_n 0, 1) := by decide +kernel
theorem d_mo_byteAt_21 : decode c_mo_byteAt 21 = .ok (.iconst 1, 1) := by decide +kernel
theorem d_mo_byteAt_22 : decode c_mo_byteAt 22 = .ok (.iload_n 2, 1) := by decide +kernel
theorem d_mo_byteAt_23 : decode c_mo_byteAt 23 = .ok (.invokevirtual 230, 3) := by decide +kernel
theorem d_mo_byteAt_26 : decode c_mo_byteAt 26 = .ok (.iconst 0, 1) := by decide +kernel
theorem d_mo_byteAt_27 : decode c_mo_byteAt 27 = .ok (.ireturn, 1) := by decide +kernel
theorem d_mo_byteAt_28 : decode c_mo_byteAt 28 = .ok (.aload_n 0, 1) := by decide +kernel
theorem d_mo_byteAt_29 : decode c_mo_byteAt 29 = .ok (.getfield 37, 3) := by decide +kernel
theorem d_mo_byteAt_32 : decode c_mo_byteAt 32 = .ok (.sipush 256, 3) := by decide +kernel
theorem d_mo_byteAt_35 : decode c_mo_byteAt 35 = .ok (.iload_n 1, 1) := by decide +kernel
theorem d_mo_byteAt_36 : decode c_mo_byteAt 36 = .ok (.imul, 1) := by decide +kernel
theorem d_mo_byteAt_37 : decode c_mo_byteAt 37 = .ok (.iload_n 2, 1) := by decide +kernel
theorem d_mo_byteAt_38 : decode c_mo_byteAt 38 = .ok (.iadd, 1) := by decide +kernel
theorem d_mo_byteAt_39 : decode c_mo_byteAt 39 = .ok (.iaload, 1) := by decide +kernel
theorem d_mo_byteAt_40 : decode c_mo_byteAt 40 = .ok (.ireturn, 1) := by decide +kernel
