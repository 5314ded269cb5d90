theorem d_hc_isNumberOf_0 : decode c_hc_isNumberOf 0 = .ok (.iload_n 0, 1) := by decide +kernel
theorem d_hc_isNumberOf_1 : decode c_hc_isNumberOf 1 = .ok (.lookupswitch 58 #[(7, 35), (11, 53), (12, 53)], 35) := by decide +kernel
theorem d_hc_isNumberOf_36 : decode c_hc_isNumberOf 36 = .ok (.iload_n 1, 1) := by decide +kernel
theorem d_hc_isNumberOf_37 : decode c_hc_isNumberOf 37 = .ok (.iconst 1, 1) := by decide +kernel
theorem d_hc_isNumberOf_38 : decode c_hc_isNumberOf 38 = .ok (.if_icmp .lt 14, 3) := by decide +kernel
theorem d_hc_isNumberOf_41 : decode c_hc_isNumberOf 41 = .ok (.iload_n 1, 1) := by decide +kernel
theorem d_hc_isNumberOf_42 : decode c_hc_isNumberOf 42 = .ok (.sipush 200, 3) := by decide +kernel
theorem d_hc_isNumberOf_45 : decode c_hc_isNumberOf 45 = .ok (.if_icmp .gt 7, 3) := by decide +kernel
theorem d_hc_isNumberOf_48 : decode c_hc_isNumberOf 48 = .ok (.iconst 1, 1) := by decide +kernel
theorem d_hc_isNumberOf_49 : decode c_hc_isNumberOf 49 = .ok (.goto 4, 3) := by decide +kernel
theorem d_hc_isNumberOf_52 : decode c_hc_isNumberOf 52 = .ok (.iconst 0, 1) := by decide +kernel
theorem d_hc_isNumberOf_53 : decode c_hc_isNumberOf 53 = .ok (.ireturn, 1) := by decide +kernel
theorem d_hc_isNumberOf_54 : decode c_hc_isNumberOf 54 = .ok (.iload_n 1, 1) := by decide +kernel
theorem d_hc_isNumberOf_55 : decode c_hc_isNumberOf 55 = .ok (.invokestatic 198, 3) := by decide +kernel
theorem d_hc_isNumberOf_58 : decode c_hc_isNumberOf 58 = .ok (.ireturn, 1) := by decide +kernel
theorem d_hc_isNumberOf_59 : decode c_hc_isNumberOf 59 = .ok (.iconst 1, 1) := by decide +kernel
theorem d_hc_isNumberOf_60 : decode c_hc_isNumberOf 60 = .ok (.ireturn, 1) := by decide +kernel
theorem d_hc_hasPartsOf_0 : decode c_hc_hasPartsOf 0 = .ok (.iload_n 1, 1) := by decide +kernel
theorem d_hc_hasPartsOf_1 : decode c_hc_hasPartsOf 1 = .ok (.tableswitch 55 8 10 #[27, 41, 41], 27) := by decide +kernel
theorem d_hc_hasPartsOf_28 : decode c_hc_hasPartsOf 28 = .ok (.aload_n 0, 1) := by decide +kernel
theorem d_hc_hasPartsOf_29 : decode c_hc_hasPartsOf 29 = .ok (.getfield 22, 3) := by decide +kernel
theorem d_hc_hasPartsOf_32 : decode c_hc_hasPartsOf 32 = .ok (.iconst 1, 1) := by decide +kernel
theorem d_hc_hasPartsOf_33 : decode c_hc_hasPartsOf 33 = .ok (.if_icmp .ne 7, 3) := by decide +kernel
theorem d_hc_hasPartsOf_36 : decode c_hc_hasPartsOf 36 = .ok (.iconst 1, 1) := by decide +kernel
theorem d_hc_hasPartsOf_37 : decode c_hc_hasPartsOf 37 = .ok (.goto 4, 3) := by decide +kernel
theorem d_hc_hasPartsOf_40 : decode c_hc_hasPartsOf 40 = .ok (.iconst 0, 1) := by decide +kernel
theorem d_hc_hasPartsOf_41 : decode c_hc_hasPartsOf 41 = .ok (.ireturn, 1) := by decide +kernel
theorem d_hc_hasPartsOf_42 : decode c_hc_hasPartsOf 42 = .ok (.aload_n 0, 1) := by decide +kernel
theorem d_hc_hasPartsOf_43 : decode c_hc_hasPartsOf 43 = .ok (.getfield 22, 3) := by decide +kernel
theorem d_hc_hasPartsOf_46 : decode c_hc_hasPartsOf 46 = .ok (.iconst 1, 1) := by decide +kernel
theorem d_hc_hasPartsOf_47 : decode c_hc_hasPartsOf 47 = .ok (.if_icmp .lt 7, 3) := by decide +kernel
theorem d_hc_hasPartsOf_50 : decode c_hc_hasPartsOf 50 = .ok (.iconst 1, 1) := by decide +kernel
theorem d_hc_hasPartsOf_51 : decode c_hc_hasPartsOf 51 = .ok (.goto 4, 3) := by decide +kernel
theorem d_hc_hasPartsOf_54 : decode c_hc_hasPartsOf 54 = .ok (.iconst 0, 1) := by decide +kernel
theorem d_hc_hasPartsOf_55 : decode c_hc_hasPartsOf 55 = .ok (.ireturn, 1) := by decide +kernel
theorem d_hc_hasPartsOf_56 : decode c_hc_hasPartsOf 56 = .ok (.aload_n 0, 1) := by decide +kernel
theorem d_hc_hasPartsOf_57 : decode c_hc_hasPartsOf 57 = .ok (.getfield 22, 3) := by decide +kernel
theorem d_hc_hasPartsOf_60 : decode c_hc_hasPartsOf 60 = .ok (.ifCond .ne 7, 3) := by decide +kernel
theorem d_hc_hasPartsOf_63 : decode c_hc_hasPartsOf 63 = .ok (.iconst 1, 1) := by decide +kernel
theorem d_hc_hasPartsOf_64 : decode c_hc_hasPartsOf 64 = .ok (.goto 4, 3) := by decide +kernel
theorem d_hc_hasPartsOf_67 : decode c_hc_hasPartsOf 67 = .ok (.iconst 0, 1) := by decide +kernel
theorem d_hc_hasPartsOf_68 : decode c_hc_hasPartsOf 68 = .ok (.ireturn, 1) := by decide +kernel
theorem d_hc_layout_0 : decode c_hc_layout 0 = .ok (.aload_n 0, 1) := by decide +kernel
theorem d_hc_layout_1 : decode c_hc_layout 1 = .ok (.iload_n 1, 1) := by decide +kernel
theorem d_hc_layout_2 : decode c_hc_layout 2 = .ok (.invokevirtual 82, 3) := by decide +kernel
theorem d_hc_layout_5 : decode c_hc_layout 5 = .ok (.ifCond .ne 13, 3) := by decide +kernel
theorem d_hc_layout_8 : decode c_hc_layout 8 = .ok (.new 86, 3) := by decide +kernel
theorem d_hc_layout_11 : decode c_hc_layout 11 = .ok (.dup, 1) := by decide +kernel
theorem d_hc_layout_12 : decode c_hc_layout 12 = .ok (.ldc 88, 2) := by decide +kernel
theorem d_hc_layout_14 : decode c_hc_layout 14 = .ok (.invokespecial 90, 3) := by decide +kernel
theorem d_hc_layout_17 : decode c_hc_layout 17 = .ok (.athrow, 1) := by decide +kernel
theorem d_hc_layout_18 : decode c_hc_layout 18 = .ok (.aload_n 0, 1) := by decide +kernel
theorem d_hc_layout_19 : decode c_hc_layout 19 = .ok (.getfield 11, 3) := by decide +kernel
theorem d_hc_layout_22 : decode c_hc_layout 22 = .ok (.iload_n 1, 1) := by decide +kernel
theorem d_hc_layout_23 : decode c_hc_layout 23 = .ok (.aaload, 1) := by decide +kernel
theorem d_hc_layout_24 : decode c_hc_layout 24 = .ok (.astore_n 3, 1) := by decide +kernel
theorem d_hc_layout_25 : decode c_hc_layout 25 = .ok (.iload_n 2, 1) := by decide +kernel
theorem d_hc_layout_26 : decode c_hc_layout 26 = .ok (.ifCond .lt 13, 3) := by decide +kernel
theorem d_hc_layout_29 : decode c_hc_layout 29 = .ok (.iload_n 2, 1) := by decide +kernel
theorem d_hc_layout_30 : decode c_hc_layout 30 = .ok (.iconst 5, 1) := by decide +kernel
theorem d_hc_layout_31 : decode c_hc_layout 31 = .ok (.aload_n 3, 1) := by decide +kernel
theorem d_hc_layout_32 : decode c_hc_layout 32 = .ok (.getfield 123, 3) := by decide +kernel
theorem d_hc_layout_35 : decode c_hc_layout 35 = .ok (.iadd, 1) := by decide +kernel
theorem d_hc_layout_36 : decode c_hc_layout 36 = .ok (.if_icmp .lt 13, 3) := by decide +kernel
theorem d_hc_layout_39 : decode c_hc_layout 39 = .ok (.new 126, 3) := by decide +kernel
theorem d_hc_layout_42 : decode c_hc_layout 42 = .ok (.dup, 1) := by decide +kernel
theorem d_hc_layout_43 : decode c_hc_layout 43 = .ok (.ldc 128, 2) := by decide +kernel
theorem d_hc_layout_45 : decode c_hc_layout 45 = .ok (.invokespecial 130, 3) := by decide +kernel
theorem d_hc_layout_48 : decode c_hc_layout 48 = .ok (.athrow, 1) := by decide +kernel
theorem d_hc_layout_49 : decode c_hc_layout 49 = .ok (.iload_n 2, 1) := by decide +kernel
theorem d_hc_layout_50 : decode c_hc_layout 50 = .ok (.tableswitch 59 0 4 #[34, 39, 44, 49, 54], 34) := by decide +kernel
theorem d_hc_layout_84 : decode c_hc_layout 84 = .ok (.aload_n 3, 1) := by decide +kernel
theorem d_hc_layout_85 : decode c_hc_layout 85 = .ok (.getfield 131, 3) := by decide +kernel
theorem d_hc_layout_88 : decode c_hc_layout 88 = .ok (.ireturn, 1) := by decide +kernel
theorem d_hc_layout_89 : decode c_hc_layout 89 = .ok (.aload_n 3, 1) := by decide +kernel
theorem d_hc_layout_90 : decode c_hc_layout 90 = .ok (.getfield 116, 3) := by decide +kernel
theorem d_hc_layout_93 : decode c_hc_layout 93 = .ok (.ireturn, 1) := by decide +kernel
theorem d_hc_layout_94 : decode c_hc_layout 94 = .ok (.aload_n 3, 1) := by decide +kernel
theorem d_hc_layout_95 : decode c_hc_layout 95 = .ok (.getfield 134, 3) := by decide +kernel
theorem d_hc_layout_98 : decode c_hc_layout 98 = .ok (.ireturn, 1) := by decide +kernel
theorem d_hc_layout_99 : decode c_hc_layout 99 = .ok (.aload_n 3, 1) := by decide +kernel
theorem d_hc_layout_100 : decode c_hc_layout 100 = .ok (.getfield 113, 3) := by decide +kernel
theorem d_hc_layout_103 : decode c_hc_layout 103 = .ok (.ireturn, 1) := by decide +kernel
theorem d_hc_layout_104 : decode c_hc_layout 104 = .ok (.aload_n 3, 1) := by decide +kernel
theorem d_hc_layout_105 : decode c_hc_layout 105 = .ok (.getfield 123, 3) := by decide +kernel
theorem d_hc_layout_108 : decode c_hc_layout 108 = .ok (.ireturn, 1) := by decide +kernel
theorem d_hc_layout_109 : decode c_hc_layout 109 = .ok (.aload_n 3, 1) := by decide +kernel
theorem d_hc_layout_110 : decode c_hc_layout 110 = .ok (.getfield 137, 3) := by decide +kernel
theorem d_hc_layout_113 : decode c_hc_layout 113 = .ok (.iload_n 2, 1) := by decide +kernel
theorem d_hc_layout_114 : decode c_hc_layout 114 = .ok (.iconst 5, 1) := by decide +kernel
theorem d_hc_layout_115 : decode c_hc_layout 115 = .ok (.isub, 1) := by decide +kernel
theorem d_hc_layout_116 : decode c_hc_layout 116 = .ok (.iaload, 1) := by decide +kernel
theorem d_hc_layout_117 : decode c_hc_layout 117 = .ok (.ireturn, 1) := by decide +kernel
theorem d_hc_handle_0 : decode c_hc_handle 0 = .ok (.aload_n 0, 1) := by decide +kernel
theorem d_hc_handle_1 : decode c_hc_handle 1 = .ok (.iload_n 1, 1) := by decide +kernel
theorem d_hc_handle_2 : decode c_hc_handle 2 = .ok (.invokevirtual 147, 3) := by decide +kernel
theorem d_hc_handle_5 : decode c_hc_handle 5 = .ok (.ifCond .eq 23, 3) := by decide +kernel
theorem d_hc_handle_8 : decode c_hc_handle 8 = .ok (.iload_n 2, 1) := by decide +kernel
theorem d_hc_handle_9 : decode c_hc_handle 9 = .ok (.iconst 1, 1) := by decide +kernel
theorem d_hc_handle_10 : decode c_hc_handle 10 = .ok (.if_icmp .lt 18, 3) := by decide +kernel
theorem d_hc_handle_13 : decode c_hc_handle 13 = .ok (.iload_n 2, 1) := by decide +kernel
theorem d_hc_handle_14 : decode c_hc_handle 14 = .ok (.bipush 16, 2) := by decide +kernel
theorem d_hc_handle_16 : decode c_hc_handle 16 = .ok (.if_icmp .gt 12, 3) := by decide +kernel
theorem d_hc_handle_19 : decode c_hc_handle 19 = .ok (.iload_n 3, 1) := by decide +kernel
theorem d_hc_handle_20 : decode c_hc_handle 20 = .ok (.ifCond .lt 8, 3) := by decide +kernel
theorem d_hc_handle_23 : decode c_hc_handle 23 = .ok (.iload_n 3, 1) := by decide +kernel
theorem d_hc_handle_24 : decode c_hc_handle 24 = .ok (.iconst 3, 1) := by decide +kernel
theorem d_hc_handle_25 : decode c_hc_handle 25 = .ok (.if_icmp .le 13, 3) := by decide +kernel
theorem d_hc_handle_28 : decode c_hc_handle 28 = .ok (.new 86, 3) := by decide +kernel
theorem d_hc_handle_31 : decode c_hc_handle 31 = .ok (.dup, 1) := by decide +kernel
theorem d_hc_handle_32 : decode c_hc_handle 32 = .ok (.ldc 252, 2) := by decide +kernel
theorem d_hc_handle_34 : decode c_hc_handle 34 = .ok (.invokespecial 90, 3) := by decide +kernel
theorem d_hc_handle_37 : decode c_hc_handle 37 = .ok (.athrow, 1) := by decide +kernel
theorem d_hc_handle_38 : decode c_hc_handle 38 = .ok (.aload_n 0, 1) := by decide +kernel
theorem d_hc_handle_39 : decode c_hc_handle 39 = .ok (.getfield 27, 3) := by decide +kernel
theorem d_hc_handle_42 : decode c_hc_handle 42 = .ok (.iload_n 1, 1) := by decide +kernel
theorem d_hc_handle_43 : decode c_hc_handle 43 = .ok (.aaload, 1) := by decide +kernel
theorem d_hc_handle_44 : decode c_hc_handle 44 = .ok (.iload_n 2, 1) := by decide +kernel
theorem d_hc_handle_45 : decode c_hc_handle 45 = .ok (.invokevirtual 228, 3) := by decide +kernel
theorem d_hc_handle_48 : decode c_hc_handle 48 = .ok (.astore 4, 2) := by decide +kernel
theorem d_hc_handle_50 : decode c_hc_handle 50 = .ok (.aload 4, 2) := by decide +kernel
theorem d_hc_handle_52 : decode c_hc_handle 52 = .ok (.ifnonnull 5, 3) := by decide +kernel
theorem d_hc_handle_55 : decode c_hc_handle 55 = .ok (.iconst (-1), 1) := by decide +kernel
theorem d_hc_handle_56 : decode c_hc_handle 56 = .ok (.ireturn, 1) := by decide +kernel
theorem d_hc_handle_57 : decode c_hc_handle 57 = .ok (.iload_n 3, 1) := by decide +kernel
theorem d_hc_handle_58 : decode c_hc_handle 58 = .ok (.tableswitch 55 0 2 #[26, 32, 38], 26) := by decide +kernel
theorem d_hc_handle_84 : decode c_hc_handle 84 = .ok (.aload 4, 2) := by decide +kernel
theorem d_hc_handle_86 : decode c_hc_handle 86 = .ok (.getfield 254, 3) := by decide +kernel
theorem d_hc_handle_89 : decode c_hc_handle 89 = .ok (.ireturn, 1) := by decide +kernel
theorem d_hc_handle_90 : decode c_hc_handle 90 = .ok (.aload 4, 2) := by decide +kernel
theorem d_hc_handle_92 : decode c_hc_handle 92 = .ok (.getfield 257, 3) := by decide +kernel
theorem d_hc_handle_95 : decode c_hc_handle 95 = .ok (.ireturn, 1) := by decide +kernel
theorem d_hc_handle_96 : decode c_hc_handle 96 = .ok (.aload 4, 2) := by decide +kernel
theorem d_hc_handle_98 : decode c_hc_handle 98 = .ok (.getfield 242, 3) := by decide +kernel
theorem d_hc_handle_101 : decode c_hc_handle 101 = .ok (.getstatic 216, 3) := by decide +kernel
theorem d_hc_handle_104 : decode c_hc_handle 104 = .ok (.if_acmp .ne 7, 3) := by decide +kernel
theorem d_hc_handle_107 : decode c_hc_handle 107 = .ok (.iconst 1, 1) := by decide +kernel
theorem d_hc_handle_108 : decode c_hc_handle 108 = .ok (.goto 4, 3) := by decide +kernel
theorem d_hc_handle_111 : decode c_hc_handle 111 = .ok (.iconst 0, 1) := by decide +kernel
theorem d_hc_handle_112 : decode c_hc_handle 112 = .ok (.ireturn, 1) := by decide +kernel
theorem d_hc_handle_113 : decode c_hc_handle 113 = .ok (.aload 4, 2) := by decide +kernel
theorem d_hc_handle_115 : decode c_hc_handle 115 = .ok (.getfield 237, 3) := by decide +kernel
theorem d_hc_handle_118 : decode c_hc_handle 118 = .ok (.ireturn, 1) := by decide +kernel
theorem d_hc_state_0 : decode c_hc_state 0 = .ok (.aload_n 0, 1) := by decide +kernel
theorem d_hc_state_1 : decode c_hc_state 1 = .ok (.iload_n 1, 1) := by decide +kernel
theorem d_hc_state_2 : decode c_hc_state 2 = .ok (.invokevirtual 147, 3) := by decide +kernel
theorem d_hc_state_5 : decode c_hc_state 5 = .ok (.ifCond .eq 12, 3) := by decide +kernel
theorem d_hc_state_8 : decode c_hc_state 8 = .ok (.iload_n 2, 1) := by decide +kernel
theorem d_hc_state_9 : decode c_hc_state 9 = .ok (.ifCond .lt 8, 3) := by decide +kernel
theorem d_hc_state_12 : decode c_hc_state 12 = .ok (.iload_n 2, 1) := by decide +kernel
theorem d_hc_state_13 : decode c_hc_state 13 = .ok (.iconst 2, 1) := by decide +kernel
theorem d_hc_state_14 : decode c_hc_state 14 = .ok (.if_icmp .le 14, 3) := by decide +kernel
theorem d_hc_state_17 : decode c_hc_state 17 = .ok (.new 86, 3) := by decide +kernel
theorem d_hc_state_20 : decode c_hc_state 20 = .ok (.dup, 1) := by decide +kernel
theorem d_hc_state_21 : decode c_hc_state 21 = .ok (.ldc_w 295, 3) := by decide +kernel
theorem d_hc_state_24 : decode c_hc_state 24 = .ok (.invokespecial 90, 3) := by decide +kernel
theorem d_hc_state_27 : decode c_hc_state 27 = .ok (.athrow, 1) := by decide +kernel
theorem d_hc_state_28 : decode c_hc_state 28 = .ok (.iload_n 2, 1) := by decide +kernel
theorem d_hc_state_29 : decode c_hc_state 29 = .ok (.lookupswitch 47 #[(0, 27), (1, 37)], 27) := by decide +kernel
theorem d_hc_state_56 : decode c_hc_state 56 = .ok (.aload_n 0, 1) := by decide +kernel
theorem d_hc_state_57 : decode c_hc_state 57 = .ok (.getfield 27, 3) := by decide +kernel
theorem d_hc_state_60 : decode c_hc_state 60 = .ok (.iload_n 1, 1) := by decide +kernel
theorem d_hc_state_61 : decode c_hc_state 61 = .ok (.aaload, 1) := by decide +kernel
theorem d_hc_state_62 : decode c_hc_state 62 = .ok (.getfield 182, 3) := by decide +kernel
theorem d_hc_state_65 : decode c_hc_state 65 = .ok (.ireturn, 1) := by decide +kernel
theorem d_hc_state_66 : decode c_hc_state 66 = .ok (.aload_n 0, 1) := by decide +kernel
theorem d_hc_state_67 : decode c_hc_state 67 = .ok (.getfield 27, 3) := by decide +kernel
theorem d_hc_state_70 : decode c_hc_state 70 = .ok (.iload_n 1, 1) := by decide +kernel
theorem d_hc_state_71 : decode c_hc_state 71 = .ok (.aaload, 1) := by decide +kernel
theorem d_hc_state_72 : decode c_hc_state 72 = .ok (.getfield 297, 3) := by decide +kernel
theorem d_hc_state_75 : decode c_hc_state 75 = .ok (.ireturn, 1) := by decide +kernel
theorem d_hc_state_76 : decode c_hc_state 76 = .ok (.aload_n 0, 1) := by decide +kernel
theorem d_hc_state_77 : decode c_hc_state 77 = .ok (.getfield 27, 3) := by decide +kernel
theorem d_hc_state_80 : decode c_hc_state 80 = .ok (.iload_n 1, 1) := by decide +kernel
theorem d_hc_state_81 : decode c_hc_state 81 = .ok (.aaload, 1) := by decide +kernel
theorem d_hc_state_82 : decode c_hc_state 82 = .ok (.invokevirtual 300, 3) := by decide +kernel
theorem d_hc_state_85 : decode c_hc_state 85 = .ok (.ireturn, 1) := by decide +kernel
theorem d_hc_latest_0 : decode c_hc_latest 0 = .ok (.iload_n 1, 1) := by decide +kernel
theorem d_hc_latest_1 : decode c_hc_latest 1 = .ok (.tableswitch 48 0 2 #[27, 35, 43], 27) := by decide +kernel
theorem d_hc_latest_28 : decode c_hc_latest 28 = .ok (.aload_n 0, 1) := by decide +kernel
theorem d_hc_latest_29 : decode c_hc_latest 29 = .ok (.getfield 75, 3) := by decide +kernel
theorem d_hc_latest_32 : decode c_hc_latest 32 = .ok (.getfield 282, 3) := by decide +kernel
theorem d_hc_latest_35 : decode c_hc_latest 35 = .ok (.ireturn, 1) := by decide +kernel
theorem d_hc_latest_36 : decode c_hc_latest 36 = .ok (.aload_n 0, 1) := by decide +kernel
theorem d_hc_latest_37 : decode c_hc_latest 37 = .ok (.getfield 75, 3) := by decide +kernel
theorem d_hc_latest_40 : decode c_hc_latest 40 = .ok (.getfield 305, 3) := by decide +kernel
theorem d_hc_latest_43 : decode c_hc_latest 43 = .ok (.ireturn, 1) := by decide +kernel
theorem d_hc_latest_44 : decode c_hc_latest 44 = .ok (.aload_n 0, 1) := by decide +kernel
theorem d_hc_latest_45 : decode c_hc_latest 45 = .ok (.getfield 79, 3) := by decide +kernel
theorem d_hc_latest_48 : decode c_hc_latest 48 = .ok (.ireturn, 1) := by decide +kernel
theorem d_hc_latest_49 : decode c_hc_latest 49 = .ok (.new 86, 3) := by decide +kernel
theorem d_hc_latest_52 : decode c_hc_latest 52 = .ok (.dup, 1) := by decide +kernel
theorem d_hc_latest_53 : decode c_hc_latest 53 = .ok (.ldc 128, 2) := by decide +kernel
theorem d_hc_latest_55 : decode c_hc_latest 55 = .ok (.invokespecial 90, 3) := by decide +kernel
theorem d_hc_latest_58 : decode c_hc_latest 58 = .ok (.athrow, 1) := by decide +kernel
theorem d_ty_fitsWithoutParts_0 : decode c_ty_fitsWithoutParts 0 = .ok (.aload_n 0, 1) := by decide +kernel
theorem d_ty_fitsWithoutParts_1 : decode c_ty_fitsWithoutParts 1 = .ok (.getfield 9, 3) := by decide +kernel
theorem d_ty_fitsWithoutParts_4 : decode c_ty_fitsWithoutParts 4 = .ok (.aload_n 1, 1) := by decide +kernel
theorem d_ty_fitsWithoutParts_5 : decode c_ty_fitsWithoutParts 5 = .ok (.getfield 9, 3) := by decide +kernel
theorem d_ty_fitsWithoutParts_8 : decode c_ty_fitsWithoutParts 8 = .ok (.if_icmp .eq 5, 3) := by decide +kernel
theorem d_ty_fitsWithoutParts_11 : decode c_ty_fitsWithoutParts 11 = .ok (.iconst 0, 1) := by decide +kernel
theorem d_ty_fitsWithoutParts_12 : decode c_ty_fitsWithoutParts 12 = .ok (.ireturn, 1) := by decide +kernel
theorem d_ty_fitsWithoutParts_13 : decode c_ty_fitsWithoutParts 13 = .ok (.aload_n 0, 1) := by decide +kernel
theorem d_ty_fitsWithoutParts_14 : decode c_ty_fitsWithoutParts 14 = .ok (.getfield 9, 3) := by decide +kernel
theorem d_ty_fitsWithoutParts_17 : decode c_ty_fitsWithoutParts 17 = .ok (.tableswitch 107 7 12 #[39, 107, 73, 90, 56, 56], 39) := by decide +kernel
theorem d_ty_fitsWithoutParts_56 : decode c_ty_fitsWithoutParts 56 = .ok (.aload_n 0, 1) := by decide +kernel
theorem d_ty_fitsWithoutParts_57 : decode c_ty_fitsWithoutParts 57 = .ok (.getfield 15, 3) := by decide +kernel
theorem d_ty_fitsWithoutParts_60 : decode c_ty_fitsWithoutParts 60 = .ok (.aload_n 1, 1) := by decide +kernel
theorem d_ty_fitsWithoutParts_61 : decode c_ty_fitsWithoutParts 61 = .ok (.getfield 15, 3) := by decide +kernel
theorem d_ty_fitsWithoutParts_64 : decode c_ty_fitsWithoutParts 64 = .ok (.if_icmp .gt 7, 3) := by decide +kernel
theorem d_ty_fitsWithoutParts_67 : decode c_ty_fitsWithoutParts 67 = .ok (.iconst 1, 1) := by decide +kernel
theorem d_ty_fitsWithoutParts_68 : decode c_ty_fitsWithoutParts 68 = .ok (.goto 4, 3) := by decide +kernel
theorem d_ty_fitsWithoutParts_71 : decode c_ty_fitsWithoutParts 71 = .ok (.iconst 0, 1) := by decide +kernel
theorem d_ty_fitsWithoutParts_72 : decode c_ty_fitsWithoutParts 72 = .ok (.ireturn, 1) := by decide +kernel
theorem d_ty_fitsWithoutParts_73 : decode c_ty_fitsWithoutParts 73 = .ok (.aload_n 0, 1) := by decide +kernel
theorem d_ty_fitsWithoutParts_74 : decode c_ty_fitsWithoutParts 74 = .ok (.getfield 15, 3) := by decide +kernel
theorem d_ty_fitsWithoutParts_77 : decode c_ty_fitsWithoutParts 77 = .ok (.aload_n 1, 1) := by decide +kernel
theorem d_ty_fitsWithoutParts_78 : decode c_ty_fitsWithoutParts 78 = .ok (.getfield 15, 3) := by decide +kernel
theorem d_ty_fitsWithoutParts_81 : decode c_ty_fitsWithoutParts 81 = .ok (.if_icmp .ne 7, 3) := by decide +kernel
theorem d_ty_fitsWithoutParts_84 : decode c_ty_fitsWithoutParts 84 = .ok (.iconst 1, 1) := by decide +kernel
theorem d_ty_fitsWithoutParts_85 : decode c_ty_fitsWithoutParts 85 = .ok (.goto 4, 3) := by decide +kernel
theorem d_ty_fitsWithoutParts_88 : decode c_ty_fitsWithoutParts 88 = .ok (.iconst 0, 1) := by decide +kernel
theorem d_ty_fitsWithoutParts_89 : decode c_ty_fitsWithoutParts 89 = .ok (.ireturn, 1) := by decide +kernel
theorem d_ty_fitsWithoutParts_90 : decode c_ty_fitsWithoutParts 90 = .ok (.aload_n 0, 1) := by decide +kernel
theorem d_ty_fitsWithoutParts_91 : decode c_ty_fitsWithoutParts 91 = .ok (.getfield 18, 3) := by decide +kernel
theorem d_ty_fitsWithoutParts_94 : decode c_ty_fitsWithoutParts 94 = .ok (.aload_n 1, 1) := by decide +kernel
theorem d_ty_fitsWithoutParts_95 : decode c_ty_fitsWithoutParts 95 = .ok (.getfield 18, 3) := by decide +kernel
theorem d_ty_fitsWithoutParts_98 : decode c_ty_fitsWithoutParts 98 = .ok (.if_icmp .lt 7, 3) := by decide +kernel
theorem d_ty_fitsWithoutParts_101 : decode c_ty_fitsWithoutParts 101 = .ok (.iconst 1, 1) := by decide +kernel
theorem d_ty_fitsWithoutParts_102 : decode c_ty_fitsWithoutParts 102 = .ok (.goto 4, 3) := by decide +kernel
theorem d_ty_fitsWithoutParts_105 : decode c_ty_fitsWithoutParts 105 = .ok (.iconst 0, 1) := by decide +kernel
theorem d_ty_fitsWithoutParts_106 : decode c_ty_fitsWithoutParts 106 = .ok (.ireturn, 1) := by decide +kernel
theorem d_ty_fitsWithoutParts_107 : decode c_ty_fitsWithoutParts 107 = .ok (.aload_n 0, 1) := by decide +kernel
theorem d_ty_fitsWithoutParts_108 : decode c_ty_fitsWithoutParts 108 = .ok (.getfield 18, 3) := by decide +kernel
theorem d_ty_fitsWithoutParts_111 : decode c_ty_fitsWithoutParts 111 = .ok (.aload_n 1, 1) := by decide +kernel
theorem d_ty_fitsWithoutParts_112 : decode c_ty_fitsWithoutParts 112 = .ok (.getfield 18, 3) := by decide +kernel
theorem d_ty_fitsWithoutParts_115 : decode c_ty_fitsWithoutParts 115 = .ok (.if_icmp .gt 7, 3) := by decide +kernel
theorem d_ty_fitsWithoutParts_118 : decode c_ty_fitsWithoutParts 118 = .ok (.iconst 1, 1) := by decide +kernel
theorem d_ty_fitsWithoutParts_119 : decode c_ty_fitsWithoutParts 119 = .ok (.goto 4, 3) := by decide +kernel
theorem d_ty_fitsWithoutParts_122 : decode c_ty_fitsWithoutParts 122 = .ok (.iconst 0, 1) := by decide +kernel
theorem d_ty_fitsWithoutParts_123 : decode c_ty_fitsWithoutParts 123 = .ok (.ireturn, 1) := by decide +kernel
theorem d_ty_fitsWithoutParts_124 : decode c_ty_fitsWithoutParts 124 = .ok (.iconst 1, 1) := by decide +kernel
theorem d_ty_fitsWithoutParts_125 : decode c_ty_fitsWithoutParts 125 = .ok (.ireturn, 1) := by decide +kernel
theorem d_ty_offsetBehind_0 : decode c_ty_offsetBehind 0 = .ok (.iload_n 1, 1) := by decide +kernel
theorem d_ty_offsetBehind_1 : decode c_ty_offsetBehind 1 = .ok (.lookupswitch 35 #[(9, 27), (10, 33)], 27) := by decide +kernel
theorem d_ty_offsetBehind_28 : decode c_ty_offsetBehind 28 = .ok (.iload_n 0, 1) := by decide +kernel
theorem d_ty_offsetBehind_29 : decode c_ty_offsetBehind 29 = .ok (.iload_n 3, 1) := by decide +kernel
theorem d_ty_offsetBehind_30 : decode c_ty_offsetBehind 30 = .ok (.invokestatic 55, 3) := by decide +kernel
theorem d_ty_offsetBehind_33 : decode c_ty_offsetBehind 33 = .ok (.ireturn, 1) := by decide +kernel
theorem d_ty_offsetBehind_34 : decode c_ty_offsetBehind 34 = .ok (.iload_n 2, 1) := by decide +kernel
theorem d_ty_offsetBehind_35 : decode c_ty_offsetBehind 35 = .ok (.ireturn, 1) := by decide +kernel
theorem d_ty_offsetBehind_36 : decode c_ty_offsetBehind 36 = .ok (.iconst 0, 1) := by decide +kernel
theorem d_ty_offsetBehind_37 : decode c_ty_offsetBehind 37 = .ok (.ireturn, 1) := by decide +kernel
theorem d_re_readsItem_0 : decode c_re_readsItem 0 = .ok (.aload_n 0, 1) := by decide +kernel
theorem d_re_readsItem_1 : decode c_re_readsItem 1 = .ok (.getfield 19, 3) := by decide +kernel
theorem d_re_readsItem_4 : decode c_re_readsItem 4 = .ok (.getfield 27, 3) := by decide +kernel
theorem d_re_readsItem_7 : decode c_re_readsItem 7 = .ok (.sipush 200, 3) := by decide +kernel
theorem d_re_readsItem_10 : decode c_re_readsItem 10 = .ok (.if_icmp .lt 14, 3) := by decide +kernel
theorem d_re_readsItem_13 : decode c_re_readsItem 13 = .ok (.aload_n 0, 1) := by decide +kernel
theorem d_re_readsItem_14 : decode c_re_readsItem 14 = .ok (.getfield 23, 3) := by decide +kernel
theorem d_re_readsItem_17 : decode c_re_readsItem 17 = .ok (.bipush 10, 2) := by decide +kernel
theorem d_re_readsItem_19 : decode c_re_readsItem 19 = .ok (.iload_n 3, 1) := by decide +kernel
theorem d_re_readsItem_20 : decode c_re_readsItem 20 = .ok (.invokevirtual 33, 3) := by decide +kernel
theorem d_re_readsItem_23 : decode c_re_readsItem 23 = .ok (.ireturn, 1) := by decide +kernel
theorem d_re_readsItem_24 : decode c_re_readsItem 24 = .ok (.iload_n 3, 1) := by decide +kernel
theorem d_re_readsItem_25 : decode c_re_readsItem 25 = .ok (.aload_n 1, 1) := by decide +kernel
theorem d_re_readsItem_26 : decode c_re_readsItem 26 = .ok (.getfield 39, 3) := by decide +kernel
theorem d_re_readsItem_29 : decode c_re_readsItem 29 = .ok (.iconst 1, 1) := by decide +kernel
theorem d_re_readsItem_30 : decode c_re_readsItem 30 = .ok (.isub, 1) := by decide +kernel
theorem d_re_readsItem_31 : decode c_re_readsItem 31 = .ok (.iand, 1) := by decide +kernel
theorem d_re_readsItem_32 : decode c_re_readsItem 32 = .ok (.ifCond .eq 13, 3) := by decide +kernel
theorem d_re_readsItem_35 : decode c_re_readsItem 35 = .ok (.aload_n 0, 1) := by decide +kernel
theorem d_re_readsItem_36 : decode c_re_readsItem 36 = .ok (.getfield 23, 3) := by decide +kernel
theorem d_re_readsItem_39 : decode c_re_readsItem 39 = .ok (.iconst 5, 1) := by decide +kernel
theorem d_re_readsItem_40 : decode c_re_readsItem 40 = .ok (.iload_n 3, 1) := by decide +kernel
theorem d_re_readsItem_41 : decode c_re_readsItem 41 = .ok (.invokevirtual 33, 3) := by decide +kernel
theorem d_re_readsItem_44 : decode c_re_readsItem 44 = .ok (.ireturn, 1) := by decide +kernel
theorem d_re_readsItem_45 : decode c_re_readsItem 45 = .ok (.aload_n 0, 1) := by decide +kernel
theorem d_re_readsItem_46 : decode c_re_readsItem 46 = .ok (.getfield 19, 3) := by decide +kernel
theorem d_re_readsItem_49 : decode c_re_readsItem 49 = .ok (.getfield 27, 3) := by decide +kernel
theorem d_re_readsItem_52 : decode c_re_readsItem 52 = .ok (.istore 4, 2) := by decide +kernel
theorem d_re_readsItem_54 : decode c_re_readsItem 54 = .ok (.aload_n 0, 1) := by decide +kernel
theorem d_re_readsItem_55 : decode c_re_readsItem 55 = .ok (.getfield 19, 3) := by decide +kernel
theorem d_re_readsItem_58 : decode c_re_readsItem 58 = .ok (.dup, 1) := by decide +kernel
theorem d_re_readsItem_59 : decode c_re_readsItem 59 = .ok (.getfield 27, 3) := by decide +kernel
theorem d_re_readsItem_62 : decode c_re_readsItem 62 = .ok (.iconst 1, 1) := by decide +kernel
theorem d_re_readsItem_63 : decode c_re_readsItem 63 = .ok (.iadd, 1) := by decide +kernel
theorem d_re_readsItem_64 : decode c_re_readsItem 64 = .ok (.putfield 27, 3) := by decide +kernel
theorem d_re_readsItem_67 : decode c_re_readsItem 67 = .ok (.aload_n 0, 1) := by decide +kernel
theorem d_re_readsItem_68 : decode c_re_readsItem 68 = .ok (.getfield 19, 3) := by decide +kernel
theorem d_re_readsItem_71 : decode c_re_readsItem 71 = .ok (.getfield 44, 3) := by decide +kernel
theorem d_re_readsItem_74 : decode c_re_readsItem 74 = .ok (.iload 4, 2) := by decide +kernel
theorem d_re_readsItem_76 : decode c_re_readsItem 76 = .ok (.iload_n 3, 1) := by decide +kernel
theorem d_re_readsItem_77 : decode c_re_readsItem 77 = .ok (.iastore, 1) := by decide +kernel
theorem d_re_readsItem_78 : decode c_re_readsItem 78 = .ok (.aload_n 1, 1) := by decide +kernel
theorem d_re_readsItem_79 : decode c_re_readsItem 79 = .ok (.getfield 48, 3) := by decide +kernel
theorem d_re_readsItem_82 : decode c_re_readsItem 82 = .ok (.tableswitch 131 6 12 #[42, 131, 67, 104, 112, 122, 122], 42) := by decide +kernel
theorem d_re_readsItem_124 : decode c_re_readsItem 124 = .ok (.aload_n 0, 1) := by decide +kernel
theorem d_re_readsItem_125 : decode c_re_readsItem 125 = .ok (.iload 4, 2) := by decide +kernel
theorem d_re_readsItem_127 : decode c_re_readsItem 127 = .ok (.iload_n 3, 1) := by decide +kernel
theorem d_re_readsItem_128 : decode c_re_readsItem 128 = .ok (.invokevirtual 51, 3) := by decide +kernel
theorem d_re_readsItem_131 : decode c_re_readsItem 131 = .ok (.ifCond .eq 16, 3) := by decide +kernel
theorem d_re_readsItem_134 : decode c_re_readsItem 134 = .ok (.aload_n 0, 1) := by decide +kernel
theorem d_re_readsItem_135 : decode c_re_readsItem 135 = .ok (.iload 4, 2) := by decide +kernel
theorem d_re_readsItem_137 : decode c_re_readsItem 137 = .ok (.invokevirtual 54, 3) := by decide +kernel
theorem d_re_readsItem_140 : decode c_re_readsItem 140 = .ok (.ifCond .eq 7, 3) := by decide +kernel
theorem d_re_readsItem_143 : decode c_re_readsItem 143 = .ok (.iconst 1, 1) := by decide +kernel
theorem d_re_readsItem_144 : decode c_re_readsItem 144 = .ok (.goto 4, 3) := by decide +kernel
theorem d_re_readsItem_147 : decode c_re_readsItem 147 = .ok (.iconst 0, 1) := by decide +kernel
theorem d_re_readsItem_148 : decode c_re_readsItem 148 = .ok (.ireturn, 1) := by decide +kernel
theorem d_re_readsItem_149 : decode c_re_readsItem 149 = .ok (.aload_n 0, 1) := by decide +kernel
theorem d_re_readsItem_150 : decode c_re_readsItem 150 = .ok (.iload 4, 2) := by decide +kernel
theorem d_re_readsItem_152 : decode c_re_readsItem 152 = .ok (.iload_n 3, 1) := by decide +kernel
theorem d_re_readsItem_153 : decode c_re_readsItem 153 = .ok (.invokevirtual 51, 3) := by decide +kernel
theorem d_re_readsItem_156 : decode c_re_readsItem 156 = .ok (.ifCond .eq 28, 3) := by decide +kernel
theorem d_re_readsItem_159 : decode c_re_readsItem 159 = .ok (.aload_n 0, 1) := by decide +kernel
theorem d_re_readsItem_160 : decode c_re_readsItem 160 = .ok (.iload 4, 2) := by decide +kernel
theorem d_re_readsItem_162 : decode c_re_readsItem 162 = .ok (.aload_n 1, 1) := by decide +kernel
theorem d_re_readsItem_163 : decode c_re_readsItem 163 = .ok (.getfield 58, 3) := by decide +kernel
theorem d_re_readsItem_166 : decode c_re_readsItem 166 = .ok (.iconst 0, 1) := by decide +kernel
theorem d_re_readsItem_167 : decode c_re_readsItem 167 = .ok (.aaload, 1) := by decide +kernel
theorem d_re_readsItem_168 : decode c_re_readsItem 168 = .ok (.aload_n 2, 1) := by decide +kernel
theorem d_re_readsItem_169 : decode c_re_readsItem 169 = .ok (.getfield 58, 3) := by decide +kernel
theorem d_re_readsItem_172 : decode c_re_readsItem 172 = .ok (.iconst 0, 1) := by decide +kernel
theorem d_re_readsItem_173 : decode c_re_readsItem 173 = .ok (.aaload, 1) := by decide +kernel
theorem d_re_readsItem_174 : decode c_re_readsItem 174 = .ok (.invokevirtual 62, 3) := by decide +kernel
theorem d_re_readsItem_177 : decode c_re_readsItem 177 = .ok (.ifCond .eq 7, 3) := by decide +kernel
theorem d_re_readsItem_180 : decode c_re_readsItem 180 = .ok (.iconst 1, 1) := by decide +kernel
theorem d_re_readsItem_181 : decode c_re_readsItem 181 = .ok (.goto 4, 3) := by decide +kernel
theorem d_re_readsItem_184 : decode c_re_readsItem 184 = .ok (.iconst 0, 1) := by decide +kernel
theorem d_re_readsItem_185 : decode c_re_readsItem 185 = .ok (.ireturn, 1) := by decide +kernel
theorem d_re_readsItem_186 : decode c_re_readsItem 186 = .ok (.aload_n 0, 1) := by decide +kernel
theorem d_re_readsItem_187 : decode c_re_readsItem 187 = .ok (.aload_n 1, 1) := by decide +kernel
theorem d_re_readsItem_188 : decode c_re_readsItem 188 = .ok (.aload_n 2, 1) := by decide +kernel
theorem d_re_readsItem_189 : decode c_re_readsItem 189 = .ok (.iload_n 3, 1) := by decide +kernel
theorem d_re_readsItem_190 : decode c_re_readsItem 190 = .ok (.invokevirtual 66, 3) := by decide +kernel
theorem d_re_readsItem_193 : decode c_re_readsItem 193 = .ok (.ireturn, 1) := by decide +kernel
theorem d_re_readsItem_194 : decode c_re_readsItem 194 = .ok (.aload_n 0, 1) := by decide +kernel
theorem d_re_readsItem_195 : decode c_re_readsItem 195 = .ok (.iload 4, 2) := by decide +kernel
theorem d_re_readsItem_197 : decode c_re_readsItem 197 = .ok (.aload_n 1, 1) := by decide +kernel
theorem d_re_readsItem_198 : decode c_re_readsItem 198 = .ok (.aload_n 2, 1) := by decide +kernel
theorem d_re_readsItem_199 : decode c_re_readsItem 199 = .ok (.iload_n 3, 1) := by decide +kernel
theorem d_re_readsItem_200 : decode c_re_readsItem 200 = .ok (.invokevirtual 70, 3) := by decide +kernel
theorem d_re_readsItem_203 : decode c_re_readsItem 203 = .ok (.ireturn, 1) := by decide +kernel
theorem d_re_readsItem_204 : decode c_re_readsItem 204 = .ok (.aload_n 0, 1) := by decide +kernel
theorem d_re_readsItem_205 : decode c_re_readsItem 205 = .ok (.iload 4, 2) := by decide +kernel
theorem d_re_readsItem_207 : decode c_re_readsItem 207 = .ok (.aload_n 1, 1) := by decide +kernel
theorem d_re_readsItem_208 : decode c_re_readsItem 208 = .ok (.iload_n 3, 1) := by decide +kernel
theorem d_re_readsItem_209 : decode c_re_readsItem 209 = .ok (.invokevirtual 74, 3) := by decide +kernel
theorem d_re_readsItem_212 : decode c_re_readsItem 212 = .ok (.ireturn, 1) := by decide +kernel
theorem d_re_readsItem_213 : decode c_re_readsItem 213 = .ok (.aload_n 0, 1) := by decide +kernel
theorem d_re_readsItem_214 : decode c_re_readsItem 214 = .ok (.iload 4, 2) := by decide +kernel
theorem d_re_readsItem_216 : decode c_re_readsItem 216 = .ok (.aload_n 1, 1) := by decide +kernel
theorem d_re_readsItem_217 : decode c_re_readsItem 217 = .ok (.iload_n 3, 1) := by decide +kernel
theorem d_re_readsItem_218 : decode c_re_readsItem 218 = .ok (.invokevirtual 78, 3) := by decide +kernel
theorem d_re_readsItem_221 : decode c_re_readsItem 221 = .ok (.ireturn, 1) := by decide +kernel
theorem d_wt_writesItem_0 : decode c_wt_writesItem 0 = .ok (.aload_n 0, 1) := by decide +kernel
theorem d_wt_writesItem_1 : decode c_wt_writesItem 1 = .ok (.getfield 9, 3) := by decide +kernel
theorem d_wt_writesItem_4 : decode c_wt_writesItem 4 = .ok (.istore_n 3, 1) := by decide +kernel
theorem d_wt_writesItem_5 : decode c_wt_writesItem 5 = .ok (.aload_n 0, 1) := by decide +kernel
theorem d_wt_writesItem_6 : decode c_wt_writesItem 6 = .ok (.dup, 1) := by decide +kernel
theorem d_wt_writesItem_7 : decode c_wt_writesItem 7 = .ok (.getfield 9, 3) := by decide +kernel
theorem d_wt_writesItem_10 : decode c_wt_writesItem 10 = .ok (.iconst 1, 1) := by decide +kernel
theorem d_wt_writesItem_11 : decode c_wt_writesItem 11 = .ok (.iadd, 1) := by decide +kernel
theorem d_wt_writesItem_12 : decode c_wt_writesItem 12 = .ok (.putfield 9, 3) := by decide +kernel
theorem d_wt_writesItem_15 : decode c_wt_writesItem 15 = .ok (.aload_n 1, 1) := by decide +kernel
theorem d_wt_writesItem_16 : decode c_wt_writesItem 16 = .ok (.getfield 64, 3) := by decide +kernel
theorem d_wt_writesItem_19 : decode c_wt_writesItem 19 = .ok (.tableswitch 84 6 12 #[41, 84, 48, 61, 68, 76, 76], 41) := by decide +kernel
theorem d_wt_writesItem_60 : decode c_wt_writesItem 60 = .ok (.aload_n 0, 1) := by decide +kernel
theorem d_wt_writesItem_61 : decode c_wt_writesItem 61 = .ok (.iload_n 3, 1) := by decide +kernel
theorem d_wt_writesItem_62 : decode c_wt_writesItem 62 = .ok (.iload_n 2, 1) := by decide +kernel
theorem d_wt_writesItem_63 : decode c_wt_writesItem 63 = .ok (.invokevirtual 67, 3) := by decide +kernel
theorem d_wt_writesItem_66 : decode c_wt_writesItem 66 = .ok (.ireturn, 1) := by decide +kernel
theorem d_wt_writesItem_67 : decode c_wt_writesItem 67 = .ok (.aload_n 0, 1) := by decide +kernel
theorem d_wt_writesItem_68 : decode c_wt_writesItem 68 = .ok (.iload_n 3, 1) := by decide +kernel
theorem d_wt_writesItem_69 : decode c_wt_writesItem 69 = .ok (.aload_n 1, 1) := by decide +kernel
theorem d_wt_writesItem_70 : decode c_wt_writesItem 70 = .ok (.getfield 70, 3) := by decide +kernel
theorem d_wt_writesItem_73 : decode c_wt_writesItem 73 = .ok (.iconst 0, 1) := by decide +kernel
theorem d_wt_writesItem_74 : decode c_wt_writesItem 74 = .ok (.aaload, 1) := by decide +kernel
theorem d_wt_writesItem_75 : decode c_wt_writesItem 75 = .ok (.iload_n 2, 1) := by decide +kernel
theorem d_wt_writesItem_76 : decode c_wt_writesItem 76 = .ok (.invokevirtual 74, 3) := by decide +kernel
theorem d_wt_writesItem_79 : decode c_wt_writesItem 79 = .ok (.ireturn, 1) := by decide +kernel
theorem d_wt_writesItem_80 : decode c_wt_writesItem 80 = .ok (.aload_n 0, 1) := by decide +kernel
theorem d_wt_writesItem_81 : decode c_wt_writesItem 81 = .ok (.aload_n 1, 1) := by decide +kernel
theorem d_wt_writesItem_82 : decode c_wt_writesItem 82 = .ok (.iload_n 2, 1) := by decide +kernel
theorem d_wt_writesItem_83 : decode c_wt_writesItem 83 = .ok (.invokevirtual 78, 3) := by decide +kernel
theorem d_wt_writesItem_86 : decode c_wt_writesItem 86 = .ok (.ireturn, 1) := by decide +kernel
theorem d_wt_writesItem_87 : decode c_wt_writesItem 87 = .ok (.aload_n 0, 1) := by decide +kernel
theorem d_wt_writesItem_88 : decode c_wt_writesItem 88 = .ok (.iload_n 3, 1) := by decide +kernel
theorem d_wt_writesItem_89 : decode c_wt_writesItem 89 = .ok (.aload_n 1, 1) := by decide +kernel
theorem d_wt_writesItem_90 : decode c_wt_writesItem 90 = .ok (.iload_n 2, 1) := by decide +kernel
theorem d_wt_writesItem_91 : decode c_wt_writesItem 91 = .ok (.invokevirtual 81, 3) := by decide +kernel
theorem d_wt_writesItem_94 : decode c_wt_writesItem 94 = .ok (.ireturn, 1) := by decide +kernel
theorem d_wt_writesItem_95 : decode c_wt_writesItem 95 = .ok (.aload_n 0, 1) := by decide +kernel
theorem d_wt_writesItem_96 : decode c_wt_writesItem 96 = .ok (.iload_n 3, 1) := by decide +kernel
theorem d_wt_writesItem_97 : decode c_wt_writesItem 97 = .ok (.aload_n 1, 1) := by decide +kernel
theorem d_wt_writesItem_98 : decode c_wt_writesItem 98 = .ok (.iload_n 2, 1) := by decide +kernel
theorem d_wt_writesItem_99 : decode c_wt_writesItem 99 = .ok (.invokevirtual 84, 3) := by decide +kernel
theorem d_wt_writesItem_102 : decode c_wt_writesItem 102 = .ok (.ireturn, 1) := by decide +kernel
theorem d_wt_writesItem_103 : decode c_wt_writesItem 103 = .ok (.aload_n 0, 1) := by decide +kernel
theorem d_wt_writesItem_104 : decode c_wt_writesItem 104 = .ok (.getfield 19, 3) := by decide +kernel
theorem d_wt_writesItem_107 : decode c_wt_writesItem 107 = .ok (.iload_n 2, 1) := by decide +kernel
theorem d_wt_writesItem_108 : decode c_wt_writesItem 108 = .ok (.aload_n 1, 1) := by decide +kernel
theorem d_wt_writesItem_109 : decode c_wt_writesItem 109 = .ok (.getfield 30, 3) := by decide +kernel
theorem d_wt_writesItem_112 : decode c_wt_writesItem 112 = .ok (.aload_n 0, 1) := by decide +kernel
theorem d_wt_writesItem_113 : decode c_wt_writesItem 113 = .ok (.getfield 22, 3) := by decide +kernel
theorem d_wt_writesItem_116 : decode c_wt_writesItem 116 = .ok (.getfield 87, 3) := by decide +kernel
theorem d_wt_writesItem_119 : decode c_wt_writesItem 119 = .ok (.iload_n 3, 1) := by decide +kernel
theorem d_wt_writesItem_120 : decode c_wt_writesItem 120 = .ok (.laload, 1) := by decide +kernel
theorem d_wt_writesItem_121 : decode c_wt_writesItem 121 = .ok (.invokevirtual 93, 3) := by decide +kernel
theorem d_wt_writesItem_124 : decode c_wt_writesItem 124 = .ok (.iconst 1, 1) := by decide +kernel
theorem d_wt_writesItem_125 : decode c_wt_writesItem 125 = .ok (.ireturn, 1) := by decide +kernel
