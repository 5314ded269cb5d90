theorem d_hc_isPlace_0 : decode c_hc_isPlace 0 = .ok (.iload_n 0, 1) := by decide +kernel
theorem d_hc_isPlace_1 : decode c_hc_isPlace 1 = .ok (.ifCond .lt 14, 3) := by decide +kernel
theorem d_hc_isPlace_4 : decode c_hc_isPlace 4 = .ok (.iload_n 0, 1) := by decide +kernel
theorem d_hc_isPlace_5 : decode c_hc_isPlace 5 = .ok (.sipush 256, 3) := by decide +kernel
theorem d_hc_isPlace_8 : decode c_hc_isPlace 8 = .ok (.if_icmp .ge 7, 3) := by decide +kernel
theorem d_hc_isPlace_11 : decode c_hc_isPlace 11 = .ok (.iconst 1, 1) := by decide +kernel
theorem d_hc_isPlace_12 : decode c_hc_isPlace 12 = .ok (.goto 4, 3) := by decide +kernel
theorem d_hc_isPlace_15 : decode c_hc_isPlace 15 = .ok (.iconst 0, 1) := by decide +kernel
theorem d_hc_isPlace_16 : decode c_hc_isPlace 16 = .ok (.ireturn, 1) := by decide +kernel
theorem d_hc_isKind_0 : decode c_hc_isKind 0 = .ok (.iload_n 0, 1) := by decide +kernel
theorem d_hc_isKind_1 : decode c_hc_isKind 1 = .ok (.ifCond .lt 13, 3) := by decide +kernel
theorem d_hc_isKind_4 : decode c_hc_isKind 4 = .ok (.iload_n 0, 1) := by decide +kernel
theorem d_hc_isKind_5 : decode c_hc_isKind 5 = .ok (.bipush 12, 2) := by decide +kernel
theorem d_hc_isKind_7 : decode c_hc_isKind 7 = .ok (.if_icmp .gt 7, 3) := by decide +kernel
theorem d_hc_isKind_10 : decode c_hc_isKind 10 = .ok (.iconst 1, 1) := by decide +kernel
theorem d_hc_isKind_11 : decode c_hc_isKind 11 = .ok (.goto 4, 3) := by decide +kernel
theorem d_hc_isKind_14 : decode c_hc_isKind 14 = .ok (.iconst 0, 1) := by decide +kernel
theorem d_hc_isKind_15 : decode c_hc_isKind 15 = .ok (.ireturn, 1) := by decide +kernel
theorem d_hc_isResourceKind_0 : decode c_hc_isResourceKind 0 = .ok (.iload_n 0, 1) := by decide +kernel
theorem d_hc_isResourceKind_1 : decode c_hc_isResourceKind 1 = .ok (.ifCond .lt 12, 3) := by decide +kernel
theorem d_hc_isResourceKind_4 : decode c_hc_isResourceKind 4 = .ok (.iload_n 0, 1) := by decide +kernel
theorem d_hc_isResourceKind_5 : decode c_hc_isResourceKind 5 = .ok (.iconst 4, 1) := by decide +kernel
theorem d_hc_isResourceKind_6 : decode c_hc_isResourceKind 6 = .ok (.if_icmp .ge 7, 3) := by decide +kernel
theorem d_hc_isResourceKind_9 : decode c_hc_isResourceKind 9 = .ok (.iconst 1, 1) := by decide +kernel
theorem d_hc_isResourceKind_10 : decode c_hc_isResourceKind 10 = .ok (.goto 4, 3) := by decide +kernel
theorem d_hc_isResourceKind_13 : decode c_hc_isResourceKind 13 = .ok (.iconst 0, 1) := by decide +kernel
theorem d_hc_isResourceKind_14 : decode c_hc_isResourceKind 14 = .ok (.ireturn, 1) := by decide +kernel
theorem d_hc_alignedFrom_0 : decode c_hc_alignedFrom 0 = .ok (.iload_n 0, 1) := by decide +kernel
theorem d_hc_alignedFrom_1 : decode c_hc_alignedFrom 1 = .ok (.iload_n 1, 1) := by decide +kernel
theorem d_hc_alignedFrom_2 : decode c_hc_alignedFrom 2 = .ok (.iadd, 1) := by decide +kernel
theorem d_hc_alignedFrom_3 : decode c_hc_alignedFrom 3 = .ok (.iconst 1, 1) := by decide +kernel
theorem d_hc_alignedFrom_4 : decode c_hc_alignedFrom 4 = .ok (.isub, 1) := by decide +kernel
theorem d_hc_alignedFrom_5 : decode c_hc_alignedFrom 5 = .ok (.iload_n 1, 1) := by decide +kernel
theorem d_hc_alignedFrom_6 : decode c_hc_alignedFrom 6 = .ok (.ineg, 1) := by decide +kernel
theorem d_hc_alignedFrom_7 : decode c_hc_alignedFrom 7 = .ok (.iand, 1) := by decide +kernel
theorem d_hc_alignedFrom_8 : decode c_hc_alignedFrom 8 = .ok (.ireturn, 1) := by decide +kernel
theorem d_hc_isType_0 : decode c_hc_isType 0 = .ok (.iload_n 1, 1) := by decide +kernel
theorem d_hc_isType_1 : decode c_hc_isType 1 = .ok (.ifCond .lt 15, 3) := by decide +kernel
theorem d_hc_isType_4 : decode c_hc_isType 4 = .ok (.iload_n 1, 1) := by decide +kernel
theorem d_hc_isType_5 : decode c_hc_isType 5 = .ok (.aload_n 0, 1) := by decide +kernel
theorem d_hc_isType_6 : decode c_hc_isType 6 = .ok (.getfield 15, 3) := by decide +kernel
theorem d_hc_isType_9 : decode c_hc_isType 9 = .ok (.if_icmp .ge 7, 3) := by decide +kernel
theorem d_hc_isType_12 : decode c_hc_isType 12 = .ok (.iconst 1, 1) := by decide +kernel
theorem d_hc_isType_13 : decode c_hc_isType 13 = .ok (.goto 4, 3) := by decide +kernel
theorem d_hc_isType_16 : decode c_hc_isType 16 = .ok (.iconst 0, 1) := by decide +kernel
theorem d_hc_isType_17 : decode c_hc_isType 17 = .ok (.ireturn, 1) := by decide +kernel
theorem d_hc_isInstance_0 : decode c_hc_isInstance 0 = .ok (.iload_n 1, 1) := by decide +kernel
theorem d_hc_isInstance_1 : decode c_hc_isInstance 1 = .ok (.ifCond .lt 15, 3) := by decide +kernel
theorem d_hc_isInstance_4 : decode c_hc_isInstance 4 = .ok (.iload_n 1, 1) := by decide +kernel
theorem d_hc_isInstance_5 : decode c_hc_isInstance 5 = .ok (.aload_n 0, 1) := by decide +kernel
theorem d_hc_isInstance_6 : decode c_hc_isInstance 6 = .ok (.getfield 31, 3) := by decide +kernel
theorem d_hc_isInstance_9 : decode c_hc_isInstance 9 = .ok (.if_icmp .ge 7, 3) := by decide +kernel
theorem d_hc_isInstance_12 : decode c_hc_isInstance 12 = .ok (.iconst 1, 1) := by decide +kernel
theorem d_hc_isInstance_13 : decode c_hc_isInstance 13 = .ok (.goto 4, 3) := by decide +kernel
theorem d_hc_isInstance_16 : decode c_hc_isInstance 16 = .ok (.iconst 0, 1) := by decide +kernel
theorem d_hc_isInstance_17 : decode c_hc_isInstance 17 = .ok (.ireturn, 1) := by decide +kernel
theorem d_hc_top_0 : decode c_hc_top 0 = .ok (.aload_n 0, 1) := by decide +kernel
theorem d_hc_top_1 : decode c_hc_top 1 = .ok (.getfield 43, 3) := by decide +kernel
theorem d_hc_top_4 : decode c_hc_top 4 = .ok (.aload_n 0, 1) := by decide +kernel
theorem d_hc_top_5 : decode c_hc_top 5 = .ok (.getfield 53, 3) := by decide +kernel
theorem d_hc_top_8 : decode c_hc_top 8 = .ok (.iconst 1, 1) := by decide +kernel
theorem d_hc_top_9 : decode c_hc_top 9 = .ok (.isub, 1) := by decide +kernel
theorem d_hc_top_10 : decode c_hc_top 10 = .ok (.iaload, 1) := by decide +kernel
theorem d_hc_top_11 : decode c_hc_top 11 = .ok (.ireturn, 1) := by decide +kernel
theorem d_hc_depth_0 : decode c_hc_depth 0 = .ok (.aload_n 0, 1) := by decide +kernel
theorem d_hc_depth_1 : decode c_hc_depth 1 = .ok (.getfield 53, 3) := by decide +kernel
theorem d_hc_depth_4 : decode c_hc_depth 4 = .ok (.ireturn, 1) := by decide +kernel
theorem d_hc_passed_0 : decode c_hc_passed 0 = .ok (.aload_n 0, 1) := by decide +kernel
theorem d_hc_passed_1 : decode c_hc_passed 1 = .ok (.getfield 53, 3) := by decide +kernel
theorem d_hc_passed_4 : decode c_hc_passed 4 = .ok (.ifCond .ne 7, 3) := by decide +kernel
theorem d_hc_passed_7 : decode c_hc_passed 7 = .ok (.iconst (-1), 1) := by decide +kernel
theorem d_hc_passed_8 : decode c_hc_passed 8 = .ok (.goto 14, 3) := by decide +kernel
theorem d_hc_passed_11 : decode c_hc_passed 11 = .ok (.aload_n 0, 1) := by decide +kernel
theorem d_hc_passed_12 : decode c_hc_passed 12 = .ok (.getfield 50, 3) := by decide +kernel
theorem d_hc_passed_15 : decode c_hc_passed 15 = .ok (.aload_n 0, 1) := by decide +kernel
theorem d_hc_passed_16 : decode c_hc_passed 16 = .ok (.getfield 53, 3) := by decide +kernel
theorem d_hc_passed_19 : decode c_hc_passed 19 = .ok (.iconst 1, 1) := by decide +kernel
theorem d_hc_passed_20 : decode c_hc_passed 20 = .ok (.isub, 1) := by decide +kernel
theorem d_hc_passed_21 : decode c_hc_passed 21 = .ok (.iaload, 1) := by decide +kernel
theorem d_hc_passed_22 : decode c_hc_passed 22 = .ok (.ireturn, 1) := by decide +kernel
theorem d_hc_level_0 : decode c_hc_level 0 = .ok (.iload_n 1, 1) := by decide +kernel
theorem d_hc_level_1 : decode c_hc_level 1 = .ok (.ifCond .lt 11, 3) := by decide +kernel
theorem d_hc_level_4 : decode c_hc_level 4 = .ok (.iload_n 1, 1) := by decide +kernel
theorem d_hc_level_5 : decode c_hc_level 5 = .ok (.aload_n 0, 1) := by decide +kernel
theorem d_hc_level_6 : decode c_hc_level 6 = .ok (.getfield 53, 3) := by decide +kernel
theorem d_hc_level_9 : decode c_hc_level 9 = .ok (.if_icmp .lt 7, 3) := by decide +kernel
theorem d_hc_level_12 : decode c_hc_level 12 = .ok (.iconst (-1), 1) := by decide +kernel
theorem d_hc_level_13 : decode c_hc_level 13 = .ok (.goto 9, 3) := by decide +kernel
theorem d_hc_level_16 : decode c_hc_level 16 = .ok (.aload_n 0, 1) := by decide +kernel
theorem d_hc_level_17 : decode c_hc_level 17 = .ok (.getfield 43, 3) := by decide +kernel
theorem d_hc_level_20 : decode c_hc_level 20 = .ok (.iload_n 1, 1) := by decide +kernel
theorem d_hc_level_21 : decode c_hc_level 21 = .ok (.iaload, 1) := by decide +kernel
theorem d_hc_level_22 : decode c_hc_level 22 = .ok (.ireturn, 1) := by decide +kernel
theorem d_re_lengthBehind_0 : decode c_re_lengthBehind 0 = .ok (.iload_n 0, 1) := by decide +kernel
theorem d_re_lengthBehind_1 : decode c_re_lengthBehind 1 = .ok (.sipush 128, 3) := by decide +kernel
theorem d_re_lengthBehind_4 : decode c_re_lengthBehind 4 = .ok (.if_icmp .ge 5, 3) := by decide +kernel
theorem d_re_lengthBehind_7 : decode c_re_lengthBehind 7 = .ok (.iconst 1, 1) := by decide +kernel
theorem d_re_lengthBehind_8 : decode c_re_lengthBehind 8 = .ok (.ireturn, 1) := by decide +kernel
theorem d_re_lengthBehind_9 : decode c_re_lengthBehind 9 = .ok (.iload_n 0, 1) := by decide +kernel
theorem d_re_lengthBehind_10 : decode c_re_lengthBehind 10 = .ok (.sipush 194, 3) := by decide +kernel
theorem d_re_lengthBehind_13 : decode c_re_lengthBehind 13 = .ok (.if_icmp .lt 10, 3) := by decide +kernel
theorem d_re_lengthBehind_16 : decode c_re_lengthBehind 16 = .ok (.iload_n 0, 1) := by decide +kernel
theorem d_re_lengthBehind_17 : decode c_re_lengthBehind 17 = .ok (.sipush 244, 3) := by decide +kernel
theorem d_re_lengthBehind_20 : decode c_re_lengthBehind 20 = .ok (.if_icmp .le 5, 3) := by decide +kernel
theorem d_re_lengthBehind_23 : decode c_re_lengthBehind 23 = .ok (.iconst (-1), 1) := by decide +kernel
theorem d_re_lengthBehind_24 : decode c_re_lengthBehind 24 = .ok (.ireturn, 1) := by decide +kernel
theorem d_re_lengthBehind_25 : decode c_re_lengthBehind 25 = .ok (.iload_n 0, 1) := by decide +kernel
theorem d_re_lengthBehind_26 : decode c_re_lengthBehind 26 = .ok (.sipush 224, 3) := by decide +kernel
theorem d_re_lengthBehind_29 : decode c_re_lengthBehind 29 = .ok (.if_icmp .ge 7, 3) := by decide +kernel
theorem d_re_lengthBehind_32 : decode c_re_lengthBehind 32 = .ok (.iconst 2, 1) := by decide +kernel
theorem d_re_lengthBehind_33 : decode c_re_lengthBehind 33 = .ok (.goto 15, 3) := by decide +kernel
theorem d_re_lengthBehind_36 : decode c_re_lengthBehind 36 = .ok (.iload_n 0, 1) := by decide +kernel
theorem d_re_lengthBehind_37 : decode c_re_lengthBehind 37 = .ok (.sipush 240, 3) := by decide +kernel
theorem d_re_lengthBehind_40 : decode c_re_lengthBehind 40 = .ok (.if_icmp .ge 7, 3) := by decide +kernel
theorem d_re_lengthBehind_43 : decode c_re_lengthBehind 43 = .ok (.iconst 3, 1) := by decide +kernel
theorem d_re_lengthBehind_44 : decode c_re_lengthBehind 44 = .ok (.goto 4, 3) := by decide +kernel
theorem d_re_lengthBehind_47 : decode c_re_lengthBehind 47 = .ok (.iconst 4, 1) := by decide +kernel
theorem d_re_lengthBehind_48 : decode c_re_lengthBehind 48 = .ok (.ireturn, 1) := by decide +kernel
theorem d_re_lowestBehind_0 : decode c_re_lowestBehind 0 = .ok (.iload_n 1, 1) := by decide +kernel
theorem d_re_lowestBehind_1 : decode c_re_lowestBehind 1 = .ok (.iconst 1, 1) := by decide +kernel
theorem d_re_lowestBehind_2 : decode c_re_lowestBehind 2 = .ok (.if_icmp .ne 14, 3) := by decide +kernel
theorem d_re_lowestBehind_5 : decode c_re_lowestBehind 5 = .ok (.iload_n 0, 1) := by decide +kernel
theorem d_re_lowestBehind_6 : decode c_re_lowestBehind 6 = .ok (.sipush 224, 3) := by decide +kernel
theorem d_re_lowestBehind_9 : decode c_re_lowestBehind 9 = .ok (.if_icmp .ne 7, 3) := by decide +kernel
theorem d_re_lowestBehind_12 : decode c_re_lowestBehind 12 = .ok (.sipush 160, 3) := by decide +kernel
theorem d_re_lowestBehind_15 : decode c_re_lowestBehind 15 = .ok (.ireturn, 1) := by decide +kernel
theorem d_re_lowestBehind_16 : decode c_re_lowestBehind 16 = .ok (.iload_n 1, 1) := by decide +kernel
theorem d_re_lowestBehind_17 : decode c_re_lowestBehind 17 = .ok (.iconst 1, 1) := by decide +kernel
theorem d_re_lowestBehind_18 : decode c_re_lowestBehind 18 = .ok (.if_icmp .ne 16, 3) := by decide +kernel
theorem d_re_lowestBehind_21 : decode c_re_lowestBehind 21 = .ok (.iload_n 0, 1) := by decide +kernel
theorem d_re_lowestBehind_22 : decode c_re_lowestBehind 22 = .ok (.sipush 240, 3) := by decide +kernel
theorem d_re_lowestBehind_25 : decode c_re_lowestBehind 25 = .ok (.if_icmp .ne 9, 3) := by decide +kernel
theorem d_re_lowestBehind_28 : decode c_re_lowestBehind 28 = .ok (.sipush 144, 3) := by decide +kernel
theorem d_re_lowestBehind_31 : decode c_re_lowestBehind 31 = .ok (.goto 6, 3) := by decide +kernel
theorem d_re_lowestBehind_34 : decode c_re_lowestBehind 34 = .ok (.sipush 128, 3) := by decide +kernel
theorem d_re_lowestBehind_37 : decode c_re_lowestBehind 37 = .ok (.ireturn, 1) := by decide +kernel
theorem d_re_highestBehind_0 : decode c_re_highestBehind 0 = .ok (.iload_n 1, 1) := by decide +kernel
theorem d_re_highestBehind_1 : decode c_re_highestBehind 1 = .ok (.iconst 1, 1) := by decide +kernel
theorem d_re_highestBehind_2 : decode c_re_highestBehind 2 = .ok (.if_icmp .ne 14, 3) := by decide +kernel
theorem d_re_highestBehind_5 : decode c_re_highestBehind 5 = .ok (.iload_n 0, 1) := by decide +kernel
theorem d_re_highestBehind_6 : decode c_re_highestBehind 6 = .ok (.sipush 237, 3) := by decide +kernel
theorem d_re_highestBehind_9 : decode c_re_highestBehind 9 = .ok (.if_icmp .ne 7, 3) := by decide +kernel
theorem d_re_highestBehind_12 : decode c_re_highestBehind 12 = .ok (.sipush 159, 3) := by decide +kernel
theorem d_re_highestBehind_15 : decode c_re_highestBehind 15 = .ok (.ireturn, 1) := by decide +kernel
theorem d_re_highestBehind_16 : decode c_re_highestBehind 16 = .ok (.iload_n 1, 1) := by decide +kernel
theorem d_re_highestBehind_17 : decode c_re_highestBehind 17 = .ok (.iconst 1, 1) := by decide +kernel
theorem d_re_highestBehind_18 : decode c_re_highestBehind 18 = .ok (.if_icmp .ne 16, 3) := by decide +kernel
theorem d_re_highestBehind_21 : decode c_re_highestBehind 21 = .ok (.iload_n 0, 1) := by decide +kernel
theorem d_re_highestBehind_22 : decode c_re_highestBehind 22 = .ok (.sipush 244, 3) := by decide +kernel
theorem d_re_highestBehind_25 : decode c_re_highestBehind 25 = .ok (.if_icmp .ne 9, 3) := by decide +kernel
theorem d_re_highestBehind_28 : decode c_re_highestBehind 28 = .ok (.sipush 143, 3) := by decide +kernel
theorem d_re_highestBehind_31 : decode c_re_highestBehind 31 = .ok (.goto 6, 3) := by decide +kernel
theorem d_re_highestBehind_34 : decode c_re_highestBehind 34 = .ok (.sipush 191, 3) := by decide +kernel
theorem d_re_highestBehind_37 : decode c_re_highestBehind 37 = .ok (.ireturn, 1) := by decide +kernel
