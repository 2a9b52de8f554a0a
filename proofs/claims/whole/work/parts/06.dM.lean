theorem d_M_init_0 : decode c_M_init 0 = .ok (.aload_n 0, 1) := by decide +kernel
theorem d_M_init_1 : decode c_M_init 1 = .ok (.invokespecial 1, 3) := by decide +kernel
theorem d_M_init_4 : decode c_M_init 4 = .ok (.aload_n 0, 1) := by decide +kernel
theorem d_M_init_5 : decode c_M_init 5 = .ok (.iconst 1, 1) := by decide +kernel
theorem d_M_init_6 : decode c_M_init 6 = .ok (.putfield 7, 3) := by decide +kernel
theorem d_M_init_9 : decode c_M_init 9 = .ok (.aload_n 0, 1) := by decide +kernel
theorem d_M_init_10 : decode c_M_init 10 = .ok (.iconst 4, 1) := by decide +kernel
theorem d_M_init_11 : decode c_M_init 11 = .ok (.newarray .int, 2) := by decide +kernel
theorem d_M_init_13 : decode c_M_init 13 = .ok (.putfield 13, 3) := by decide +kernel
theorem d_M_init_16 : decode c_M_init 16 = .ok (.aload_n 0, 1) := by decide +kernel
theorem d_M_init_17 : decode c_M_init 17 = .ok (.iconst 4, 1) := by decide +kernel
theorem d_M_init_18 : decode c_M_init 18 = .ok (.newarray .int, 2) := by decide +kernel
theorem d_M_init_20 : decode c_M_init 20 = .ok (.putfield 17, 3) := by decide +kernel
theorem d_M_init_23 : decode c_M_init 23 = .ok (.aload_n 0, 1) := by decide +kernel
theorem d_M_init_24 : decode c_M_init 24 = .ok (.iconst 4, 1) := by decide +kernel
theorem d_M_init_25 : decode c_M_init 25 = .ok (.newarray .int, 2) := by decide +kernel
theorem d_M_init_27 : decode c_M_init 27 = .ok (.putfield 20, 3) := by decide +kernel
theorem d_M_init_30 : decode c_M_init 30 = .ok (.aload_n 0, 1) := by decide +kernel
theorem d_M_init_31 : decode c_M_init 31 = .ok (.iconst 4, 1) := by decide +kernel
theorem d_M_init_32 : decode c_M_init 32 = .ok (.newarray .int, 2) := by decide +kernel
theorem d_M_init_34 : decode c_M_init 34 = .ok (.putfield 23, 3) := by decide +kernel
theorem d_M_init_37 : decode c_M_init 37 = .ok (.aload_n 0, 1) := by decide +kernel
theorem d_M_init_38 : decode c_M_init 38 = .ok (.iconst 4, 1) := by decide +kernel
theorem d_M_init_39 : decode c_M_init 39 = .ok (.newarray .int, 2) := by decide +kernel
theorem d_M_init_41 : decode c_M_init 41 = .ok (.putfield 26, 3) := by decide +kernel
theorem d_M_init_44 : decode c_M_init 44 = .ok (.aload_n 0, 1) := by decide +kernel
theorem d_M_init_45 : decode c_M_init 45 = .ok (.iconst 4, 1) := by decide +kernel
theorem d_M_init_46 : decode c_M_init 46 = .ok (.newarray .int, 2) := by decide +kernel
theorem d_M_init_48 : decode c_M_init 48 = .ok (.putfield 29, 3) := by decide +kernel
theorem d_M_init_51 : decode c_M_init 51 = .ok (.aload_n 0, 1) := by decide +kernel
theorem d_M_init_52 : decode c_M_init 52 = .ok (.iconst 4, 1) := by decide +kernel
theorem d_M_init_53 : decode c_M_init 53 = .ok (.newarray .int, 2) := by decide +kernel
theorem d_M_init_55 : decode c_M_init 55 = .ok (.putfield 32, 3) := by decide +kernel
theorem d_M_init_58 : decode c_M_init 58 = .ok (.aload_n 0, 1) := by decide +kernel
theorem d_M_init_59 : decode c_M_init 59 = .ok (.bipush 16, 2) := by decide +kernel
theorem d_M_init_61 : decode c_M_init 61 = .ok (.newarray .int, 2) := by decide +kernel
theorem d_M_init_63 : decode c_M_init 63 = .ok (.putfield 35, 3) := by decide +kernel
theorem d_M_init_66 : decode c_M_init 66 = .ok (.aload_n 0, 1) := by decide +kernel
theorem d_M_init_67 : decode c_M_init 67 = .ok (.bipush 16, 2) := by decide +kernel
theorem d_M_init_69 : decode c_M_init 69 = .ok (.newarray .int, 2) := by decide +kernel
theorem d_M_init_71 : decode c_M_init 71 = .ok (.putfield 38, 3) := by decide +kernel
theorem d_M_init_74 : decode c_M_init 74 = .ok (.aload_n 0, 1) := by decide +kernel
theorem d_M_init_75 : decode c_M_init 75 = .ok (.iconst 4, 1) := by decide +kernel
theorem d_M_init_76 : decode c_M_init 76 = .ok (.newarray .int, 2) := by decide +kernel
theorem d_M_init_78 : decode c_M_init 78 = .ok (.putfield 41, 3) := by decide +kernel
theorem d_M_init_81 : decode c_M_init 81 = .ok (.aload_n 0, 1) := by decide +kernel
theorem d_M_init_82 : decode c_M_init 82 = .ok (.iconst 4, 1) := by decide +kernel
theorem d_M_init_83 : decode c_M_init 83 = .ok (.newarray .int, 2) := by decide +kernel
theorem d_M_init_85 : decode c_M_init 85 = .ok (.putfield 44, 3) := by decide +kernel
theorem d_M_init_88 : decode c_M_init 88 = .ok (.aload_n 0, 1) := by decide +kernel
theorem d_M_init_89 : decode c_M_init 89 = .ok (.iconst 4, 1) := by decide +kernel
theorem d_M_init_90 : decode c_M_init 90 = .ok (.newarray .int, 2) := by decide +kernel
theorem d_M_init_92 : decode c_M_init 92 = .ok (.putfield 47, 3) := by decide +kernel
theorem d_M_init_95 : decode c_M_init 95 = .ok (.aload_n 0, 1) := by decide +kernel
theorem d_M_init_96 : decode c_M_init 96 = .ok (.iconst 4, 1) := by decide +kernel
theorem d_M_init_97 : decode c_M_init 97 = .ok (.newarray .int, 2) := by decide +kernel
theorem d_M_init_99 : decode c_M_init 99 = .ok (.putfield 50, 3) := by decide +kernel
theorem d_M_init_102 : decode c_M_init 102 = .ok (.iconst 0, 1) := by decide +kernel
theorem d_M_init_103 : decode c_M_init 103 = .ok (.istore_n 1, 1) := by decide +kernel
theorem d_M_init_104 : decode c_M_init 104 = .ok (.iload_n 1, 1) := by decide +kernel
theorem d_M_init_105 : decode c_M_init 105 = .ok (.iconst 4, 1) := by decide +kernel
theorem d_M_init_106 : decode c_M_init 106 = .ok (.if_icmp .ge 17, 3) := by decide +kernel
theorem d_M_init_109 : decode c_M_init 109 = .ok (.aload_n 0, 1) := by decide +kernel
theorem d_M_init_110 : decode c_M_init 110 = .ok (.getfield 23, 3) := by decide +kernel
theorem d_M_init_113 : decode c_M_init 113 = .ok (.iload_n 1, 1) := by decide +kernel
theorem d_M_init_114 : decode c_M_init 114 = .ok (.ldc 53, 2) := by decide +kernel
theorem d_M_init_116 : decode c_M_init 116 = .ok (.iastore, 1) := by decide +kernel
theorem d_M_init_117 : decode c_M_init 117 = .ok (.iinc 1 1, 3) := by decide +kernel
theorem d_M_init_120 : decode c_M_init 120 = .ok (.goto (-16), 3) := by decide +kernel
theorem d_M_init_123 : decode c_M_init 123 = .ok (.return_, 1) := by decide +kernel
theorem d_M_thrown_0 : decode c_M_thrown 0 = .ok (.aload_n 0, 1) := by decide +kernel
theorem d_M_thrown_1 : decode c_M_thrown 1 = .ok (.getfield 54, 3) := by decide +kernel
theorem d_M_thrown_4 : decode c_M_thrown 4 = .ok (.ireturn, 1) := by decide +kernel
theorem d_M_in_0 : decode c_M_in 0 = .ok (.iload_n 0, 1) := by decide +kernel
theorem d_M_in_1 : decode c_M_in 1 = .ok (.iload_n 1, 1) := by decide +kernel
theorem d_M_in_2 : decode c_M_in 2 = .ok (.if_icmp .lt 12, 3) := by decide +kernel
theorem d_M_in_5 : decode c_M_in 5 = .ok (.iload_n 0, 1) := by decide +kernel
theorem d_M_in_6 : decode c_M_in 6 = .ok (.iload_n 2, 1) := by decide +kernel
theorem d_M_in_7 : decode c_M_in 7 = .ok (.if_icmp .gt 7, 3) := by decide +kernel
theorem d_M_in_10 : decode c_M_in 10 = .ok (.iconst 1, 1) := by decide +kernel
theorem d_M_in_11 : decode c_M_in 11 = .ok (.goto 4, 3) := by decide +kernel
theorem d_M_in_14 : decode c_M_in 14 = .ok (.iconst 0, 1) := by decide +kernel
theorem d_M_in_15 : decode c_M_in 15 = .ok (.ireturn, 1) := by decide +kernel
theorem d_M_goes_0 : decode c_M_goes 0 = .ok (.aload_n 0, 1) := by decide +kernel
theorem d_M_goes_1 : decode c_M_goes 1 = .ok (.iload_n 1, 1) := by decide +kernel
theorem d_M_goes_2 : decode c_M_goes 2 = .ok (.ifCond .ne 7, 3) := by decide +kernel
theorem d_M_goes_5 : decode c_M_goes 5 = .ok (.iconst 1, 1) := by decide +kernel
theorem d_M_goes_6 : decode c_M_goes 6 = .ok (.goto 12, 3) := by decide +kernel
theorem d_M_goes_9 : decode c_M_goes 9 = .ok (.iload_n 2, 1) := by decide +kernel
theorem d_M_goes_10 : decode c_M_goes 10 = .ok (.ifCond .ne 7, 3) := by decide +kernel
theorem d_M_goes_13 : decode c_M_goes 13 = .ok (.iconst 2, 1) := by decide +kernel
theorem d_M_goes_14 : decode c_M_goes 14 = .ok (.goto 4, 3) := by decide +kernel
theorem d_M_goes_17 : decode c_M_goes 17 = .ok (.iconst 0, 1) := by decide +kernel
theorem d_M_goes_18 : decode c_M_goes 18 = .ok (.putfield 54, 3) := by decide +kernel
theorem d_M_goes_21 : decode c_M_goes 21 = .ok (.aload_n 0, 1) := by decide +kernel
theorem d_M_goes_22 : decode c_M_goes 22 = .ok (.getfield 54, 3) := by decide +kernel
theorem d_M_goes_25 : decode c_M_goes 25 = .ok (.ifCond .ne 7, 3) := by decide +kernel
theorem d_M_goes_28 : decode c_M_goes 28 = .ok (.iconst 1, 1) := by decide +kernel
theorem d_M_goes_29 : decode c_M_goes 29 = .ok (.goto 4, 3) := by decide +kernel
theorem d_M_goes_32 : decode c_M_goes 32 = .ok (.iconst 0, 1) := by decide +kernel
theorem d_M_goes_33 : decode c_M_goes 33 = .ok (.ireturn, 1) := by decide +kernel
theorem d_M_isElement_0 : decode c_M_isElement 0 = .ok (.iload_n 0, 1) := by decide +kernel
theorem d_M_isElement_1 : decode c_M_isElement 1 = .ok (.iconst 0, 1) := by decide +kernel
theorem d_M_isElement_2 : decode c_M_isElement 2 = .ok (.iconst 3, 1) := by decide +kernel
theorem d_M_isElement_3 : decode c_M_isElement 3 = .ok (.invokestatic 57, 3) := by decide +kernel
theorem d_M_isElement_6 : decode c_M_isElement 6 = .ok (.ireturn, 1) := by decide +kernel
theorem d_M_isKind_0 : decode c_M_isKind 0 = .ok (.iload_n 1, 1) := by decide +kernel
theorem d_M_isKind_1 : decode c_M_isKind 1 = .ok (.iconst 0, 1) := by decide +kernel
theorem d_M_isKind_2 : decode c_M_isKind 2 = .ok (.aload_n 0, 1) := by decide +kernel
theorem d_M_isKind_3 : decode c_M_isKind 3 = .ok (.getfield 61, 3) := by decide +kernel
theorem d_M_isKind_6 : decode c_M_isKind 6 = .ok (.iconst 1, 1) := by decide +kernel
theorem d_M_isKind_7 : decode c_M_isKind 7 = .ok (.isub, 1) := by decide +kernel
theorem d_M_isKind_8 : decode c_M_isKind 8 = .ok (.invokestatic 57, 3) := by decide +kernel
theorem d_M_isKind_11 : decode c_M_isKind 11 = .ok (.ireturn, 1) := by decide +kernel
theorem d_M_areShares_0 : decode c_M_areShares 0 = .ok (.iload_n 0, 1) := by decide +kernel
theorem d_M_areShares_1 : decode c_M_areShares 1 = .ok (.iconst 0, 1) := by decide +kernel
theorem d_M_areShares_2 : decode c_M_areShares 2 = .ok (.ldc 53, 2) := by decide +kernel
theorem d_M_areShares_4 : decode c_M_areShares 4 = .ok (.invokestatic 57, 3) := by decide +kernel
theorem d_M_areShares_7 : decode c_M_areShares 7 = .ok (.ifCond .eq 17, 3) := by decide +kernel
theorem d_M_areShares_10 : decode c_M_areShares 10 = .ok (.iload_n 1, 1) := by decide +kernel
theorem d_M_areShares_11 : decode c_M_areShares 11 = .ok (.iload_n 0, 1) := by decide +kernel
theorem d_M_areShares_12 : decode c_M_areShares 12 = .ok (.ldc 53, 2) := by decide +kernel
theorem d_M_areShares_14 : decode c_M_areShares 14 = .ok (.invokestatic 57, 3) := by decide +kernel
theorem d_M_areShares_17 : decode c_M_areShares 17 = .ok (.ifCond .eq 7, 3) := by decide +kernel
theorem d_M_areShares_20 : decode c_M_areShares 20 = .ok (.iconst 1, 1) := by decide +kernel
theorem d_M_areShares_21 : decode c_M_areShares 21 = .ok (.goto 4, 3) := by decide +kernel
theorem d_M_areShares_24 : decode c_M_areShares 24 = .ok (.iconst 0, 1) := by decide +kernel
theorem d_M_areShares_25 : decode c_M_areShares 25 = .ok (.ireturn, 1) := by decide +kernel
theorem d_M_heat_0 : decode c_M_heat 0 = .ok (.aload_n 0, 1) := by decide +kernel
theorem d_M_heat_1 : decode c_M_heat 1 = .ok (.aload_n 0, 1) := by decide +kernel
theorem d_M_heat_2 : decode c_M_heat 2 = .ok (.getfield 64, 3) := by decide +kernel
theorem d_M_heat_5 : decode c_M_heat 5 = .ok (.ifCond .ne 7, 3) := by decide +kernel
theorem d_M_heat_8 : decode c_M_heat 8 = .ok (.iconst 1, 1) := by decide +kernel
theorem d_M_heat_9 : decode c_M_heat 9 = .ok (.goto 4, 3) := by decide +kernel
theorem d_M_heat_12 : decode c_M_heat 12 = .ok (.iconst 0, 1) := by decide +kernel
theorem d_M_heat_13 : decode c_M_heat 13 = .ok (.iload_n 1, 1) := by decide +kernel
theorem d_M_heat_14 : decode c_M_heat 14 = .ok (.iconst 1, 1) := by decide +kernel
theorem d_M_heat_15 : decode c_M_heat 15 = .ok (.ldc 67, 2) := by decide +kernel
theorem d_M_heat_17 : decode c_M_heat 17 = .ok (.invokestatic 57, 3) := by decide +kernel
theorem d_M_heat_20 : decode c_M_heat 20 = .ok (.invokevirtual 68, 3) := by decide +kernel
theorem d_M_heat_23 : decode c_M_heat 23 = .ok (.ifCond .ne 4, 3) := by decide +kernel
theorem d_M_heat_26 : decode c_M_heat 26 = .ok (.return_, 1) := by decide +kernel
theorem d_M_heat_27 : decode c_M_heat 27 = .ok (.aload_n 0, 1) := by decide +kernel
theorem d_M_heat_28 : decode c_M_heat 28 = .ok (.iload_n 1, 1) := by decide +kernel
theorem d_M_heat_29 : decode c_M_heat 29 = .ok (.putfield 7, 3) := by decide +kernel
theorem d_M_heat_32 : decode c_M_heat 32 = .ok (.aload_n 0, 1) := by decide +kernel
theorem d_M_heat_33 : decode c_M_heat 33 = .ok (.iconst 0, 1) := by decide +kernel
theorem d_M_heat_34 : decode c_M_heat 34 = .ok (.putfield 72, 3) := by decide +kernel
theorem d_M_heat_37 : decode c_M_heat 37 = .ok (.return_, 1) := by decide +kernel
theorem d_M_present_0 : decode c_M_present 0 = .ok (.aload_n 0, 1) := by decide +kernel
theorem d_M_present_1 : decode c_M_present 1 = .ok (.iload_n 1, 1) := by decide +kernel
theorem d_M_present_2 : decode c_M_present 2 = .ok (.invokestatic 76, 3) := by decide +kernel
theorem d_M_present_5 : decode c_M_present 5 = .ok (.iload_n 2, 1) := by decide +kernel
theorem d_M_present_6 : decode c_M_present 6 = .ok (.iload_n 3, 1) := by decide +kernel
theorem d_M_present_7 : decode c_M_present 7 = .ok (.invokestatic 80, 3) := by decide +kernel
theorem d_M_present_10 : decode c_M_present 10 = .ok (.invokevirtual 68, 3) := by decide +kernel
theorem d_M_present_13 : decode c_M_present 13 = .ok (.ifCond .ne 4, 3) := by decide +kernel
theorem d_M_present_16 : decode c_M_present 16 = .ok (.return_, 1) := by decide +kernel
theorem d_M_present_17 : decode c_M_present 17 = .ok (.aload_n 0, 1) := by decide +kernel
theorem d_M_present_18 : decode c_M_present 18 = .ok (.getfield 13, 3) := by decide +kernel
theorem d_M_present_21 : decode c_M_present 21 = .ok (.iload_n 1, 1) := by decide +kernel
theorem d_M_present_22 : decode c_M_present 22 = .ok (.iload_n 2, 1) := by decide +kernel
theorem d_M_present_23 : decode c_M_present 23 = .ok (.iastore, 1) := by decide +kernel
theorem d_M_present_24 : decode c_M_present 24 = .ok (.aload_n 0, 1) := by decide +kernel
theorem d_M_present_25 : decode c_M_present 25 = .ok (.getfield 17, 3) := by decide +kernel
theorem d_M_present_28 : decode c_M_present 28 = .ok (.iload_n 1, 1) := by decide +kernel
theorem d_M_present_29 : decode c_M_present 29 = .ok (.iload_n 3, 1) := by decide +kernel
theorem d_M_present_30 : decode c_M_present 30 = .ok (.iastore, 1) := by decide +kernel
theorem d_M_present_31 : decode c_M_present 31 = .ok (.aload_n 0, 1) := by decide +kernel
theorem d_M_present_32 : decode c_M_present 32 = .ok (.iconst 0, 1) := by decide +kernel
theorem d_M_present_33 : decode c_M_present 33 = .ok (.putfield 72, 3) := by decide +kernel
theorem d_M_present_36 : decode c_M_present 36 = .ok (.return_, 1) := by decide +kernel
theorem d_M_aim_0 : decode c_M_aim 0 = .ok (.aload_n 0, 1) := by decide +kernel
theorem d_M_aim_1 : decode c_M_aim 1 = .ok (.iload_n 1, 1) := by decide +kernel
theorem d_M_aim_2 : decode c_M_aim 2 = .ok (.invokestatic 76, 3) := by decide +kernel
theorem d_M_aim_5 : decode c_M_aim 5 = .ok (.iload_n 2, 1) := by decide +kernel
theorem d_M_aim_6 : decode c_M_aim 6 = .ok (.iload_n 3, 1) := by decide +kernel
theorem d_M_aim_7 : decode c_M_aim 7 = .ok (.invokestatic 80, 3) := by decide +kernel
theorem d_M_aim_10 : decode c_M_aim 10 = .ok (.invokevirtual 68, 3) := by decide +kernel
theorem d_M_aim_13 : decode c_M_aim 13 = .ok (.ifCond .ne 4, 3) := by decide +kernel
theorem d_M_aim_16 : decode c_M_aim 16 = .ok (.return_, 1) := by decide +kernel
theorem d_M_aim_17 : decode c_M_aim 17 = .ok (.aload_n 0, 1) := by decide +kernel
theorem d_M_aim_18 : decode c_M_aim 18 = .ok (.getfield 20, 3) := by decide +kernel
theorem d_M_aim_21 : decode c_M_aim 21 = .ok (.iload_n 1, 1) := by decide +kernel
theorem d_M_aim_22 : decode c_M_aim 22 = .ok (.iload_n 2, 1) := by decide +kernel
theorem d_M_aim_23 : decode c_M_aim 23 = .ok (.iastore, 1) := by decide +kernel
theorem d_M_aim_24 : decode c_M_aim 24 = .ok (.aload_n 0, 1) := by decide +kernel
theorem d_M_aim_25 : decode c_M_aim 25 = .ok (.getfield 23, 3) := by decide +kernel
theorem d_M_aim_28 : decode c_M_aim 28 = .ok (.iload_n 1, 1) := by decide +kernel
theorem d_M_aim_29 : decode c_M_aim 29 = .ok (.iload_n 3, 1) := by decide +kernel
theorem d_M_aim_30 : decode c_M_aim 30 = .ok (.iastore, 1) := by decide +kernel
theorem d_M_aim_31 : decode c_M_aim 31 = .ok (.aload_n 0, 1) := by decide +kernel
theorem d_M_aim_32 : decode c_M_aim 32 = .ok (.iconst 0, 1) := by decide +kernel
theorem d_M_aim_33 : decode c_M_aim 33 = .ok (.putfield 72, 3) := by decide +kernel
theorem d_M_aim_36 : decode c_M_aim 36 = .ok (.return_, 1) := by decide +kernel
theorem d_M_kind_0 : decode c_M_kind 0 = .ok (.aload_n 0, 1) := by decide +kernel
theorem d_M_kind_1 : decode c_M_kind 1 = .ok (.iload_n 1, 1) := by decide +kernel
theorem d_M_kind_2 : decode c_M_kind 2 = .ok (.iconst 0, 1) := by decide +kernel
theorem d_M_kind_3 : decode c_M_kind 3 = .ok (.ldc 53, 2) := by decide +kernel
theorem d_M_kind_5 : decode c_M_kind 5 = .ok (.invokestatic 57, 3) := by decide +kernel
theorem d_M_kind_8 : decode c_M_kind 8 = .ok (.ifCond .eq 28, 3) := by decide +kernel
theorem d_M_kind_11 : decode c_M_kind 11 = .ok (.iload_n 2, 1) := by decide +kernel
theorem d_M_kind_12 : decode c_M_kind 12 = .ok (.iconst 1, 1) := by decide +kernel
theorem d_M_kind_13 : decode c_M_kind 13 = .ok (.sipush 1000, 3) := by decide +kernel
theorem d_M_kind_16 : decode c_M_kind 16 = .ok (.invokestatic 57, 3) := by decide +kernel
theorem d_M_kind_19 : decode c_M_kind 19 = .ok (.ifCond .eq 17, 3) := by decide +kernel
theorem d_M_kind_22 : decode c_M_kind 22 = .ok (.iload_n 3, 1) := by decide +kernel
theorem d_M_kind_23 : decode c_M_kind 23 = .ok (.iconst 0, 1) := by decide +kernel
theorem d_M_kind_24 : decode c_M_kind 24 = .ok (.bipush 12, 2) := by decide +kernel
theorem d_M_kind_26 : decode c_M_kind 26 = .ok (.invokestatic 57, 3) := by decide +kernel
theorem d_M_kind_29 : decode c_M_kind 29 = .ok (.ifCond .eq 7, 3) := by decide +kernel
theorem d_M_kind_32 : decode c_M_kind 32 = .ok (.iconst 1, 1) := by decide +kernel
theorem d_M_kind_33 : decode c_M_kind 33 = .ok (.goto 4, 3) := by decide +kernel
theorem d_M_kind_36 : decode c_M_kind 36 = .ok (.iconst 0, 1) := by decide +kernel
theorem d_M_kind_37 : decode c_M_kind 37 = .ok (.aload_n 0, 1) := by decide +kernel
theorem d_M_kind_38 : decode c_M_kind 38 = .ok (.getfield 61, 3) := by decide +kernel
theorem d_M_kind_41 : decode c_M_kind 41 = .ok (.iconst 4, 1) := by decide +kernel
theorem d_M_kind_42 : decode c_M_kind 42 = .ok (.if_icmp .ge 7, 3) := by decide +kernel
theorem d_M_kind_45 : decode c_M_kind 45 = .ok (.iconst 1, 1) := by decide +kernel
theorem d_M_kind_46 : decode c_M_kind 46 = .ok (.goto 4, 3) := by decide +kernel
theorem d_M_kind_49 : decode c_M_kind 49 = .ok (.iconst 0, 1) := by decide +kernel
theorem d_M_kind_50 : decode c_M_kind 50 = .ok (.invokevirtual 68, 3) := by decide +kernel
theorem d_M_kind_53 : decode c_M_kind 53 = .ok (.ifCond .ne 5, 3) := by decide +kernel
theorem d_M_kind_56 : decode c_M_kind 56 = .ok (.iconst 0, 1) := by decide +kernel
theorem d_M_kind_57 : decode c_M_kind 57 = .ok (.ireturn, 1) := by decide +kernel
theorem d_M_kind_58 : decode c_M_kind 58 = .ok (.aload_n 0, 1) := by decide +kernel
theorem d_M_kind_59 : decode c_M_kind 59 = .ok (.getfield 26, 3) := by decide +kernel
theorem d_M_kind_62 : decode c_M_kind 62 = .ok (.aload_n 0, 1) := by decide +kernel
theorem d_M_kind_63 : decode c_M_kind 63 = .ok (.getfield 61, 3) := by decide +kernel
theorem d_M_kind_66 : decode c_M_kind 66 = .ok (.iload_n 1, 1) := by decide +kernel
theorem d_M_kind_67 : decode c_M_kind 67 = .ok (.iastore, 1) := by decide +kernel
theorem d_M_kind_68 : decode c_M_kind 68 = .ok (.aload_n 0, 1) := by decide +kernel
theorem d_M_kind_69 : decode c_M_kind 69 = .ok (.getfield 29, 3) := by decide +kernel
theorem d_M_kind_72 : decode c_M_kind 72 = .ok (.aload_n 0, 1) := by decide +kernel
theorem d_M_kind_73 : decode c_M_kind 73 = .ok (.getfield 61, 3) := by decide +kernel
theorem d_M_kind_76 : decode c_M_kind 76 = .ok (.iload_n 2, 1) := by decide +kernel
theorem d_M_kind_77 : decode c_M_kind 77 = .ok (.iastore, 1) := by decide +kernel
theorem d_M_kind_78 : decode c_M_kind 78 = .ok (.aload_n 0, 1) := by decide +kernel
theorem d_M_kind_79 : decode c_M_kind 79 = .ok (.getfield 32, 3) := by decide +kernel
theorem d_M_kind_82 : decode c_M_kind 82 = .ok (.aload_n 0, 1) := by decide +kernel
theorem d_M_kind_83 : decode c_M_kind 83 = .ok (.getfield 61, 3) := by decide +kernel
theorem d_M_kind_86 : decode c_M_kind 86 = .ok (.iload_n 3, 1) := by decide +kernel
theorem d_M_kind_87 : decode c_M_kind 87 = .ok (.iastore, 1) := by decide +kernel
theorem d_M_kind_88 : decode c_M_kind 88 = .ok (.aload_n 0, 1) := by decide +kernel
theorem d_M_kind_89 : decode c_M_kind 89 = .ok (.getfield 41, 3) := by decide +kernel
theorem d_M_kind_92 : decode c_M_kind 92 = .ok (.aload_n 0, 1) := by decide +kernel
theorem d_M_kind_93 : decode c_M_kind 93 = .ok (.getfield 61, 3) := by decide +kernel
theorem d_M_kind_96 : decode c_M_kind 96 = .ok (.sipush 1000, 3) := by decide +kernel
theorem d_M_kind_99 : decode c_M_kind 99 = .ok (.iastore, 1) := by decide +kernel
theorem d_M_kind_100 : decode c_M_kind 100 = .ok (.aload_n 0, 1) := by decide +kernel
theorem d_M_kind_101 : decode c_M_kind 101 = .ok (.iconst 0, 1) := by decide +kernel
theorem d_M_kind_102 : decode c_M_kind 102 = .ok (.putfield 72, 3) := by decide +kernel
theorem d_M_kind_105 : decode c_M_kind 105 = .ok (.aload_n 0, 1) := by decide +kernel
theorem d_M_kind_106 : decode c_M_kind 106 = .ok (.dup, 1) := by decide +kernel
theorem d_M_kind_107 : decode c_M_kind 107 = .ok (.getfield 61, 3) := by decide +kernel
theorem d_M_kind_110 : decode c_M_kind 110 = .ok (.iconst 1, 1) := by decide +kernel
theorem d_M_kind_111 : decode c_M_kind 111 = .ok (.iadd, 1) := by decide +kernel
theorem d_M_kind_112 : decode c_M_kind 112 = .ok (.putfield 61, 3) := by decide +kernel
theorem d_M_kind_115 : decode c_M_kind 115 = .ok (.aload_n 0, 1) := by decide +kernel
theorem d_M_kind_116 : decode c_M_kind 116 = .ok (.getfield 61, 3) := by decide +kernel
theorem d_M_kind_119 : decode c_M_kind 119 = .ok (.iconst 1, 1) := by decide +kernel
theorem d_M_kind_120 : decode c_M_kind 120 = .ok (.isub, 1) := by decide +kernel
theorem d_M_kind_121 : decode c_M_kind 121 = .ok (.ireturn, 1) := by decide +kernel
theorem d_M_holds_0 : decode c_M_holds 0 = .ok (.aload_n 0, 1) := by decide +kernel
theorem d_M_holds_1 : decode c_M_holds 1 = .ok (.aload_n 0, 1) := by decide +kernel
theorem d_M_holds_2 : decode c_M_holds 2 = .ok (.iload_n 1, 1) := by decide +kernel
theorem d_M_holds_3 : decode c_M_holds 3 = .ok (.invokevirtual 84, 3) := by decide +kernel
theorem d_M_holds_6 : decode c_M_holds 6 = .ok (.ifCond .eq 14, 3) := by decide +kernel
theorem d_M_holds_9 : decode c_M_holds 9 = .ok (.iload_n 2, 1) := by decide +kernel
theorem d_M_holds_10 : decode c_M_holds 10 = .ok (.invokestatic 76, 3) := by decide +kernel
theorem d_M_holds_13 : decode c_M_holds 13 = .ok (.ifCond .eq 7, 3) := by decide +kernel
theorem d_M_holds_16 : decode c_M_holds 16 = .ok (.iconst 1, 1) := by decide +kernel
theorem d_M_holds_17 : decode c_M_holds 17 = .ok (.goto 4, 3) := by decide +kernel
theorem d_M_holds_20 : decode c_M_holds 20 = .ok (.iconst 0, 1) := by decide +kernel
theorem d_M_holds_21 : decode c_M_holds 21 = .ok (.iload_n 3, 1) := by decide +kernel
theorem d_M_holds_22 : decode c_M_holds 22 = .ok (.iload 4, 2) := by decide +kernel
theorem d_M_holds_24 : decode c_M_holds 24 = .ok (.invokestatic 80, 3) := by decide +kernel
theorem d_M_holds_27 : decode c_M_holds 27 = .ok (.invokevirtual 68, 3) := by decide +kernel
theorem d_M_holds_30 : decode c_M_holds 30 = .ok (.ifCond .ne 4, 3) := by decide +kernel
theorem d_M_holds_33 : decode c_M_holds 33 = .ok (.return_, 1) := by decide +kernel
theorem d_M_holds_34 : decode c_M_holds 34 = .ok (.aload_n 0, 1) := by decide +kernel
theorem d_M_holds_35 : decode c_M_holds 35 = .ok (.getfield 35, 3) := by decide +kernel
theorem d_M_holds_38 : decode c_M_holds 38 = .ok (.iconst 4, 1) := by decide +kernel
theorem d_M_holds_39 : decode c_M_holds 39 = .ok (.iload_n 1, 1) := by decide +kernel
theorem d_M_holds_40 : decode c_M_holds 40 = .ok (.imul, 1) := by decide +kernel
theorem d_M_holds_41 : decode c_M_holds 41 = .ok (.iload_n 2, 1) := by decide +kernel
theorem d_M_holds_42 : decode c_M_holds 42 = .ok (.iadd, 1) := by decide +kernel
theorem d_M_holds_43 : decode c_M_holds 43 = .ok (.iload_n 3, 1) := by decide +kernel
theorem d_M_holds_44 : decode c_M_holds 44 = .ok (.iastore, 1) := by decide +kernel
theorem d_M_holds_45 : decode c_M_holds 45 = .ok (.aload_n 0, 1) := by decide +kernel
theorem d_M_holds_46 : decode c_M_holds 46 = .ok (.getfield 38, 3) := by decide +kernel
theorem d_M_holds_49 : decode c_M_holds 49 = .ok (.iconst 4, 1) := by decide +kernel
theorem d_M_holds_50 : decode c_M_holds 50 = .ok (.iload_n 1, 1) := by decide +kernel
theorem d_M_holds_51 : decode c_M_holds 51 = .ok (.imul, 1) := by decide +kernel
theorem d_M_holds_52 : decode c_M_holds 52 = .ok (.iload_n 2, 1) := by decide +kernel
theorem d_M_holds_53 : decode c_M_holds 53 = .ok (.iadd, 1) := by decide +kernel
theorem d_M_holds_54 : decode c_M_holds 54 = .ok (.iload 4, 2) := by decide +kernel
theorem d_M_holds_56 : decode c_M_holds 56 = .ok (.iastore, 1) := by decide +kernel
theorem d_M_holds_57 : decode c_M_holds 57 = .ok (.aload_n 0, 1) := by decide +kernel
theorem d_M_holds_58 : decode c_M_holds 58 = .ok (.iconst 0, 1) := by decide +kernel
theorem d_M_holds_59 : decode c_M_holds 59 = .ok (.putfield 72, 3) := by decide +kernel
theorem d_M_holds_62 : decode c_M_holds 62 = .ok (.return_, 1) := by decide +kernel
theorem d_M_yields_0 : decode c_M_yields 0 = .ok (.aload_n 0, 1) := by decide +kernel
theorem d_M_yields_1 : decode c_M_yields 1 = .ok (.aload_n 0, 1) := by decide +kernel
theorem d_M_yields_2 : decode c_M_yields 2 = .ok (.iload_n 1, 1) := by decide +kernel
theorem d_M_yields_3 : decode c_M_yields 3 = .ok (.invokevirtual 84, 3) := by decide +kernel
theorem d_M_yields_6 : decode c_M_yields 6 = .ok (.iload_n 2, 1) := by decide +kernel
theorem d_M_yields_7 : decode c_M_yields 7 = .ok (.iconst 0, 1) := by decide +kernel
theorem d_M_yields_8 : decode c_M_yields 8 = .ok (.sipush 1000, 3) := by decide +kernel
theorem d_M_yields_11 : decode c_M_yields 11 = .ok (.invokestatic 57, 3) := by decide +kernel
theorem d_M_yields_14 : decode c_M_yields 14 = .ok (.ifCond .eq 18, 3) := by decide +kernel
theorem d_M_yields_17 : decode c_M_yields 17 = .ok (.iload_n 3, 1) := by decide +kernel
theorem d_M_yields_18 : decode c_M_yields 18 = .ok (.iconst 0, 1) := by decide +kernel
theorem d_M_yields_19 : decode c_M_yields 19 = .ok (.sipush 1000, 3) := by decide +kernel
theorem d_M_yields_22 : decode c_M_yields 22 = .ok (.invokestatic 57, 3) := by decide +kernel
theorem d_M_yields_25 : decode c_M_yields 25 = .ok (.ifCond .eq 7, 3) := by decide +kernel
theorem d_M_yields_28 : decode c_M_yields 28 = .ok (.iconst 1, 1) := by decide +kernel
theorem d_M_yields_29 : decode c_M_yields 29 = .ok (.goto 4, 3) := by decide +kernel
theorem d_M_yields_32 : decode c_M_yields 32 = .ok (.iconst 0, 1) := by decide +kernel
theorem d_M_yields_33 : decode c_M_yields 33 = .ok (.invokevirtual 68, 3) := by decide +kernel
theorem d_M_yields_36 : decode c_M_yields 36 = .ok (.ifCond .ne 4, 3) := by decide +kernel
theorem d_M_yields_39 : decode c_M_yields 39 = .ok (.return_, 1) := by decide +kernel
theorem d_M_yields_40 : decode c_M_yields 40 = .ok (.aload_n 0, 1) := by decide +kernel
theorem d_M_yields_41 : decode c_M_yields 41 = .ok (.getfield 41, 3) := by decide +kernel
theorem d_M_yields_44 : decode c_M_yields 44 = .ok (.iload_n 1, 1) := by decide +kernel
theorem d_M_yields_45 : decode c_M_yields 45 = .ok (.iload_n 2, 1) := by decide +kernel
theorem d_M_yields_46 : decode c_M_yields 46 = .ok (.iastore, 1) := by decide +kernel
theorem d_M_yields_47 : decode c_M_yields 47 = .ok (.aload_n 0, 1) := by decide +kernel
theorem d_M_yields_48 : decode c_M_yields 48 = .ok (.getfield 44, 3) := by decide +kernel
theorem d_M_yields_51 : decode c_M_yields 51 = .ok (.iload_n 1, 1) := by decide +kernel
theorem d_M_yields_52 : decode c_M_yields 52 = .ok (.iload_n 3, 1) := by decide +kernel
theorem d_M_yields_53 : decode c_M_yields 53 = .ok (.iastore, 1) := by decide +kernel
theorem d_M_yields_54 : decode c_M_yields 54 = .ok (.aload_n 0, 1) := by decide +kernel
theorem d_M_yields_55 : decode c_M_yields 55 = .ok (.iconst 0, 1) := by decide +kernel
theorem d_M_yields_56 : decode c_M_yields 56 = .ok (.putfield 72, 3) := by decide +kernel
theorem d_M_yields_59 : decode c_M_yields 59 = .ok (.return_, 1) := by decide +kernel
theorem d_M_weight_0 : decode c_M_weight 0 = .ok (.iconst 0, 1) := by decide +kernel
theorem d_M_weight_1 : decode c_M_weight 1 = .ok (.istore_n 1, 1) := by decide +kernel
theorem d_M_weight_2 : decode c_M_weight 2 = .ok (.iconst 0, 1) := by decide +kernel
theorem d_M_weight_3 : decode c_M_weight 3 = .ok (.istore_n 2, 1) := by decide +kernel
theorem d_M_weight_4 : decode c_M_weight 4 = .ok (.iload_n 2, 1) := by decide +kernel
theorem d_M_weight_5 : decode c_M_weight 5 = .ok (.aload_n 0, 1) := by decide +kernel
theorem d_M_weight_6 : decode c_M_weight 6 = .ok (.getfield 61, 3) := by decide +kernel
theorem d_M_weight_9 : decode c_M_weight 9 = .ok (.if_icmp .ge 25, 3) := by decide +kernel
theorem d_M_weight_12 : decode c_M_weight 12 = .ok (.iload_n 1, 1) := by decide +kernel
theorem d_M_weight_13 : decode c_M_weight 13 = .ok (.aload_n 0, 1) := by decide +kernel
theorem d_M_weight_14 : decode c_M_weight 14 = .ok (.getfield 50, 3) := by decide +kernel
theorem d_M_weight_17 : decode c_M_weight 17 = .ok (.iload_n 2, 1) := by decide +kernel
theorem d_M_weight_18 : decode c_M_weight 18 = .ok (.iaload, 1) := by decide +kernel
theorem d_M_weight_19 : decode c_M_weight 19 = .ok (.aload_n 0, 1) := by decide +kernel
theorem d_M_weight_20 : decode c_M_weight 20 = .ok (.getfield 29, 3) := by decide +kernel
theorem d_M_weight_23 : decode c_M_weight 23 = .ok (.iload_n 2, 1) := by decide +kernel
theorem d_M_weight_24 : decode c_M_weight 24 = .ok (.iaload, 1) := by decide +kernel
theorem d_M_weight_25 : decode c_M_weight 25 = .ok (.imul, 1) := by decide +kernel
theorem d_M_weight_26 : decode c_M_weight 26 = .ok (.iadd, 1) := by decide +kernel
theorem d_M_weight_27 : decode c_M_weight 27 = .ok (.istore_n 1, 1) := by decide +kernel
theorem d_M_weight_28 : decode c_M_weight 28 = .ok (.iinc 2 1, 3) := by decide +kernel
theorem d_M_weight_31 : decode c_M_weight 31 = .ok (.goto (-27), 3) := by decide +kernel
theorem d_M_weight_34 : decode c_M_weight 34 = .ok (.iload_n 1, 1) := by decide +kernel
theorem d_M_weight_35 : decode c_M_weight 35 = .ok (.ireturn, 1) := by decide +kernel
theorem d_M_cost_0 : decode c_M_cost 0 = .ok (.iconst 0, 1) := by decide +kernel
theorem d_M_cost_1 : decode c_M_cost 1 = .ok (.istore_n 1, 1) := by decide +kernel
theorem d_M_cost_2 : decode c_M_cost 2 = .ok (.iconst 0, 1) := by decide +kernel
theorem d_M_cost_3 : decode c_M_cost 3 = .ok (.istore_n 2, 1) := by decide +kernel
theorem d_M_cost_4 : decode c_M_cost 4 = .ok (.iload_n 2, 1) := by decide +kernel
theorem d_M_cost_5 : decode c_M_cost 5 = .ok (.aload_n 0, 1) := by decide +kernel
theorem d_M_cost_6 : decode c_M_cost 6 = .ok (.getfield 61, 3) := by decide +kernel
theorem d_M_cost_9 : decode c_M_cost 9 = .ok (.if_icmp .ge 25, 3) := by decide +kernel
theorem d_M_cost_12 : decode c_M_cost 12 = .ok (.iload_n 1, 1) := by decide +kernel
theorem d_M_cost_13 : decode c_M_cost 13 = .ok (.aload_n 0, 1) := by decide +kernel
theorem d_M_cost_14 : decode c_M_cost 14 = .ok (.getfield 50, 3) := by decide +kernel
theorem d_M_cost_17 : decode c_M_cost 17 = .ok (.iload_n 2, 1) := by decide +kernel
theorem d_M_cost_18 : decode c_M_cost 18 = .ok (.iaload, 1) := by decide +kernel
theorem d_M_cost_19 : decode c_M_cost 19 = .ok (.aload_n 0, 1) := by decide +kernel
theorem d_M_cost_20 : decode c_M_cost 20 = .ok (.getfield 26, 3) := by decide +kernel
theorem d_M_cost_23 : decode c_M_cost 23 = .ok (.iload_n 2, 1) := by decide +kernel
theorem d_M_cost_24 : decode c_M_cost 24 = .ok (.iaload, 1) := by decide +kernel
theorem d_M_cost_25 : decode c_M_cost 25 = .ok (.imul, 1) := by decide +kernel
theorem d_M_cost_26 : decode c_M_cost 26 = .ok (.iadd, 1) := by decide +kernel
theorem d_M_cost_27 : decode c_M_cost 27 = .ok (.istore_n 1, 1) := by decide +kernel
theorem d_M_cost_28 : decode c_M_cost 28 = .ok (.iinc 2 1, 3) := by decide +kernel
theorem d_M_cost_31 : decode c_M_cost 31 = .ok (.goto (-27), 3) := by decide +kernel
theorem d_M_cost_34 : decode c_M_cost 34 = .ok (.iload_n 1, 1) := by decide +kernel
theorem d_M_cost_35 : decode c_M_cost 35 = .ok (.ireturn, 1) := by decide +kernel
theorem d_M_used_0 : decode c_M_used 0 = .ok (.iconst 0, 1) := by decide +kernel
theorem d_M_used_1 : decode c_M_used 1 = .ok (.istore_n 1, 1) := by decide +kernel
theorem d_M_used_2 : decode c_M_used 2 = .ok (.iconst 0, 1) := by decide +kernel
theorem d_M_used_3 : decode c_M_used 3 = .ok (.istore_n 2, 1) := by decide +kernel
theorem d_M_used_4 : decode c_M_used 4 = .ok (.iload_n 2, 1) := by decide +kernel
theorem d_M_used_5 : decode c_M_used 5 = .ok (.aload_n 0, 1) := by decide +kernel
theorem d_M_used_6 : decode c_M_used 6 = .ok (.getfield 61, 3) := by decide +kernel
theorem d_M_used_9 : decode c_M_used 9 = .ok (.if_icmp .ge 21, 3) := by decide +kernel
theorem d_M_used_12 : decode c_M_used 12 = .ok (.aload_n 0, 1) := by decide +kernel
theorem d_M_used_13 : decode c_M_used 13 = .ok (.getfield 50, 3) := by decide +kernel
theorem d_M_used_16 : decode c_M_used 16 = .ok (.iload_n 2, 1) := by decide +kernel
theorem d_M_used_17 : decode c_M_used 17 = .ok (.iaload, 1) := by decide +kernel
theorem d_M_used_18 : decode c_M_used 18 = .ok (.ifCond .le 6, 3) := by decide +kernel
theorem d_M_used_21 : decode c_M_used 21 = .ok (.iinc 1 1, 3) := by decide +kernel
theorem d_M_used_24 : decode c_M_used 24 = .ok (.iinc 2 1, 3) := by decide +kernel
theorem d_M_used_27 : decode c_M_used 27 = .ok (.goto (-23), 3) := by decide +kernel
theorem d_M_used_30 : decode c_M_used 30 = .ok (.iload_n 1, 1) := by decide +kernel
theorem d_M_used_31 : decode c_M_used 31 = .ok (.ireturn, 1) := by decide +kernel
theorem d_M_cooling_0 : decode c_M_cooling 0 = .ok (.iconst 0, 1) := by decide +kernel
theorem d_M_cooling_1 : decode c_M_cooling 1 = .ok (.istore_n 1, 1) := by decide +kernel
theorem d_M_cooling_2 : decode c_M_cooling 2 = .ok (.iconst 0, 1) := by decide +kernel
theorem d_M_cooling_3 : decode c_M_cooling 3 = .ok (.istore_n 2, 1) := by decide +kernel
theorem d_M_cooling_4 : decode c_M_cooling 4 = .ok (.iload_n 2, 1) := by decide +kernel
theorem d_M_cooling_5 : decode c_M_cooling 5 = .ok (.aload_n 0, 1) := by decide +kernel
theorem d_M_cooling_6 : decode c_M_cooling 6 = .ok (.getfield 61, 3) := by decide +kernel
theorem d_M_cooling_9 : decode c_M_cooling 9 = .ok (.if_icmp .ge 32, 3) := by decide +kernel
theorem d_M_cooling_12 : decode c_M_cooling 12 = .ok (.iload_n 1, 1) := by decide +kernel
theorem d_M_cooling_13 : decode c_M_cooling 13 = .ok (.aload_n 0, 1) := by decide +kernel
theorem d_M_cooling_14 : decode c_M_cooling 14 = .ok (.getfield 50, 3) := by decide +kernel
theorem d_M_cooling_17 : decode c_M_cooling 17 = .ok (.iload_n 2, 1) := by decide +kernel
theorem d_M_cooling_18 : decode c_M_cooling 18 = .ok (.iaload, 1) := by decide +kernel
theorem d_M_cooling_19 : decode c_M_cooling 19 = .ok (.aload_n 0, 1) := by decide +kernel
theorem d_M_cooling_20 : decode c_M_cooling 20 = .ok (.getfield 29, 3) := by decide +kernel
theorem d_M_cooling_23 : decode c_M_cooling 23 = .ok (.iload_n 2, 1) := by decide +kernel
theorem d_M_cooling_24 : decode c_M_cooling 24 = .ok (.iaload, 1) := by decide +kernel
theorem d_M_cooling_25 : decode c_M_cooling 25 = .ok (.imul, 1) := by decide +kernel
theorem d_M_cooling_26 : decode c_M_cooling 26 = .ok (.aload_n 0, 1) := by decide +kernel
theorem d_M_cooling_27 : decode c_M_cooling 27 = .ok (.getfield 44, 3) := by decide +kernel
theorem d_M_cooling_30 : decode c_M_cooling 30 = .ok (.iload_n 2, 1) := by decide +kernel
theorem d_M_cooling_31 : decode c_M_cooling 31 = .ok (.iaload, 1) := by decide +kernel
theorem d_M_cooling_32 : decode c_M_cooling 32 = .ok (.imul, 1) := by decide +kernel
theorem d_M_cooling_33 : decode c_M_cooling 33 = .ok (.iadd, 1) := by decide +kernel
theorem d_M_cooling_34 : decode c_M_cooling 34 = .ok (.istore_n 1, 1) := by decide +kernel
theorem d_M_cooling_35 : decode c_M_cooling 35 = .ok (.iinc 2 1, 3) := by decide +kernel
theorem d_M_cooling_38 : decode c_M_cooling 38 = .ok (.goto (-34), 3) := by decide +kernel
theorem d_M_cooling_41 : decode c_M_cooling 41 = .ok (.iload_n 1, 1) := by decide +kernel
theorem d_M_cooling_42 : decode c_M_cooling 42 = .ok (.ireturn, 1) := by decide +kernel
theorem d_M_amount_0 : decode c_M_amount 0 = .ok (.ldc2_w 87, 3) := by decide +kernel
theorem d_M_amount_3 : decode c_M_amount 3 = .ok (.aload_n 0, 1) := by decide +kernel
theorem d_M_amount_4 : decode c_M_amount 4 = .ok (.getfield 7, 3) := by decide +kernel
theorem d_M_amount_7 : decode c_M_amount 7 = .ok (.i2l, 1) := by decide +kernel
theorem d_M_amount_8 : decode c_M_amount 8 = .ok (.lmul, 1) := by decide +kernel
theorem d_M_amount_9 : decode c_M_amount 9 = .ok (.iload_n 2, 1) := by decide +kernel
theorem d_M_amount_10 : decode c_M_amount 10 = .ok (.ifCond .ne 12, 3) := by decide +kernel
theorem d_M_amount_13 : decode c_M_amount 13 = .ok (.aload_n 0, 1) := by decide +kernel
theorem d_M_amount_14 : decode c_M_amount 14 = .ok (.getfield 13, 3) := by decide +kernel
theorem d_M_amount_17 : decode c_M_amount 17 = .ok (.iload_n 1, 1) := by decide +kernel
theorem d_M_amount_18 : decode c_M_amount 18 = .ok (.iaload, 1) := by decide +kernel
theorem d_M_amount_19 : decode c_M_amount 19 = .ok (.goto 9, 3) := by decide +kernel
theorem d_M_amount_22 : decode c_M_amount 22 = .ok (.aload_n 0, 1) := by decide +kernel
theorem d_M_amount_23 : decode c_M_amount 23 = .ok (.getfield 17, 3) := by decide +kernel
theorem d_M_amount_26 : decode c_M_amount 26 = .ok (.iload_n 1, 1) := by decide +kernel
theorem d_M_amount_27 : decode c_M_amount 27 = .ok (.iaload, 1) := by decide +kernel
theorem d_M_amount_28 : decode c_M_amount 28 = .ok (.i2l, 1) := by decide +kernel
theorem d_M_amount_29 : decode c_M_amount 29 = .ok (.lmul, 1) := by decide +kernel
theorem d_M_amount_30 : decode c_M_amount 30 = .ok (.lstore_n 3, 1) := by decide +kernel
theorem d_M_amount_31 : decode c_M_amount 31 = .ok (.iconst 0, 1) := by decide +kernel
theorem d_M_amount_32 : decode c_M_amount 32 = .ok (.istore 5, 2) := by decide +kernel
theorem d_M_amount_34 : decode c_M_amount 34 = .ok (.iload 5, 2) := by decide +kernel
theorem d_M_amount_36 : decode c_M_amount 36 = .ok (.aload_n 0, 1) := by decide +kernel
theorem d_M_amount_37 : decode c_M_amount 37 = .ok (.getfield 61, 3) := by decide +kernel
theorem d_M_amount_40 : decode c_M_amount 40 = .ok (.if_icmp .ge 69, 3) := by decide +kernel
theorem d_M_amount_43 : decode c_M_amount 43 = .ok (.lload_n 3, 1) := by decide +kernel
theorem d_M_amount_44 : decode c_M_amount 44 = .ok (.aload_n 0, 1) := by decide +kernel
theorem d_M_amount_45 : decode c_M_amount 45 = .ok (.getfield 50, 3) := by decide +kernel
theorem d_M_amount_48 : decode c_M_amount 48 = .ok (.iload 5, 2) := by decide +kernel
theorem d_M_amount_50 : decode c_M_amount 50 = .ok (.iaload, 1) := by decide +kernel
theorem d_M_amount_51 : decode c_M_amount 51 = .ok (.i2l, 1) := by decide +kernel
theorem d_M_amount_52 : decode c_M_amount 52 = .ok (.aload_n 0, 1) := by decide +kernel
theorem d_M_amount_53 : decode c_M_amount 53 = .ok (.getfield 29, 3) := by decide +kernel
theorem d_M_amount_56 : decode c_M_amount 56 = .ok (.iload 5, 2) := by decide +kernel
theorem d_M_amount_58 : decode c_M_amount 58 = .ok (.iaload, 1) := by decide +kernel
theorem d_M_amount_59 : decode c_M_amount 59 = .ok (.i2l, 1) := by decide +kernel
theorem d_M_amount_60 : decode c_M_amount 60 = .ok (.lmul, 1) := by decide +kernel
theorem d_M_amount_61 : decode c_M_amount 61 = .ok (.aload_n 0, 1) := by decide +kernel
theorem d_M_amount_62 : decode c_M_amount 62 = .ok (.getfield 41, 3) := by decide +kernel
theorem d_M_amount_65 : decode c_M_amount 65 = .ok (.iload 5, 2) := by decide +kernel
theorem d_M_amount_67 : decode c_M_amount 67 = .ok (.iaload, 1) := by decide +kernel
theorem d_M_amount_68 : decode c_M_amount 68 = .ok (.i2l, 1) := by decide +kernel
theorem d_M_amount_69 : decode c_M_amount 69 = .ok (.lmul, 1) := by decide +kernel
theorem d_M_amount_70 : decode c_M_amount 70 = .ok (.iload_n 2, 1) := by decide +kernel
theorem d_M_amount_71 : decode c_M_amount 71 = .ok (.ifCond .ne 17, 3) := by decide +kernel
theorem d_M_amount_74 : decode c_M_amount 74 = .ok (.aload_n 0, 1) := by decide +kernel
theorem d_M_amount_75 : decode c_M_amount 75 = .ok (.getfield 35, 3) := by decide +kernel
theorem d_M_amount_78 : decode c_M_amount 78 = .ok (.iconst 4, 1) := by decide +kernel
theorem d_M_amount_79 : decode c_M_amount 79 = .ok (.iload 5, 2) := by decide +kernel
theorem d_M_amount_81 : decode c_M_amount 81 = .ok (.imul, 1) := by decide +kernel
theorem d_M_amount_82 : decode c_M_amount 82 = .ok (.iload_n 1, 1) := by decide +kernel
theorem d_M_amount_83 : decode c_M_amount 83 = .ok (.iadd, 1) := by decide +kernel
theorem d_M_amount_84 : decode c_M_amount 84 = .ok (.iaload, 1) := by decide +kernel
theorem d_M_amount_85 : decode c_M_amount 85 = .ok (.goto 14, 3) := by decide +kernel
theorem d_M_amount_88 : decode c_M_amount 88 = .ok (.aload_n 0, 1) := by decide +kernel
theorem d_M_amount_89 : decode c_M_amount 89 = .ok (.getfield 38, 3) := by decide +kernel
theorem d_M_amount_92 : decode c_M_amount 92 = .ok (.iconst 4, 1) := by decide +kernel
theorem d_M_amount_93 : decode c_M_amount 93 = .ok (.iload 5, 2) := by decide +kernel
theorem d_M_amount_95 : decode c_M_amount 95 = .ok (.imul, 1) := by decide +kernel
theorem d_M_amount_96 : decode c_M_amount 96 = .ok (.iload_n 1, 1) := by decide +kernel
theorem d_M_amount_97 : decode c_M_amount 97 = .ok (.iadd, 1) := by decide +kernel
theorem d_M_amount_98 : decode c_M_amount 98 = .ok (.iaload, 1) := by decide +kernel
theorem d_M_amount_99 : decode c_M_amount 99 = .ok (.i2l, 1) := by decide +kernel
theorem d_M_amount_100 : decode c_M_amount 100 = .ok (.lmul, 1) := by decide +kernel
theorem d_M_amount_101 : decode c_M_amount 101 = .ok (.ladd, 1) := by decide +kernel
theorem d_M_amount_102 : decode c_M_amount 102 = .ok (.lstore_n 3, 1) := by decide +kernel
theorem d_M_amount_103 : decode c_M_amount 103 = .ok (.iinc 5 1, 3) := by decide +kernel
theorem d_M_amount_106 : decode c_M_amount 106 = .ok (.goto (-72), 3) := by decide +kernel
theorem d_M_amount_109 : decode c_M_amount 109 = .ok (.lload_n 3, 1) := by decide +kernel
theorem d_M_amount_110 : decode c_M_amount 110 = .ok (.lreturn, 1) := by decide +kernel
theorem d_M_isMet_0 : decode c_M_isMet 0 = .ok (.ldc2_w 87, 3) := by decide +kernel
theorem d_M_isMet_3 : decode c_M_isMet 3 = .ok (.aload_n 0, 1) := by decide +kernel
theorem d_M_isMet_4 : decode c_M_isMet 4 = .ok (.getfield 7, 3) := by decide +kernel
theorem d_M_isMet_7 : decode c_M_isMet 7 = .ok (.aload_n 0, 1) := by decide +kernel
theorem d_M_isMet_8 : decode c_M_isMet 8 = .ok (.invokevirtual 89, 3) := by decide +kernel
theorem d_M_isMet_11 : decode c_M_isMet 11 = .ok (.iadd, 1) := by decide +kernel
theorem d_M_isMet_12 : decode c_M_isMet 12 = .ok (.i2l, 1) := by decide +kernel
theorem d_M_isMet_13 : decode c_M_isMet 13 = .ok (.lmul, 1) := by decide +kernel
theorem d_M_isMet_14 : decode c_M_isMet 14 = .ok (.lstore_n 2, 1) := by decide +kernel
theorem d_M_isMet_15 : decode c_M_isMet 15 = .ok (.aload_n 0, 1) := by decide +kernel
theorem d_M_isMet_16 : decode c_M_isMet 16 = .ok (.iload_n 1, 1) := by decide +kernel
theorem d_M_isMet_17 : decode c_M_isMet 17 = .ok (.iconst 0, 1) := by decide +kernel
theorem d_M_isMet_18 : decode c_M_isMet 18 = .ok (.invokevirtual 93, 3) := by decide +kernel
theorem d_M_isMet_21 : decode c_M_isMet 21 = .ok (.aload_n 0, 1) := by decide +kernel
theorem d_M_isMet_22 : decode c_M_isMet 22 = .ok (.getfield 20, 3) := by decide +kernel
theorem d_M_isMet_25 : decode c_M_isMet 25 = .ok (.iload_n 1, 1) := by decide +kernel
theorem d_M_isMet_26 : decode c_M_isMet 26 = .ok (.iaload, 1) := by decide +kernel
theorem d_M_isMet_27 : decode c_M_isMet 27 = .ok (.i2l, 1) := by decide +kernel
theorem d_M_isMet_28 : decode c_M_isMet 28 = .ok (.lload_n 2, 1) := by decide +kernel
theorem d_M_isMet_29 : decode c_M_isMet 29 = .ok (.lmul, 1) := by decide +kernel
theorem d_M_isMet_30 : decode c_M_isMet 30 = .ok (.lcmp, 1) := by decide +kernel
theorem d_M_isMet_31 : decode c_M_isMet 31 = .ok (.ifCond .lt 26, 3) := by decide +kernel
theorem d_M_isMet_34 : decode c_M_isMet 34 = .ok (.aload_n 0, 1) := by decide +kernel
theorem d_M_isMet_35 : decode c_M_isMet 35 = .ok (.iload_n 1, 1) := by decide +kernel
theorem d_M_isMet_36 : decode c_M_isMet 36 = .ok (.iconst 1, 1) := by decide +kernel
theorem d_M_isMet_37 : decode c_M_isMet 37 = .ok (.invokevirtual 93, 3) := by decide +kernel
theorem d_M_isMet_40 : decode c_M_isMet 40 = .ok (.aload_n 0, 1) := by decide +kernel
theorem d_M_isMet_41 : decode c_M_isMet 41 = .ok (.getfield 23, 3) := by decide +kernel
theorem d_M_isMet_44 : decode c_M_isMet 44 = .ok (.iload_n 1, 1) := by decide +kernel
theorem d_M_isMet_45 : decode c_M_isMet 45 = .ok (.iaload, 1) := by decide +kernel
theorem d_M_isMet_46 : decode c_M_isMet 46 = .ok (.i2l, 1) := by decide +kernel
theorem d_M_isMet_47 : decode c_M_isMet 47 = .ok (.lload_n 2, 1) := by decide +kernel
theorem d_M_isMet_48 : decode c_M_isMet 48 = .ok (.lmul, 1) := by decide +kernel
theorem d_M_isMet_49 : decode c_M_isMet 49 = .ok (.lcmp, 1) := by decide +kernel
theorem d_M_isMet_50 : decode c_M_isMet 50 = .ok (.ifCond .gt 7, 3) := by decide +kernel
theorem d_M_isMet_53 : decode c_M_isMet 53 = .ok (.iconst 1, 1) := by decide +kernel
theorem d_M_isMet_54 : decode c_M_isMet 54 = .ok (.goto 4, 3) := by decide +kernel
theorem d_M_isMet_57 : decode c_M_isMet 57 = .ok (.iconst 0, 1) := by decide +kernel
theorem d_M_isMet_58 : decode c_M_isMet 58 = .ok (.ireturn, 1) := by decide +kernel
theorem d_M_sets_0 : decode c_M_sets 0 = .ok (.iload_n 1, 1) := by decide +kernel
theorem d_M_sets_1 : decode c_M_sets 1 = .ok (.istore_n 2, 1) := by decide +kernel
theorem d_M_sets_2 : decode c_M_sets 2 = .ok (.iconst 3, 1) := by decide +kernel
theorem d_M_sets_3 : decode c_M_sets 3 = .ok (.istore_n 3, 1) := by decide +kernel
theorem d_M_sets_4 : decode c_M_sets 4 = .ok (.iload_n 3, 1) := by decide +kernel
theorem d_M_sets_5 : decode c_M_sets 5 = .ok (.ifCond .lt 24, 3) := by decide +kernel
theorem d_M_sets_8 : decode c_M_sets 8 = .ok (.aload_n 0, 1) := by decide +kernel
theorem d_M_sets_9 : decode c_M_sets 9 = .ok (.getfield 50, 3) := by decide +kernel
theorem d_M_sets_12 : decode c_M_sets 12 = .ok (.iload_n 3, 1) := by decide +kernel
theorem d_M_sets_13 : decode c_M_sets 13 = .ok (.iload_n 2, 1) := by decide +kernel
theorem d_M_sets_14 : decode c_M_sets 14 = .ok (.bipush 13, 2) := by decide +kernel
theorem d_M_sets_16 : decode c_M_sets 16 = .ok (.irem, 1) := by decide +kernel
theorem d_M_sets_17 : decode c_M_sets 17 = .ok (.iastore, 1) := by decide +kernel
theorem d_M_sets_18 : decode c_M_sets 18 = .ok (.iload_n 2, 1) := by decide +kernel
theorem d_M_sets_19 : decode c_M_sets 19 = .ok (.bipush 13, 2) := by decide +kernel
theorem d_M_sets_21 : decode c_M_sets 21 = .ok (.idiv, 1) := by decide +kernel
theorem d_M_sets_22 : decode c_M_sets 22 = .ok (.istore_n 2, 1) := by decide +kernel
theorem d_M_sets_23 : decode c_M_sets 23 = .ok (.iinc 3 (-1), 3) := by decide +kernel
theorem d_M_sets_26 : decode c_M_sets 26 = .ok (.goto (-22), 3) := by decide +kernel
theorem d_M_sets_29 : decode c_M_sets 29 = .ok (.iconst 0, 1) := by decide +kernel
theorem d_M_sets_30 : decode c_M_sets 30 = .ok (.istore_n 3, 1) := by decide +kernel
theorem d_M_sets_31 : decode c_M_sets 31 = .ok (.iload_n 3, 1) := by decide +kernel
theorem d_M_sets_32 : decode c_M_sets 32 = .ok (.iconst 4, 1) := by decide +kernel
theorem d_M_sets_33 : decode c_M_sets 33 = .ok (.if_icmp .ge 38, 3) := by decide +kernel
theorem d_M_sets_36 : decode c_M_sets 36 = .ok (.aload_n 0, 1) := by decide +kernel
theorem d_M_sets_37 : decode c_M_sets 37 = .ok (.getfield 50, 3) := by decide +kernel
theorem d_M_sets_40 : decode c_M_sets 40 = .ok (.iload_n 3, 1) := by decide +kernel
theorem d_M_sets_41 : decode c_M_sets 41 = .ok (.iaload, 1) := by decide +kernel
theorem d_M_sets_42 : decode c_M_sets 42 = .ok (.iload_n 3, 1) := by decide +kernel
theorem d_M_sets_43 : decode c_M_sets 43 = .ok (.aload_n 0, 1) := by decide +kernel
theorem d_M_sets_44 : decode c_M_sets 44 = .ok (.getfield 61, 3) := by decide +kernel
theorem d_M_sets_47 : decode c_M_sets 47 = .ok (.if_icmp .ge 12, 3) := by decide +kernel
theorem d_M_sets_50 : decode c_M_sets 50 = .ok (.aload_n 0, 1) := by decide +kernel
theorem d_M_sets_51 : decode c_M_sets 51 = .ok (.getfield 32, 3) := by decide +kernel
theorem d_M_sets_54 : decode c_M_sets 54 = .ok (.iload_n 3, 1) := by decide +kernel
theorem d_M_sets_55 : decode c_M_sets 55 = .ok (.iaload, 1) := by decide +kernel
theorem d_M_sets_56 : decode c_M_sets 56 = .ok (.goto 4, 3) := by decide +kernel
theorem d_M_sets_59 : decode c_M_sets 59 = .ok (.iconst 0, 1) := by decide +kernel
theorem d_M_sets_60 : decode c_M_sets 60 = .ok (.if_icmp .le 5, 3) := by decide +kernel
theorem d_M_sets_63 : decode c_M_sets 63 = .ok (.iconst 0, 1) := by decide +kernel
theorem d_M_sets_64 : decode c_M_sets 64 = .ok (.ireturn, 1) := by decide +kernel
theorem d_M_sets_65 : decode c_M_sets 65 = .ok (.iinc 3 1, 3) := by decide +kernel
theorem d_M_sets_68 : decode c_M_sets 68 = .ok (.goto (-37), 3) := by decide +kernel
theorem d_M_sets_71 : decode c_M_sets 71 = .ok (.iconst 1, 1) := by decide +kernel
theorem d_M_sets_72 : decode c_M_sets 72 = .ok (.ireturn, 1) := by decide +kernel
theorem d_M_run_0 : decode c_M_run 0 = .ok (.aload_n 0, 1) := by decide +kernel
theorem d_M_run_1 : decode c_M_run 1 = .ok (.iload_n 1, 1) := by decide +kernel
theorem d_M_run_2 : decode c_M_run 2 = .ok (.iconst 0, 1) := by decide +kernel
theorem d_M_run_3 : decode c_M_run 3 = .ok (.ldc 97, 2) := by decide +kernel
theorem d_M_run_5 : decode c_M_run 5 = .ok (.invokestatic 57, 3) := by decide +kernel
theorem d_M_run_8 : decode c_M_run 8 = .ok (.iconst 1, 1) := by decide +kernel
theorem d_M_run_9 : decode c_M_run 9 = .ok (.invokevirtual 68, 3) := by decide +kernel
theorem d_M_run_12 : decode c_M_run 12 = .ok (.ifCond .ne 5, 3) := by decide +kernel
theorem d_M_run_15 : decode c_M_run 15 = .ok (.iconst 0, 1) := by decide +kernel
theorem d_M_run_16 : decode c_M_run 16 = .ok (.ireturn, 1) := by decide +kernel
theorem d_M_run_17 : decode c_M_run 17 = .ok (.sipush 28561, 3) := by decide +kernel
theorem d_M_run_20 : decode c_M_run 20 = .ok (.istore_n 2, 1) := by decide +kernel
theorem d_M_run_21 : decode c_M_run 21 = .ok (.iconst (-1), 1) := by decide +kernel
theorem d_M_run_22 : decode c_M_run 22 = .ok (.istore_n 3, 1) := by decide +kernel
theorem d_M_run_23 : decode c_M_run 23 = .ok (.iconst 0, 1) := by decide +kernel
theorem d_M_run_24 : decode c_M_run 24 = .ok (.istore 4, 2) := by decide +kernel
theorem d_M_run_26 : decode c_M_run 26 = .ok (.iconst 0, 1) := by decide +kernel
theorem d_M_run_27 : decode c_M_run 27 = .ok (.istore 5, 2) := by decide +kernel
theorem d_M_run_29 : decode c_M_run 29 = .ok (.iconst 0, 1) := by decide +kernel
theorem d_M_run_30 : decode c_M_run 30 = .ok (.istore 6, 2) := by decide +kernel
theorem d_M_run_32 : decode c_M_run 32 = .ok (.iconst 0, 1) := by decide +kernel
theorem d_M_run_33 : decode c_M_run 33 = .ok (.istore 7, 2) := by decide +kernel
theorem d_M_run_35 : decode c_M_run 35 = .ok (.iload 7, 2) := by decide +kernel
theorem d_M_run_37 : decode c_M_run 37 = .ok (.iload_n 2, 1) := by decide +kernel
theorem d_M_run_38 : decode c_M_run 38 = .ok (.if_icmp .ge 122, 3) := by decide +kernel
theorem d_M_run_41 : decode c_M_run 41 = .ok (.aload_n 0, 1) := by decide +kernel
theorem d_M_run_42 : decode c_M_run 42 = .ok (.iload 7, 2) := by decide +kernel
theorem d_M_run_44 : decode c_M_run 44 = .ok (.invokevirtual 98, 3) := by decide +kernel
theorem d_M_run_47 : decode c_M_run 47 = .ok (.ifCond .eq 107, 3) := by decide +kernel
theorem d_M_run_50 : decode c_M_run 50 = .ok (.aload_n 0, 1) := by decide +kernel
theorem d_M_run_51 : decode c_M_run 51 = .ok (.invokevirtual 101, 3) := by decide +kernel
theorem d_M_run_54 : decode c_M_run 54 = .ok (.iload_n 1, 1) := by decide +kernel
theorem d_M_run_55 : decode c_M_run 55 = .ok (.if_icmp .le 6, 3) := by decide +kernel
theorem d_M_run_58 : decode c_M_run 58 = .ok (.goto 96, 3) := by decide +kernel
theorem d_M_run_61 : decode c_M_run 61 = .ok (.iconst 0, 1) := by decide +kernel
theorem d_M_run_62 : decode c_M_run 62 = .ok (.istore 8, 2) := by decide +kernel
theorem d_M_run_64 : decode c_M_run 64 = .ok (.iload 8, 2) := by decide +kernel
theorem d_M_run_66 : decode c_M_run 66 = .ok (.iconst 4, 1) := by decide +kernel
theorem d_M_run_67 : decode c_M_run 67 = .ok (.if_icmp .ge 18, 3) := by decide +kernel
theorem d_M_run_70 : decode c_M_run 70 = .ok (.aload_n 0, 1) := by decide +kernel
theorem d_M_run_71 : decode c_M_run 71 = .ok (.iload 8, 2) := by decide +kernel
theorem d_M_run_73 : decode c_M_run 73 = .ok (.invokevirtual 104, 3) := by decide +kernel
theorem d_M_run_76 : decode c_M_run 76 = .ok (.ifCond .eq 9, 3) := by decide +kernel
theorem d_M_run_79 : decode c_M_run 79 = .ok (.iinc 8 1, 3) := by decide +kernel
theorem d_M_run_82 : decode c_M_run 82 = .ok (.goto (-18), 3) := by decide +kernel
theorem d_M_run_85 : decode c_M_run 85 = .ok (.iload 8, 2) := by decide +kernel
theorem d_M_run_87 : decode c_M_run 87 = .ok (.iload 6, 2) := by decide +kernel
theorem d_M_run_89 : decode c_M_run 89 = .ok (.if_icmp .le 7, 3) := by decide +kernel
theorem d_M_run_92 : decode c_M_run 92 = .ok (.iload 8, 2) := by decide +kernel
theorem d_M_run_94 : decode c_M_run 94 = .ok (.istore 6, 2) := by decide +kernel
theorem d_M_run_96 : decode c_M_run 96 = .ok (.iload 8, 2) := by decide +kernel
theorem d_M_run_98 : decode c_M_run 98 = .ok (.iconst 4, 1) := by decide +kernel
theorem d_M_run_99 : decode c_M_run 99 = .ok (.if_icmp .ge 6, 3) := by decide +kernel
theorem d_M_run_102 : decode c_M_run 102 = .ok (.goto 52, 3) := by decide +kernel
theorem d_M_run_105 : decode c_M_run 105 = .ok (.iload_n 3, 1) := by decide +kernel
theorem d_M_run_106 : decode c_M_run 106 = .ok (.ifCond .lt 33, 3) := by decide +kernel
theorem d_M_run_109 : decode c_M_run 109 = .ok (.aload_n 0, 1) := by decide +kernel
theorem d_M_run_110 : decode c_M_run 110 = .ok (.invokevirtual 107, 3) := by decide +kernel
theorem d_M_run_113 : decode c_M_run 113 = .ok (.iload 4, 2) := by decide +kernel
theorem d_M_run_115 : decode c_M_run 115 = .ok (.if_icmp .gt 39, 3) := by decide +kernel
theorem d_M_run_118 : decode c_M_run 118 = .ok (.aload_n 0, 1) := by decide +kernel
theorem d_M_run_119 : decode c_M_run 119 = .ok (.invokevirtual 107, 3) := by decide +kernel
theorem d_M_run_122 : decode c_M_run 122 = .ok (.iload 4, 2) := by decide +kernel
theorem d_M_run_124 : decode c_M_run 124 = .ok (.if_icmp .ne 15, 3) := by decide +kernel
theorem d_M_run_127 : decode c_M_run 127 = .ok (.aload_n 0, 1) := by decide +kernel
theorem d_M_run_128 : decode c_M_run 128 = .ok (.invokevirtual 110, 3) := by decide +kernel
theorem d_M_run_131 : decode c_M_run 131 = .ok (.iload 5, 2) := by decide +kernel
theorem d_M_run_133 : decode c_M_run 133 = .ok (.if_icmp .lt 6, 3) := by decide +kernel
theorem d_M_run_136 : decode c_M_run 136 = .ok (.goto 18, 3) := by decide +kernel
theorem d_M_run_139 : decode c_M_run 139 = .ok (.iload 7, 2) := by decide +kernel
theorem d_M_run_141 : decode c_M_run 141 = .ok (.istore_n 3, 1) := by decide +kernel
theorem d_M_run_142 : decode c_M_run 142 = .ok (.aload_n 0, 1) := by decide +kernel
theorem d_M_run_143 : decode c_M_run 143 = .ok (.invokevirtual 107, 3) := by decide +kernel
theorem d_M_run_146 : decode c_M_run 146 = .ok (.istore 4, 2) := by decide +kernel
theorem d_M_run_148 : decode c_M_run 148 = .ok (.aload_n 0, 1) := by decide +kernel
theorem d_M_run_149 : decode c_M_run 149 = .ok (.invokevirtual 110, 3) := by decide +kernel
theorem d_M_run_152 : decode c_M_run 152 = .ok (.istore 5, 2) := by decide +kernel
theorem d_M_run_154 : decode c_M_run 154 = .ok (.iinc 7 1, 3) := by decide +kernel
theorem d_M_run_157 : decode c_M_run 157 = .ok (.goto (-122), 3) := by decide +kernel
theorem d_M_run_160 : decode c_M_run 160 = .ok (.aload_n 0, 1) := by decide +kernel
theorem d_M_run_161 : decode c_M_run 161 = .ok (.iload_n 3, 1) := by decide +kernel
theorem d_M_run_162 : decode c_M_run 162 = .ok (.ifCond .lt 7, 3) := by decide +kernel
theorem d_M_run_165 : decode c_M_run 165 = .ok (.iconst 1, 1) := by decide +kernel
theorem d_M_run_166 : decode c_M_run 166 = .ok (.goto 4, 3) := by decide +kernel
theorem d_M_run_169 : decode c_M_run 169 = .ok (.iconst 0, 1) := by decide +kernel
theorem d_M_run_170 : decode c_M_run 170 = .ok (.putfield 72, 3) := by decide +kernel
theorem d_M_run_173 : decode c_M_run 173 = .ok (.aload_n 0, 1) := by decide +kernel
theorem d_M_run_174 : decode c_M_run 174 = .ok (.getfield 72, 3) := by decide +kernel
theorem d_M_run_177 : decode c_M_run 177 = .ok (.ifCond .ne 8, 3) := by decide +kernel
theorem d_M_run_180 : decode c_M_run 180 = .ok (.iconst 1, 1) := by decide +kernel
theorem d_M_run_181 : decode c_M_run 181 = .ok (.iload 6, 2) := by decide +kernel
theorem d_M_run_183 : decode c_M_run 183 = .ok (.iadd, 1) := by decide +kernel
theorem d_M_run_184 : decode c_M_run 184 = .ok (.ireturn, 1) := by decide +kernel
theorem d_M_run_185 : decode c_M_run 185 = .ok (.aload_n 0, 1) := by decide +kernel
theorem d_M_run_186 : decode c_M_run 186 = .ok (.iload_n 3, 1) := by decide +kernel
theorem d_M_run_187 : decode c_M_run 187 = .ok (.invokevirtual 98, 3) := by decide +kernel
theorem d_M_run_190 : decode c_M_run 190 = .ok (.istore 7, 2) := by decide +kernel
theorem d_M_run_192 : decode c_M_run 192 = .ok (.iconst 0, 1) := by decide +kernel
theorem d_M_run_193 : decode c_M_run 193 = .ok (.istore 8, 2) := by decide +kernel
theorem d_M_run_195 : decode c_M_run 195 = .ok (.iload 8, 2) := by decide +kernel
theorem d_M_run_197 : decode c_M_run 197 = .ok (.iconst 4, 1) := by decide +kernel
theorem d_M_run_198 : decode c_M_run 198 = .ok (.if_icmp .ge 28, 3) := by decide +kernel
theorem d_M_run_201 : decode c_M_run 201 = .ok (.iload 7, 2) := by decide +kernel
theorem d_M_run_203 : decode c_M_run 203 = .ok (.ifCond .eq 23, 3) := by decide +kernel
theorem d_M_run_206 : decode c_M_run 206 = .ok (.aload_n 0, 1) := by decide +kernel
theorem d_M_run_207 : decode c_M_run 207 = .ok (.getfield 47, 3) := by decide +kernel
theorem d_M_run_210 : decode c_M_run 210 = .ok (.iload 8, 2) := by decide +kernel
theorem d_M_run_212 : decode c_M_run 212 = .ok (.aload_n 0, 1) := by decide +kernel
theorem d_M_run_213 : decode c_M_run 213 = .ok (.getfield 50, 3) := by decide +kernel
theorem d_M_run_216 : decode c_M_run 216 = .ok (.iload 8, 2) := by decide +kernel
theorem d_M_run_218 : decode c_M_run 218 = .ok (.iaload, 1) := by decide +kernel
theorem d_M_run_219 : decode c_M_run 219 = .ok (.iastore, 1) := by decide +kernel
theorem d_M_run_220 : decode c_M_run 220 = .ok (.iinc 8 1, 3) := by decide +kernel
theorem d_M_run_223 : decode c_M_run 223 = .ok (.goto (-28), 3) := by decide +kernel
theorem d_M_run_226 : decode c_M_run 226 = .ok (.iconst 0, 1) := by decide +kernel
theorem d_M_run_227 : decode c_M_run 227 = .ok (.ireturn, 1) := by decide +kernel
theorem d_M_load_0 : decode c_M_load 0 = .ok (.iconst 0, 1) := by decide +kernel
theorem d_M_load_1 : decode c_M_load 1 = .ok (.istore_n 1, 1) := by decide +kernel
theorem d_M_load_2 : decode c_M_load 2 = .ok (.iload_n 1, 1) := by decide +kernel
theorem d_M_load_3 : decode c_M_load 3 = .ok (.iconst 4, 1) := by decide +kernel
theorem d_M_load_4 : decode c_M_load 4 = .ok (.if_icmp .ge 21, 3) := by decide +kernel
theorem d_M_load_7 : decode c_M_load 7 = .ok (.aload_n 0, 1) := by decide +kernel
theorem d_M_load_8 : decode c_M_load 8 = .ok (.getfield 50, 3) := by decide +kernel
theorem d_M_load_11 : decode c_M_load 11 = .ok (.iload_n 1, 1) := by decide +kernel
theorem d_M_load_12 : decode c_M_load 12 = .ok (.aload_n 0, 1) := by decide +kernel
theorem d_M_load_13 : decode c_M_load 13 = .ok (.getfield 47, 3) := by decide +kernel
theorem d_M_load_16 : decode c_M_load 16 = .ok (.iload_n 1, 1) := by decide +kernel
theorem d_M_load_17 : decode c_M_load 17 = .ok (.iaload, 1) := by decide +kernel
theorem d_M_load_18 : decode c_M_load 18 = .ok (.iastore, 1) := by decide +kernel
theorem d_M_load_19 : decode c_M_load 19 = .ok (.iinc 1 1, 3) := by decide +kernel
theorem d_M_load_22 : decode c_M_load 22 = .ok (.goto (-20), 3) := by decide +kernel
theorem d_M_load_25 : decode c_M_load 25 = .ok (.return_, 1) := by decide +kernel
theorem d_M_steps_0 : decode c_M_steps 0 = .ok (.aload_n 0, 1) := by decide +kernel
theorem d_M_steps_1 : decode c_M_steps 1 = .ok (.aload_n 0, 1) := by decide +kernel
theorem d_M_steps_2 : decode c_M_steps 2 = .ok (.iload_n 1, 1) := by decide +kernel
theorem d_M_steps_3 : decode c_M_steps 3 = .ok (.invokevirtual 84, 3) := by decide +kernel
theorem d_M_steps_6 : decode c_M_steps 6 = .ok (.aload_n 0, 1) := by decide +kernel
theorem d_M_steps_7 : decode c_M_steps 7 = .ok (.getfield 72, 3) := by decide +kernel
theorem d_M_steps_10 : decode c_M_steps 10 = .ok (.invokevirtual 68, 3) := by decide +kernel
theorem d_M_steps_13 : decode c_M_steps 13 = .ok (.ifCond .ne 5, 3) := by decide +kernel
theorem d_M_steps_16 : decode c_M_steps 16 = .ok (.iconst 0, 1) := by decide +kernel
theorem d_M_steps_17 : decode c_M_steps 17 = .ok (.ireturn, 1) := by decide +kernel
theorem d_M_steps_18 : decode c_M_steps 18 = .ok (.aload_n 0, 1) := by decide +kernel
theorem d_M_steps_19 : decode c_M_steps 19 = .ok (.getfield 47, 3) := by decide +kernel
theorem d_M_steps_22 : decode c_M_steps 22 = .ok (.iload_n 1, 1) := by decide +kernel
theorem d_M_steps_23 : decode c_M_steps 23 = .ok (.iaload, 1) := by decide +kernel
theorem d_M_steps_24 : decode c_M_steps 24 = .ok (.ireturn, 1) := by decide +kernel
theorem d_M_planned_0 : decode c_M_planned 0 = .ok (.aload_n 0, 1) := by decide +kernel
theorem d_M_planned_1 : decode c_M_planned 1 = .ok (.iload_n 1, 1) := by decide +kernel
theorem d_M_planned_2 : decode c_M_planned 2 = .ok (.iconst 0, 1) := by decide +kernel
theorem d_M_planned_3 : decode c_M_planned 3 = .ok (.iconst 3, 1) := by decide +kernel
theorem d_M_planned_4 : decode c_M_planned 4 = .ok (.invokestatic 57, 3) := by decide +kernel
theorem d_M_planned_7 : decode c_M_planned 7 = .ok (.aload_n 0, 1) := by decide +kernel
theorem d_M_planned_8 : decode c_M_planned 8 = .ok (.getfield 72, 3) := by decide +kernel
theorem d_M_planned_11 : decode c_M_planned 11 = .ok (.invokevirtual 68, 3) := by decide +kernel
theorem d_M_planned_14 : decode c_M_planned 14 = .ok (.ifCond .ne 5, 3) := by decide +kernel
theorem d_M_planned_17 : decode c_M_planned 17 = .ok (.iconst 0, 1) := by decide +kernel
theorem d_M_planned_18 : decode c_M_planned 18 = .ok (.ireturn, 1) := by decide +kernel
theorem d_M_planned_19 : decode c_M_planned 19 = .ok (.aload_n 0, 1) := by decide +kernel
theorem d_M_planned_20 : decode c_M_planned 20 = .ok (.invokevirtual 113, 3) := by decide +kernel
theorem d_M_planned_23 : decode c_M_planned 23 = .ok (.iload_n 1, 1) := by decide +kernel
theorem d_M_planned_24 : decode c_M_planned 24 = .ok (.ifCond .ne 10, 3) := by decide +kernel
theorem d_M_planned_27 : decode c_M_planned 27 = .ok (.aload_n 0, 1) := by decide +kernel
theorem d_M_planned_28 : decode c_M_planned 28 = .ok (.invokevirtual 107, 3) := by decide +kernel
theorem d_M_planned_31 : decode c_M_planned 31 = .ok (.goto 31, 3) := by decide +kernel
theorem d_M_planned_34 : decode c_M_planned 34 = .ok (.iload_n 1, 1) := by decide +kernel
theorem d_M_planned_35 : decode c_M_planned 35 = .ok (.iconst 1, 1) := by decide +kernel
theorem d_M_planned_36 : decode c_M_planned 36 = .ok (.if_icmp .ne 10, 3) := by decide +kernel
theorem d_M_planned_39 : decode c_M_planned 39 = .ok (.aload_n 0, 1) := by decide +kernel
theorem d_M_planned_40 : decode c_M_planned 40 = .ok (.invokevirtual 89, 3) := by decide +kernel
theorem d_M_planned_43 : decode c_M_planned 43 = .ok (.goto 19, 3) := by decide +kernel
theorem d_M_planned_46 : decode c_M_planned 46 = .ok (.iload_n 1, 1) := by decide +kernel
theorem d_M_planned_47 : decode c_M_planned 47 = .ok (.iconst 2, 1) := by decide +kernel
theorem d_M_planned_48 : decode c_M_planned 48 = .ok (.if_icmp .ne 10, 3) := by decide +kernel
theorem d_M_planned_51 : decode c_M_planned 51 = .ok (.aload_n 0, 1) := by decide +kernel
theorem d_M_planned_52 : decode c_M_planned 52 = .ok (.invokevirtual 110, 3) := by decide +kernel
theorem d_M_planned_55 : decode c_M_planned 55 = .ok (.goto 7, 3) := by decide +kernel
theorem d_M_planned_58 : decode c_M_planned 58 = .ok (.aload_n 0, 1) := by decide +kernel
theorem d_M_planned_59 : decode c_M_planned 59 = .ok (.invokevirtual 101, 3) := by decide +kernel
theorem d_M_planned_62 : decode c_M_planned 62 = .ok (.ireturn, 1) := by decide +kernel
theorem d_M_order_0 : decode c_M_order 0 = .ok (.aload_n 0, 1) := by decide +kernel
theorem d_M_order_1 : decode c_M_order 1 = .ok (.iload_n 1, 1) := by decide +kernel
theorem d_M_order_2 : decode c_M_order 2 = .ok (.ifCond .lt 7, 3) := by decide +kernel
theorem d_M_order_5 : decode c_M_order 5 = .ok (.iconst 1, 1) := by decide +kernel
theorem d_M_order_6 : decode c_M_order 6 = .ok (.goto 4, 3) := by decide +kernel
theorem d_M_order_9 : decode c_M_order 9 = .ok (.iconst 0, 1) := by decide +kernel
theorem d_M_order_10 : decode c_M_order 10 = .ok (.aload_n 0, 1) := by decide +kernel
theorem d_M_order_11 : decode c_M_order 11 = .ok (.getfield 72, 3) := by decide +kernel
theorem d_M_order_14 : decode c_M_order 14 = .ok (.invokevirtual 68, 3) := by decide +kernel
theorem d_M_order_17 : decode c_M_order 17 = .ok (.ifCond .ne 5, 3) := by decide +kernel
theorem d_M_order_20 : decode c_M_order 20 = .ok (.iconst 0, 1) := by decide +kernel
theorem d_M_order_21 : decode c_M_order 21 = .ok (.ireturn, 1) := by decide +kernel
theorem d_M_order_22 : decode c_M_order 22 = .ok (.iload_n 1, 1) := by decide +kernel
theorem d_M_order_23 : decode c_M_order 23 = .ok (.istore_n 2, 1) := by decide +kernel
theorem d_M_order_24 : decode c_M_order 24 = .ok (.sipush 1000, 3) := by decide +kernel
theorem d_M_order_27 : decode c_M_order 27 = .ok (.istore_n 3, 1) := by decide +kernel
theorem d_M_order_28 : decode c_M_order 28 = .ok (.iload_n 3, 1) := by decide +kernel
theorem d_M_order_29 : decode c_M_order 29 = .ok (.ifCond .lt 61, 3) := by decide +kernel
theorem d_M_order_32 : decode c_M_order 32 = .ok (.iconst 0, 1) := by decide +kernel
theorem d_M_order_33 : decode c_M_order 33 = .ok (.istore 4, 2) := by decide +kernel
theorem d_M_order_35 : decode c_M_order 35 = .ok (.iload 4, 2) := by decide +kernel
theorem d_M_order_37 : decode c_M_order 37 = .ok (.aload_n 0, 1) := by decide +kernel
theorem d_M_order_38 : decode c_M_order 38 = .ok (.getfield 61, 3) := by decide +kernel
theorem d_M_order_41 : decode c_M_order 41 = .ok (.if_icmp .ge 43, 3) := by decide +kernel
theorem d_M_order_44 : decode c_M_order 44 = .ok (.aload_n 0, 1) := by decide +kernel
theorem d_M_order_45 : decode c_M_order 45 = .ok (.getfield 44, 3) := by decide +kernel
theorem d_M_order_48 : decode c_M_order 48 = .ok (.iload 4, 2) := by decide +kernel
theorem d_M_order_50 : decode c_M_order 50 = .ok (.iaload, 1) := by decide +kernel
theorem d_M_order_51 : decode c_M_order 51 = .ok (.iload_n 3, 1) := by decide +kernel
theorem d_M_order_52 : decode c_M_order 52 = .ok (.if_icmp .ne 26, 3) := by decide +kernel
theorem d_M_order_55 : decode c_M_order 55 = .ok (.aload_n 0, 1) := by decide +kernel
theorem d_M_order_56 : decode c_M_order 56 = .ok (.getfield 47, 3) := by decide +kernel
theorem d_M_order_59 : decode c_M_order 59 = .ok (.iload 4, 2) := by decide +kernel
theorem d_M_order_61 : decode c_M_order 61 = .ok (.iaload, 1) := by decide +kernel
theorem d_M_order_62 : decode c_M_order 62 = .ok (.ifCond .ne 6, 3) := by decide +kernel
theorem d_M_order_65 : decode c_M_order 65 = .ok (.goto 13, 3) := by decide +kernel
theorem d_M_order_68 : decode c_M_order 68 = .ok (.iload_n 2, 1) := by decide +kernel
theorem d_M_order_69 : decode c_M_order 69 = .ok (.ifCond .ne 6, 3) := by decide +kernel
theorem d_M_order_72 : decode c_M_order 72 = .ok (.iload 4, 2) := by decide +kernel
theorem d_M_order_74 : decode c_M_order 74 = .ok (.ireturn, 1) := by decide +kernel
theorem d_M_order_75 : decode c_M_order 75 = .ok (.iinc 2 (-1), 3) := by decide +kernel
theorem d_M_order_78 : decode c_M_order 78 = .ok (.iinc 4 1, 3) := by decide +kernel
theorem d_M_order_81 : decode c_M_order 81 = .ok (.goto (-46), 3) := by decide +kernel
theorem d_M_order_84 : decode c_M_order 84 = .ok (.iinc 3 (-1), 3) := by decide +kernel
theorem d_M_order_87 : decode c_M_order 87 = .ok (.goto (-59), 3) := by decide +kernel
theorem d_M_order_90 : decode c_M_order 90 = .ok (.iconst (-1), 1) := by decide +kernel
theorem d_M_order_91 : decode c_M_order 91 = .ok (.ireturn, 1) := by decide +kernel
theorem d_M_after_0 : decode c_M_after 0 = .ok (.aload_n 0, 1) := by decide +kernel
theorem d_M_after_1 : decode c_M_after 1 = .ok (.iload_n 1, 1) := by decide +kernel
theorem d_M_after_2 : decode c_M_after 2 = .ok (.invokestatic 76, 3) := by decide +kernel
theorem d_M_after_5 : decode c_M_after 5 = .ok (.ifCond .eq 25, 3) := by decide +kernel
theorem d_M_after_8 : decode c_M_after 8 = .ok (.iload_n 2, 1) := by decide +kernel
theorem d_M_after_9 : decode c_M_after 9 = .ok (.iconst 0, 1) := by decide +kernel
theorem d_M_after_10 : decode c_M_after 10 = .ok (.iconst 1, 1) := by decide +kernel
theorem d_M_after_11 : decode c_M_after 11 = .ok (.invokestatic 57, 3) := by decide +kernel
theorem d_M_after_14 : decode c_M_after 14 = .ok (.ifCond .eq 16, 3) := by decide +kernel
theorem d_M_after_17 : decode c_M_after 17 = .ok (.iload_n 3, 1) := by decide +kernel
theorem d_M_after_18 : decode c_M_after 18 = .ok (.iconst 0, 1) := by decide +kernel
theorem d_M_after_19 : decode c_M_after 19 = .ok (.iconst 1, 1) := by decide +kernel
theorem d_M_after_20 : decode c_M_after 20 = .ok (.invokestatic 57, 3) := by decide +kernel
theorem d_M_after_23 : decode c_M_after 23 = .ok (.ifCond .eq 7, 3) := by decide +kernel
theorem d_M_after_26 : decode c_M_after 26 = .ok (.iconst 1, 1) := by decide +kernel
theorem d_M_after_27 : decode c_M_after 27 = .ok (.goto 4, 3) := by decide +kernel
theorem d_M_after_30 : decode c_M_after 30 = .ok (.iconst 0, 1) := by decide +kernel
theorem d_M_after_31 : decode c_M_after 31 = .ok (.aload_n 0, 1) := by decide +kernel
theorem d_M_after_32 : decode c_M_after 32 = .ok (.getfield 72, 3) := by decide +kernel
theorem d_M_after_35 : decode c_M_after 35 = .ok (.invokevirtual 68, 3) := by decide +kernel
theorem d_M_after_38 : decode c_M_after 38 = .ok (.ifCond .ne 5, 3) := by decide +kernel
theorem d_M_after_41 : decode c_M_after 41 = .ok (.lconst 0, 1) := by decide +kernel
theorem d_M_after_42 : decode c_M_after 42 = .ok (.lreturn, 1) := by decide +kernel
theorem d_M_after_43 : decode c_M_after 43 = .ok (.aload_n 0, 1) := by decide +kernel
theorem d_M_after_44 : decode c_M_after 44 = .ok (.invokevirtual 113, 3) := by decide +kernel
theorem d_M_after_47 : decode c_M_after 47 = .ok (.aload_n 0, 1) := by decide +kernel
theorem d_M_after_48 : decode c_M_after 48 = .ok (.iload_n 1, 1) := by decide +kernel
theorem d_M_after_49 : decode c_M_after 49 = .ok (.iload_n 2, 1) := by decide +kernel
theorem d_M_after_50 : decode c_M_after 50 = .ok (.invokevirtual 93, 3) := by decide +kernel
theorem d_M_after_53 : decode c_M_after 53 = .ok (.lstore 4, 2) := by decide +kernel
theorem d_M_after_55 : decode c_M_after 55 = .ok (.ldc2_w 87, 3) := by decide +kernel
theorem d_M_after_58 : decode c_M_after 58 = .ok (.aload_n 0, 1) := by decide +kernel
theorem d_M_after_59 : decode c_M_after 59 = .ok (.getfield 7, 3) := by decide +kernel
theorem d_M_after_62 : decode c_M_after 62 = .ok (.aload_n 0, 1) := by decide +kernel
theorem d_M_after_63 : decode c_M_after 63 = .ok (.invokevirtual 89, 3) := by decide +kernel
theorem d_M_after_66 : decode c_M_after 66 = .ok (.iadd, 1) := by decide +kernel
theorem d_M_after_67 : decode c_M_after 67 = .ok (.i2l, 1) := by decide +kernel
theorem d_M_after_68 : decode c_M_after 68 = .ok (.lmul, 1) := by decide +kernel
theorem d_M_after_69 : decode c_M_after 69 = .ok (.lstore 6, 2) := by decide +kernel
theorem d_M_after_71 : decode c_M_after 71 = .ok (.lload 6, 2) := by decide +kernel
theorem d_M_after_73 : decode c_M_after 73 = .ok (.lstore 8, 2) := by decide +kernel
theorem d_M_after_75 : decode c_M_after 75 = .ok (.lload 4, 2) := by decide +kernel
theorem d_M_after_77 : decode c_M_after 77 = .ok (.lstore 10, 2) := by decide +kernel
theorem d_M_after_79 : decode c_M_after 79 = .ok (.lload 10, 2) := by decide +kernel
theorem d_M_after_81 : decode c_M_after 81 = .ok (.lconst 0, 1) := by decide +kernel
theorem d_M_after_82 : decode c_M_after 82 = .ok (.lcmp, 1) := by decide +kernel
theorem d_M_after_83 : decode c_M_after 83 = .ok (.ifCond .le 21, 3) := by decide +kernel
theorem d_M_after_86 : decode c_M_after 86 = .ok (.lload 8, 2) := by decide +kernel
theorem d_M_after_88 : decode c_M_after 88 = .ok (.lload 10, 2) := by decide +kernel
theorem d_M_after_90 : decode c_M_after 90 = .ok (.lrem, 1) := by decide +kernel
theorem d_M_after_91 : decode c_M_after 91 = .ok (.lstore 12, 2) := by decide +kernel
theorem d_M_after_93 : decode c_M_after 93 = .ok (.lload 10, 2) := by decide +kernel
theorem d_M_after_95 : decode c_M_after 95 = .ok (.lstore 8, 2) := by decide +kernel
theorem d_M_after_97 : decode c_M_after 97 = .ok (.lload 12, 2) := by decide +kernel
theorem d_M_after_99 : decode c_M_after 99 = .ok (.lstore 10, 2) := by decide +kernel
theorem d_M_after_101 : decode c_M_after 101 = .ok (.goto (-22), 3) := by decide +kernel
theorem d_M_after_104 : decode c_M_after 104 = .ok (.iload_n 3, 1) := by decide +kernel
theorem d_M_after_105 : decode c_M_after 105 = .ok (.ifCond .ne 8, 3) := by decide +kernel
theorem d_M_after_108 : decode c_M_after 108 = .ok (.lload 4, 2) := by decide +kernel
theorem d_M_after_110 : decode c_M_after 110 = .ok (.goto 5, 3) := by decide +kernel
theorem d_M_after_113 : decode c_M_after 113 = .ok (.lload 6, 2) := by decide +kernel
theorem d_M_after_115 : decode c_M_after 115 = .ok (.lload 8, 2) := by decide +kernel
theorem d_M_after_117 : decode c_M_after 117 = .ok (.ldiv, 1) := by decide +kernel
theorem d_M_after_118 : decode c_M_after 118 = .ok (.lreturn, 1) := by decide +kernel
theorem d_M_add_0 : decode c_M_add 0 = .ok (.aload_n 0, 1) := by decide +kernel
theorem d_M_add_1 : decode c_M_add 1 = .ok (.invokevirtual 113, 3) := by decide +kernel
theorem d_M_add_4 : decode c_M_add 4 = .ok (.aload_n 0, 1) := by decide +kernel
theorem d_M_add_5 : decode c_M_add 5 = .ok (.aload_n 0, 1) := by decide +kernel
theorem d_M_add_6 : decode c_M_add 6 = .ok (.getfield 72, 3) := by decide +kernel
theorem d_M_add_9 : decode c_M_add 9 = .ok (.aload_n 0, 1) := by decide +kernel
theorem d_M_add_10 : decode c_M_add 10 = .ok (.getfield 7, 3) := by decide +kernel
theorem d_M_add_13 : decode c_M_add 13 = .ok (.aload_n 0, 1) := by decide +kernel
theorem d_M_add_14 : decode c_M_add 14 = .ok (.invokevirtual 89, 3) := by decide +kernel
theorem d_M_add_17 : decode c_M_add 17 = .ok (.iadd, 1) := by decide +kernel
theorem d_M_add_18 : decode c_M_add 18 = .ok (.ldc 67, 2) := by decide +kernel
theorem d_M_add_20 : decode c_M_add 20 = .ok (.if_icmp .gt 7, 3) := by decide +kernel
theorem d_M_add_23 : decode c_M_add 23 = .ok (.iconst 1, 1) := by decide +kernel
theorem d_M_add_24 : decode c_M_add 24 = .ok (.goto 4, 3) := by decide +kernel
theorem d_M_add_27 : decode c_M_add 27 = .ok (.iconst 0, 1) := by decide +kernel
theorem d_M_add_28 : decode c_M_add 28 = .ok (.invokevirtual 68, 3) := by decide +kernel
theorem d_M_add_31 : decode c_M_add 31 = .ok (.ifCond .ne 5, 3) := by decide +kernel
theorem d_M_add_34 : decode c_M_add 34 = .ok (.iconst 0, 1) := by decide +kernel
theorem d_M_add_35 : decode c_M_add 35 = .ok (.ireturn, 1) := by decide +kernel
theorem d_M_add_36 : decode c_M_add 36 = .ok (.ldc2_w 87, 3) := by decide +kernel
theorem d_M_add_39 : decode c_M_add 39 = .ok (.aload_n 0, 1) := by decide +kernel
theorem d_M_add_40 : decode c_M_add 40 = .ok (.getfield 7, 3) := by decide +kernel
theorem d_M_add_43 : decode c_M_add 43 = .ok (.aload_n 0, 1) := by decide +kernel
theorem d_M_add_44 : decode c_M_add 44 = .ok (.invokevirtual 89, 3) := by decide +kernel
theorem d_M_add_47 : decode c_M_add 47 = .ok (.iadd, 1) := by decide +kernel
theorem d_M_add_48 : decode c_M_add 48 = .ok (.i2l, 1) := by decide +kernel
theorem d_M_add_49 : decode c_M_add 49 = .ok (.lmul, 1) := by decide +kernel
theorem d_M_add_50 : decode c_M_add 50 = .ok (.lstore_n 1, 1) := by decide +kernel
theorem d_M_add_51 : decode c_M_add 51 = .ok (.iconst 0, 1) := by decide +kernel
theorem d_M_add_52 : decode c_M_add 52 = .ok (.istore_n 3, 1) := by decide +kernel
theorem d_M_add_53 : decode c_M_add 53 = .ok (.iload_n 3, 1) := by decide +kernel
theorem d_M_add_54 : decode c_M_add 54 = .ok (.iconst 4, 1) := by decide +kernel
theorem d_M_add_55 : decode c_M_add 55 = .ok (.if_icmp .ge 51, 3) := by decide +kernel
theorem d_M_add_58 : decode c_M_add 58 = .ok (.aload_n 0, 1) := by decide +kernel
theorem d_M_add_59 : decode c_M_add 59 = .ok (.iload_n 3, 1) := by decide +kernel
theorem d_M_add_60 : decode c_M_add 60 = .ok (.iconst 0, 1) := by decide +kernel
theorem d_M_add_61 : decode c_M_add 61 = .ok (.invokevirtual 93, 3) := by decide +kernel
theorem d_M_add_64 : decode c_M_add 64 = .ok (.lstore 4, 2) := by decide +kernel
theorem d_M_add_66 : decode c_M_add 66 = .ok (.aload_n 0, 1) := by decide +kernel
theorem d_M_add_67 : decode c_M_add 67 = .ok (.iload_n 3, 1) := by decide +kernel
theorem d_M_add_68 : decode c_M_add 68 = .ok (.iconst 1, 1) := by decide +kernel
theorem d_M_add_69 : decode c_M_add 69 = .ok (.invokevirtual 93, 3) := by decide +kernel
theorem d_M_add_72 : decode c_M_add 72 = .ok (.lstore 6, 2) := by decide +kernel
theorem d_M_add_74 : decode c_M_add 74 = .ok (.aload_n 0, 1) := by decide +kernel
theorem d_M_add_75 : decode c_M_add 75 = .ok (.getfield 13, 3) := by decide +kernel
theorem d_M_add_78 : decode c_M_add 78 = .ok (.iload_n 3, 1) := by decide +kernel
theorem d_M_add_79 : decode c_M_add 79 = .ok (.lload 4, 2) := by decide +kernel
theorem d_M_add_81 : decode c_M_add 81 = .ok (.lload_n 1, 1) := by decide +kernel
theorem d_M_add_82 : decode c_M_add 82 = .ok (.ldiv, 1) := by decide +kernel
theorem d_M_add_83 : decode c_M_add 83 = .ok (.l2i, 1) := by decide +kernel
theorem d_M_add_84 : decode c_M_add 84 = .ok (.iastore, 1) := by decide +kernel
theorem d_M_add_85 : decode c_M_add 85 = .ok (.aload_n 0, 1) := by decide +kernel
theorem d_M_add_86 : decode c_M_add 86 = .ok (.getfield 17, 3) := by decide +kernel
theorem d_M_add_89 : decode c_M_add 89 = .ok (.iload_n 3, 1) := by decide +kernel
theorem d_M_add_90 : decode c_M_add 90 = .ok (.lload 6, 2) := by decide +kernel
theorem d_M_add_92 : decode c_M_add 92 = .ok (.lload_n 1, 1) := by decide +kernel
theorem d_M_add_93 : decode c_M_add 93 = .ok (.ladd, 1) := by decide +kernel
theorem d_M_add_94 : decode c_M_add 94 = .ok (.lconst 1, 1) := by decide +kernel
theorem d_M_add_95 : decode c_M_add 95 = .ok (.lsub, 1) := by decide +kernel
theorem d_M_add_96 : decode c_M_add 96 = .ok (.lload_n 1, 1) := by decide +kernel
theorem d_M_add_97 : decode c_M_add 97 = .ok (.ldiv, 1) := by decide +kernel
theorem d_M_add_98 : decode c_M_add 98 = .ok (.l2i, 1) := by decide +kernel
theorem d_M_add_99 : decode c_M_add 99 = .ok (.iastore, 1) := by decide +kernel
theorem d_M_add_100 : decode c_M_add 100 = .ok (.iinc 3 1, 3) := by decide +kernel
theorem d_M_add_103 : decode c_M_add 103 = .ok (.goto (-50), 3) := by decide +kernel
theorem d_M_add_106 : decode c_M_add 106 = .ok (.aload_n 0, 1) := by decide +kernel
theorem d_M_add_107 : decode c_M_add 107 = .ok (.aload_n 0, 1) := by decide +kernel
theorem d_M_add_108 : decode c_M_add 108 = .ok (.getfield 116, 3) := by decide +kernel
theorem d_M_add_111 : decode c_M_add 111 = .ok (.aload_n 0, 1) := by decide +kernel
theorem d_M_add_112 : decode c_M_add 112 = .ok (.invokevirtual 107, 3) := by decide +kernel
theorem d_M_add_115 : decode c_M_add 115 = .ok (.i2l, 1) := by decide +kernel
theorem d_M_add_116 : decode c_M_add 116 = .ok (.ladd, 1) := by decide +kernel
theorem d_M_add_117 : decode c_M_add 117 = .ok (.putfield 116, 3) := by decide +kernel
theorem d_M_add_120 : decode c_M_add 120 = .ok (.aload_n 0, 1) := by decide +kernel
theorem d_M_add_121 : decode c_M_add 121 = .ok (.aload_n 0, 1) := by decide +kernel
theorem d_M_add_122 : decode c_M_add 122 = .ok (.getfield 7, 3) := by decide +kernel
theorem d_M_add_125 : decode c_M_add 125 = .ok (.aload_n 0, 1) := by decide +kernel
theorem d_M_add_126 : decode c_M_add 126 = .ok (.invokevirtual 89, 3) := by decide +kernel
theorem d_M_add_129 : decode c_M_add 129 = .ok (.iadd, 1) := by decide +kernel
theorem d_M_add_130 : decode c_M_add 130 = .ok (.putfield 7, 3) := by decide +kernel
theorem d_M_add_133 : decode c_M_add 133 = .ok (.aload_n 0, 1) := by decide +kernel
theorem d_M_add_134 : decode c_M_add 134 = .ok (.iconst 0, 1) := by decide +kernel
theorem d_M_add_135 : decode c_M_add 135 = .ok (.putfield 72, 3) := by decide +kernel
theorem d_M_add_138 : decode c_M_add 138 = .ok (.aload_n 0, 1) := by decide +kernel
theorem d_M_add_139 : decode c_M_add 139 = .ok (.dup, 1) := by decide +kernel
theorem d_M_add_140 : decode c_M_add 140 = .ok (.getfield 64, 3) := by decide +kernel
theorem d_M_add_143 : decode c_M_add 143 = .ok (.iconst 1, 1) := by decide +kernel
theorem d_M_add_144 : decode c_M_add 144 = .ok (.iadd, 1) := by decide +kernel
theorem d_M_add_145 : decode c_M_add 145 = .ok (.putfield 64, 3) := by decide +kernel
theorem d_M_add_148 : decode c_M_add 148 = .ok (.aload_n 0, 1) := by decide +kernel
theorem d_M_add_149 : decode c_M_add 149 = .ok (.getfield 64, 3) := by decide +kernel
theorem d_M_add_152 : decode c_M_add 152 = .ok (.iconst 1, 1) := by decide +kernel
theorem d_M_add_153 : decode c_M_add 153 = .ok (.isub, 1) := by decide +kernel
theorem d_M_add_154 : decode c_M_add 154 = .ok (.ireturn, 1) := by decide +kernel
theorem d_M_heatAt_0 : decode c_M_heatAt 0 = .ok (.aload_n 0, 1) := by decide +kernel
theorem d_M_heatAt_1 : decode c_M_heatAt 1 = .ok (.iload_n 1, 1) := by decide +kernel
theorem d_M_heatAt_2 : decode c_M_heatAt 2 = .ok (.iconst 0, 1) := by decide +kernel
theorem d_M_heatAt_3 : decode c_M_heatAt 3 = .ok (.bipush 9, 2) := by decide +kernel
theorem d_M_heatAt_5 : decode c_M_heatAt 5 = .ok (.invokestatic 57, 3) := by decide +kernel
theorem d_M_heatAt_8 : decode c_M_heatAt 8 = .ok (.iconst 1, 1) := by decide +kernel
theorem d_M_heatAt_9 : decode c_M_heatAt 9 = .ok (.invokevirtual 68, 3) := by decide +kernel
theorem d_M_heatAt_12 : decode c_M_heatAt 12 = .ok (.ifCond .ne 5, 3) := by decide +kernel
theorem d_M_heatAt_15 : decode c_M_heatAt 15 = .ok (.lconst 0, 1) := by decide +kernel
theorem d_M_heatAt_16 : decode c_M_heatAt 16 = .ok (.lreturn, 1) := by decide +kernel
theorem d_M_heatAt_17 : decode c_M_heatAt 17 = .ok (.iload_n 1, 1) := by decide +kernel
theorem d_M_heatAt_18 : decode c_M_heatAt 18 = .ok (.ifCond .ne 9, 3) := by decide +kernel
theorem d_M_heatAt_21 : decode c_M_heatAt 21 = .ok (.aload_n 0, 1) := by decide +kernel
theorem d_M_heatAt_22 : decode c_M_heatAt 22 = .ok (.getfield 7, 3) := by decide +kernel
theorem d_M_heatAt_25 : decode c_M_heatAt 25 = .ok (.i2l, 1) := by decide +kernel
theorem d_M_heatAt_26 : decode c_M_heatAt 26 = .ok (.lreturn, 1) := by decide +kernel
theorem d_M_heatAt_27 : decode c_M_heatAt 27 = .ok (.iload_n 1, 1) := by decide +kernel
theorem d_M_heatAt_28 : decode c_M_heatAt 28 = .ok (.bipush 9, 2) := by decide +kernel
theorem d_M_heatAt_30 : decode c_M_heatAt 30 = .ok (.if_icmp .ne 8, 3) := by decide +kernel
theorem d_M_heatAt_33 : decode c_M_heatAt 33 = .ok (.aload_n 0, 1) := by decide +kernel
theorem d_M_heatAt_34 : decode c_M_heatAt 34 = .ok (.getfield 116, 3) := by decide +kernel
theorem d_M_heatAt_37 : decode c_M_heatAt 37 = .ok (.lreturn, 1) := by decide +kernel
theorem d_M_heatAt_38 : decode c_M_heatAt 38 = .ok (.iload_n 1, 1) := by decide +kernel
theorem d_M_heatAt_39 : decode c_M_heatAt 39 = .ok (.iconst 2, 1) := by decide +kernel
theorem d_M_heatAt_40 : decode c_M_heatAt 40 = .ok (.irem, 1) := by decide +kernel
theorem d_M_heatAt_41 : decode c_M_heatAt 41 = .ok (.iconst 1, 1) := by decide +kernel
theorem d_M_heatAt_42 : decode c_M_heatAt 42 = .ok (.if_icmp .ne 17, 3) := by decide +kernel
theorem d_M_heatAt_45 : decode c_M_heatAt 45 = .ok (.aload_n 0, 1) := by decide +kernel
theorem d_M_heatAt_46 : decode c_M_heatAt 46 = .ok (.getfield 13, 3) := by decide +kernel
theorem d_M_heatAt_49 : decode c_M_heatAt 49 = .ok (.iload_n 1, 1) := by decide +kernel
theorem d_M_heatAt_50 : decode c_M_heatAt 50 = .ok (.iconst 1, 1) := by decide +kernel
theorem d_M_heatAt_51 : decode c_M_heatAt 51 = .ok (.isub, 1) := by decide +kernel
theorem d_M_heatAt_52 : decode c_M_heatAt 52 = .ok (.iconst 2, 1) := by decide +kernel
theorem d_M_heatAt_53 : decode c_M_heatAt 53 = .ok (.idiv, 1) := by decide +kernel
theorem d_M_heatAt_54 : decode c_M_heatAt 54 = .ok (.iaload, 1) := by decide +kernel
theorem d_M_heatAt_55 : decode c_M_heatAt 55 = .ok (.i2l, 1) := by decide +kernel
theorem d_M_heatAt_56 : decode c_M_heatAt 56 = .ok (.goto 14, 3) := by decide +kernel
theorem d_M_heatAt_59 : decode c_M_heatAt 59 = .ok (.aload_n 0, 1) := by decide +kernel
theorem d_M_heatAt_60 : decode c_M_heatAt 60 = .ok (.getfield 17, 3) := by decide +kernel
theorem d_M_heatAt_63 : decode c_M_heatAt 63 = .ok (.iload_n 1, 1) := by decide +kernel
theorem d_M_heatAt_64 : decode c_M_heatAt 64 = .ok (.iconst 1, 1) := by decide +kernel
theorem d_M_heatAt_65 : decode c_M_heatAt 65 = .ok (.isub, 1) := by decide +kernel
theorem d_M_heatAt_66 : decode c_M_heatAt 66 = .ok (.iconst 2, 1) := by decide +kernel
theorem d_M_heatAt_67 : decode c_M_heatAt 67 = .ok (.idiv, 1) := by decide +kernel
theorem d_M_heatAt_68 : decode c_M_heatAt 68 = .ok (.iaload, 1) := by decide +kernel
theorem d_M_heatAt_69 : decode c_M_heatAt 69 = .ok (.i2l, 1) := by decide +kernel
theorem d_M_heatAt_70 : decode c_M_heatAt 70 = .ok (.lreturn, 1) := by decide +kernel
