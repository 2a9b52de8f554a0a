theorem d_P_init_0 : decode c_P_init 0 = .ok (.aload_n 0, 1) := by decide +kernel
theorem d_P_init_1 : decode c_P_init 1 = .ok (.invokespecial 3, 3) := by decide +kernel
theorem d_P_init_4 : decode c_P_init 4 = .ok (.aload_n 0, 1) := by decide +kernel
theorem d_P_init_5 : decode c_P_init 5 = .ok (.new 9, 3) := by decide +kernel
theorem d_P_init_8 : decode c_P_init 8 = .ok (.dup, 1) := by decide +kernel
theorem d_P_init_9 : decode c_P_init 9 = .ok (.invokespecial 11, 3) := by decide +kernel
theorem d_P_init_12 : decode c_P_init 12 = .ok (.putfield 12, 3) := by decide +kernel
theorem d_P_init_15 : decode c_P_init 15 = .ok (.aload_n 0, 1) := by decide +kernel
theorem d_P_init_16 : decode c_P_init 16 = .ok (.iconst 4, 1) := by decide +kernel
theorem d_P_init_17 : decode c_P_init 17 = .ok (.anewarray 16, 3) := by decide +kernel
theorem d_P_init_20 : decode c_P_init 20 = .ok (.putfield 18, 3) := by decide +kernel
theorem d_P_init_23 : decode c_P_init 23 = .ok (.iconst 0, 1) := by decide +kernel
theorem d_P_init_24 : decode c_P_init 24 = .ok (.istore_n 1, 1) := by decide +kernel
theorem d_P_init_25 : decode c_P_init 25 = .ok (.iload_n 1, 1) := by decide +kernel
theorem d_P_init_26 : decode c_P_init 26 = .ok (.aload_n 0, 1) := by decide +kernel
theorem d_P_init_27 : decode c_P_init 27 = .ok (.getfield 18, 3) := by decide +kernel
theorem d_P_init_30 : decode c_P_init 30 = .ok (.arraylength, 1) := by decide +kernel
theorem d_P_init_31 : decode c_P_init 31 = .ok (.if_icmp .ge 22, 3) := by decide +kernel
theorem d_P_init_34 : decode c_P_init 34 = .ok (.aload_n 0, 1) := by decide +kernel
theorem d_P_init_35 : decode c_P_init 35 = .ok (.getfield 18, 3) := by decide +kernel
theorem d_P_init_38 : decode c_P_init 38 = .ok (.iload_n 1, 1) := by decide +kernel
theorem d_P_init_39 : decode c_P_init 39 = .ok (.new 16, 3) := by decide +kernel
theorem d_P_init_42 : decode c_P_init 42 = .ok (.dup, 1) := by decide +kernel
theorem d_P_init_43 : decode c_P_init 43 = .ok (.invokespecial 22, 3) := by decide +kernel
theorem d_P_init_46 : decode c_P_init 46 = .ok (.aastore, 1) := by decide +kernel
theorem d_P_init_47 : decode c_P_init 47 = .ok (.iinc 1 1, 3) := by decide +kernel
theorem d_P_init_50 : decode c_P_init 50 = .ok (.goto (-25), 3) := by decide +kernel
theorem d_P_init_53 : decode c_P_init 53 = .ok (.aload_n 0, 1) := by decide +kernel
theorem d_P_init_54 : decode c_P_init 54 = .ok (.new 23, 3) := by decide +kernel
theorem d_P_init_57 : decode c_P_init 57 = .ok (.dup, 1) := by decide +kernel
theorem d_P_init_58 : decode c_P_init 58 = .ok (.invokespecial 25, 3) := by decide +kernel
theorem d_P_init_61 : decode c_P_init 61 = .ok (.putfield 26, 3) := by decide +kernel
theorem d_P_init_64 : decode c_P_init 64 = .ok (.aload_n 0, 1) := by decide +kernel
theorem d_P_init_65 : decode c_P_init 65 = .ok (.new 30, 3) := by decide +kernel
theorem d_P_init_68 : decode c_P_init 68 = .ok (.dup, 1) := by decide +kernel
theorem d_P_init_69 : decode c_P_init 69 = .ok (.invokespecial 32, 3) := by decide +kernel
theorem d_P_init_72 : decode c_P_init 72 = .ok (.putfield 33, 3) := by decide +kernel
theorem d_P_init_75 : decode c_P_init 75 = .ok (.aload_n 0, 1) := by decide +kernel
theorem d_P_init_76 : decode c_P_init 76 = .ok (.iconst 0, 1) := by decide +kernel
theorem d_P_init_77 : decode c_P_init 77 = .ok (.putfield 37, 3) := by decide +kernel
theorem d_P_init_80 : decode c_P_init 80 = .ok (.return_, 1) := by decide +kernel
theorem d_P_heat_0 : decode c_P_heat 0 = .ok (.aload_n 0, 1) := by decide +kernel
theorem d_P_heat_1 : decode c_P_heat 1 = .ok (.getfield 12, 3) := by decide +kernel
theorem d_P_heat_4 : decode c_P_heat 4 = .ok (.getfield 41, 3) := by decide +kernel
theorem d_P_heat_7 : decode c_P_heat 7 = .ok (.ifCond .le 13, 3) := by decide +kernel
theorem d_P_heat_10 : decode c_P_heat 10 = .ok (.new 44, 3) := by decide +kernel
theorem d_P_heat_13 : decode c_P_heat 13 = .ok (.dup, 1) := by decide +kernel
theorem d_P_heat_14 : decode c_P_heat 14 = .ok (.ldc 46, 2) := by decide +kernel
theorem d_P_heat_16 : decode c_P_heat 16 = .ok (.invokespecial 48, 3) := by decide +kernel
theorem d_P_heat_19 : decode c_P_heat 19 = .ok (.athrow, 1) := by decide +kernel
theorem d_P_heat_20 : decode c_P_heat 20 = .ok (.iload_n 1, 1) := by decide +kernel
theorem d_P_heat_21 : decode c_P_heat 21 = .ok (.iconst 1, 1) := by decide +kernel
theorem d_P_heat_22 : decode c_P_heat 22 = .ok (.ldc 51, 2) := by decide +kernel
theorem d_P_heat_24 : decode c_P_heat 24 = .ok (.invokestatic 52, 3) := by decide +kernel
theorem d_P_heat_27 : decode c_P_heat 27 = .ok (.invokestatic 56, 3) := by decide +kernel
theorem d_P_heat_30 : decode c_P_heat 30 = .ok (.aload_n 0, 1) := by decide +kernel
theorem d_P_heat_31 : decode c_P_heat 31 = .ok (.getfield 12, 3) := by decide +kernel
theorem d_P_heat_34 : decode c_P_heat 34 = .ok (.iload_n 1, 1) := by decide +kernel
theorem d_P_heat_35 : decode c_P_heat 35 = .ok (.putfield 60, 3) := by decide +kernel
theorem d_P_heat_38 : decode c_P_heat 38 = .ok (.aload_n 0, 1) := by decide +kernel
theorem d_P_heat_39 : decode c_P_heat 39 = .ok (.getfield 26, 3) := by decide +kernel
theorem d_P_heat_42 : decode c_P_heat 42 = .ok (.invokevirtual 63, 3) := by decide +kernel
theorem d_P_heat_45 : decode c_P_heat 45 = .ok (.return_, 1) := by decide +kernel
theorem d_P_present_0 : decode c_P_present 0 = .ok (.iload_n 1, 1) := by decide +kernel
theorem d_P_present_1 : decode c_P_present 1 = .ok (.iconst 0, 1) := by decide +kernel
theorem d_P_present_2 : decode c_P_present 2 = .ok (.iconst 3, 1) := by decide +kernel
theorem d_P_present_3 : decode c_P_present 3 = .ok (.invokestatic 52, 3) := by decide +kernel
theorem d_P_present_6 : decode c_P_present 6 = .ok (.invokestatic 66, 3) := by decide +kernel
theorem d_P_present_9 : decode c_P_present 9 = .ok (.iload_n 2, 1) := by decide +kernel
theorem d_P_present_10 : decode c_P_present 10 = .ok (.iload_n 3, 1) := by decide +kernel
theorem d_P_present_11 : decode c_P_present 11 = .ok (.invokestatic 69, 3) := by decide +kernel
theorem d_P_present_14 : decode c_P_present 14 = .ok (.invokestatic 56, 3) := by decide +kernel
theorem d_P_present_17 : decode c_P_present 17 = .ok (.aload_n 0, 1) := by decide +kernel
theorem d_P_present_18 : decode c_P_present 18 = .ok (.aload_n 0, 1) := by decide +kernel
theorem d_P_present_19 : decode c_P_present 19 = .ok (.getfield 12, 3) := by decide +kernel
theorem d_P_present_22 : decode c_P_present 22 = .ok (.getfield 73, 3) := by decide +kernel
theorem d_P_present_25 : decode c_P_present 25 = .ok (.iload_n 1, 1) := by decide +kernel
theorem d_P_present_26 : decode c_P_present 26 = .ok (.iload_n 2, 1) := by decide +kernel
theorem d_P_present_27 : decode c_P_present 27 = .ok (.iload_n 3, 1) := by decide +kernel
theorem d_P_present_28 : decode c_P_present 28 = .ok (.invokevirtual 77, 3) := by decide +kernel
theorem d_P_present_31 : decode c_P_present 31 = .ok (.return_, 1) := by decide +kernel
theorem d_P_aim_0 : decode c_P_aim 0 = .ok (.iload_n 1, 1) := by decide +kernel
theorem d_P_aim_1 : decode c_P_aim 1 = .ok (.iconst 0, 1) := by decide +kernel
theorem d_P_aim_2 : decode c_P_aim 2 = .ok (.iconst 3, 1) := by decide +kernel
theorem d_P_aim_3 : decode c_P_aim 3 = .ok (.invokestatic 52, 3) := by decide +kernel
theorem d_P_aim_6 : decode c_P_aim 6 = .ok (.invokestatic 66, 3) := by decide +kernel
theorem d_P_aim_9 : decode c_P_aim 9 = .ok (.iload_n 2, 1) := by decide +kernel
theorem d_P_aim_10 : decode c_P_aim 10 = .ok (.iload_n 3, 1) := by decide +kernel
theorem d_P_aim_11 : decode c_P_aim 11 = .ok (.invokestatic 69, 3) := by decide +kernel
theorem d_P_aim_14 : decode c_P_aim 14 = .ok (.invokestatic 56, 3) := by decide +kernel
theorem d_P_aim_17 : decode c_P_aim 17 = .ok (.aload_n 0, 1) := by decide +kernel
theorem d_P_aim_18 : decode c_P_aim 18 = .ok (.aload_n 0, 1) := by decide +kernel
theorem d_P_aim_19 : decode c_P_aim 19 = .ok (.getfield 12, 3) := by decide +kernel
theorem d_P_aim_22 : decode c_P_aim 22 = .ok (.getfield 81, 3) := by decide +kernel
theorem d_P_aim_25 : decode c_P_aim 25 = .ok (.iload_n 1, 1) := by decide +kernel
theorem d_P_aim_26 : decode c_P_aim 26 = .ok (.iload_n 2, 1) := by decide +kernel
theorem d_P_aim_27 : decode c_P_aim 27 = .ok (.iload_n 3, 1) := by decide +kernel
theorem d_P_aim_28 : decode c_P_aim 28 = .ok (.invokevirtual 77, 3) := by decide +kernel
theorem d_P_aim_31 : decode c_P_aim 31 = .ok (.return_, 1) := by decide +kernel
theorem d_P_kind_0 : decode c_P_kind 0 = .ok (.iload_n 1, 1) := by decide +kernel
theorem d_P_kind_1 : decode c_P_kind 1 = .ok (.iconst 0, 1) := by decide +kernel
theorem d_P_kind_2 : decode c_P_kind 2 = .ok (.ldc 84, 2) := by decide +kernel
theorem d_P_kind_4 : decode c_P_kind 4 = .ok (.invokestatic 52, 3) := by decide +kernel
theorem d_P_kind_7 : decode c_P_kind 7 = .ok (.ifCond .eq 28, 3) := by decide +kernel
theorem d_P_kind_10 : decode c_P_kind 10 = .ok (.iload_n 2, 1) := by decide +kernel
theorem d_P_kind_11 : decode c_P_kind 11 = .ok (.iconst 1, 1) := by decide +kernel
theorem d_P_kind_12 : decode c_P_kind 12 = .ok (.sipush 1000, 3) := by decide +kernel
theorem d_P_kind_15 : decode c_P_kind 15 = .ok (.invokestatic 52, 3) := by decide +kernel
theorem d_P_kind_18 : decode c_P_kind 18 = .ok (.ifCond .eq 17, 3) := by decide +kernel
theorem d_P_kind_21 : decode c_P_kind 21 = .ok (.iload_n 3, 1) := by decide +kernel
theorem d_P_kind_22 : decode c_P_kind 22 = .ok (.iconst 0, 1) := by decide +kernel
theorem d_P_kind_23 : decode c_P_kind 23 = .ok (.bipush 12, 2) := by decide +kernel
theorem d_P_kind_25 : decode c_P_kind 25 = .ok (.invokestatic 52, 3) := by decide +kernel
theorem d_P_kind_28 : decode c_P_kind 28 = .ok (.ifCond .eq 7, 3) := by decide +kernel
theorem d_P_kind_31 : decode c_P_kind 31 = .ok (.iconst 1, 1) := by decide +kernel
theorem d_P_kind_32 : decode c_P_kind 32 = .ok (.goto 4, 3) := by decide +kernel
theorem d_P_kind_35 : decode c_P_kind 35 = .ok (.iconst 0, 1) := by decide +kernel
theorem d_P_kind_36 : decode c_P_kind 36 = .ok (.invokestatic 56, 3) := by decide +kernel
theorem d_P_kind_39 : decode c_P_kind 39 = .ok (.aload_n 0, 1) := by decide +kernel
theorem d_P_kind_40 : decode c_P_kind 40 = .ok (.getfield 37, 3) := by decide +kernel
theorem d_P_kind_43 : decode c_P_kind 43 = .ok (.aload_n 0, 1) := by decide +kernel
theorem d_P_kind_44 : decode c_P_kind 44 = .ok (.getfield 18, 3) := by decide +kernel
theorem d_P_kind_47 : decode c_P_kind 47 = .ok (.arraylength, 1) := by decide +kernel
theorem d_P_kind_48 : decode c_P_kind 48 = .ok (.if_icmp .lt 13, 3) := by decide +kernel
theorem d_P_kind_51 : decode c_P_kind 51 = .ok (.new 85, 3) := by decide +kernel
theorem d_P_kind_54 : decode c_P_kind 54 = .ok (.dup, 1) := by decide +kernel
theorem d_P_kind_55 : decode c_P_kind 55 = .ok (.ldc 87, 2) := by decide +kernel
theorem d_P_kind_57 : decode c_P_kind 57 = .ok (.invokespecial 89, 3) := by decide +kernel
theorem d_P_kind_60 : decode c_P_kind 60 = .ok (.athrow, 1) := by decide +kernel
theorem d_P_kind_61 : decode c_P_kind 61 = .ok (.aload_n 0, 1) := by decide +kernel
theorem d_P_kind_62 : decode c_P_kind 62 = .ok (.getfield 37, 3) := by decide +kernel
theorem d_P_kind_65 : decode c_P_kind 65 = .ok (.istore 4, 2) := by decide +kernel
theorem d_P_kind_67 : decode c_P_kind 67 = .ok (.aload_n 0, 1) := by decide +kernel
theorem d_P_kind_68 : decode c_P_kind 68 = .ok (.getfield 18, 3) := by decide +kernel
theorem d_P_kind_71 : decode c_P_kind 71 = .ok (.iload 4, 2) := by decide +kernel
theorem d_P_kind_73 : decode c_P_kind 73 = .ok (.aaload, 1) := by decide +kernel
theorem d_P_kind_74 : decode c_P_kind 74 = .ok (.iload_n 1, 1) := by decide +kernel
theorem d_P_kind_75 : decode c_P_kind 75 = .ok (.putfield 90, 3) := by decide +kernel
theorem d_P_kind_78 : decode c_P_kind 78 = .ok (.aload_n 0, 1) := by decide +kernel
theorem d_P_kind_79 : decode c_P_kind 79 = .ok (.getfield 18, 3) := by decide +kernel
theorem d_P_kind_82 : decode c_P_kind 82 = .ok (.iload 4, 2) := by decide +kernel
theorem d_P_kind_84 : decode c_P_kind 84 = .ok (.aaload, 1) := by decide +kernel
theorem d_P_kind_85 : decode c_P_kind 85 = .ok (.iload_n 2, 1) := by decide +kernel
theorem d_P_kind_86 : decode c_P_kind 86 = .ok (.putfield 93, 3) := by decide +kernel
theorem d_P_kind_89 : decode c_P_kind 89 = .ok (.aload_n 0, 1) := by decide +kernel
theorem d_P_kind_90 : decode c_P_kind 90 = .ok (.getfield 18, 3) := by decide +kernel
theorem d_P_kind_93 : decode c_P_kind 93 = .ok (.iload 4, 2) := by decide +kernel
theorem d_P_kind_95 : decode c_P_kind 95 = .ok (.aaload, 1) := by decide +kernel
theorem d_P_kind_96 : decode c_P_kind 96 = .ok (.iload_n 3, 1) := by decide +kernel
theorem d_P_kind_97 : decode c_P_kind 97 = .ok (.putfield 94, 3) := by decide +kernel
theorem d_P_kind_100 : decode c_P_kind 100 = .ok (.aload_n 0, 1) := by decide +kernel
theorem d_P_kind_101 : decode c_P_kind 101 = .ok (.iload 4, 2) := by decide +kernel
theorem d_P_kind_103 : decode c_P_kind 103 = .ok (.iconst 1, 1) := by decide +kernel
theorem d_P_kind_104 : decode c_P_kind 104 = .ok (.iadd, 1) := by decide +kernel
theorem d_P_kind_105 : decode c_P_kind 105 = .ok (.putfield 37, 3) := by decide +kernel
theorem d_P_kind_108 : decode c_P_kind 108 = .ok (.aload_n 0, 1) := by decide +kernel
theorem d_P_kind_109 : decode c_P_kind 109 = .ok (.getfield 26, 3) := by decide +kernel
theorem d_P_kind_112 : decode c_P_kind 112 = .ok (.invokevirtual 63, 3) := by decide +kernel
theorem d_P_kind_115 : decode c_P_kind 115 = .ok (.iload 4, 2) := by decide +kernel
theorem d_P_kind_117 : decode c_P_kind 117 = .ok (.ireturn, 1) := by decide +kernel
theorem d_P_holds_0 : decode c_P_holds 0 = .ok (.aload_n 0, 1) := by decide +kernel
theorem d_P_holds_1 : decode c_P_holds 1 = .ok (.iload_n 1, 1) := by decide +kernel
theorem d_P_holds_2 : decode c_P_holds 2 = .ok (.invokevirtual 97, 3) := by decide +kernel
theorem d_P_holds_5 : decode c_P_holds 5 = .ok (.ifCond .eq 16, 3) := by decide +kernel
theorem d_P_holds_8 : decode c_P_holds 8 = .ok (.iload_n 2, 1) := by decide +kernel
theorem d_P_holds_9 : decode c_P_holds 9 = .ok (.iconst 0, 1) := by decide +kernel
theorem d_P_holds_10 : decode c_P_holds 10 = .ok (.iconst 3, 1) := by decide +kernel
theorem d_P_holds_11 : decode c_P_holds 11 = .ok (.invokestatic 52, 3) := by decide +kernel
theorem d_P_holds_14 : decode c_P_holds 14 = .ok (.ifCond .eq 7, 3) := by decide +kernel
theorem d_P_holds_17 : decode c_P_holds 17 = .ok (.iconst 1, 1) := by decide +kernel
theorem d_P_holds_18 : decode c_P_holds 18 = .ok (.goto 4, 3) := by decide +kernel
theorem d_P_holds_21 : decode c_P_holds 21 = .ok (.iconst 0, 1) := by decide +kernel
theorem d_P_holds_22 : decode c_P_holds 22 = .ok (.invokestatic 66, 3) := by decide +kernel
theorem d_P_holds_25 : decode c_P_holds 25 = .ok (.iload_n 3, 1) := by decide +kernel
theorem d_P_holds_26 : decode c_P_holds 26 = .ok (.iload 4, 2) := by decide +kernel
theorem d_P_holds_28 : decode c_P_holds 28 = .ok (.invokestatic 69, 3) := by decide +kernel
theorem d_P_holds_31 : decode c_P_holds 31 = .ok (.invokestatic 56, 3) := by decide +kernel
theorem d_P_holds_34 : decode c_P_holds 34 = .ok (.aload_n 0, 1) := by decide +kernel
theorem d_P_holds_35 : decode c_P_holds 35 = .ok (.aload_n 0, 1) := by decide +kernel
theorem d_P_holds_36 : decode c_P_holds 36 = .ok (.getfield 18, 3) := by decide +kernel
theorem d_P_holds_39 : decode c_P_holds 39 = .ok (.iload_n 1, 1) := by decide +kernel
theorem d_P_holds_40 : decode c_P_holds 40 = .ok (.aaload, 1) := by decide +kernel
theorem d_P_holds_41 : decode c_P_holds 41 = .ok (.getfield 101, 3) := by decide +kernel
theorem d_P_holds_44 : decode c_P_holds 44 = .ok (.iload_n 2, 1) := by decide +kernel
theorem d_P_holds_45 : decode c_P_holds 45 = .ok (.iload_n 3, 1) := by decide +kernel
theorem d_P_holds_46 : decode c_P_holds 46 = .ok (.iload 4, 2) := by decide +kernel
theorem d_P_holds_48 : decode c_P_holds 48 = .ok (.invokevirtual 77, 3) := by decide +kernel
theorem d_P_holds_51 : decode c_P_holds 51 = .ok (.return_, 1) := by decide +kernel
theorem d_P_yields_0 : decode c_P_yields 0 = .ok (.aload_n 0, 1) := by decide +kernel
theorem d_P_yields_1 : decode c_P_yields 1 = .ok (.iload_n 1, 1) := by decide +kernel
theorem d_P_yields_2 : decode c_P_yields 2 = .ok (.invokevirtual 97, 3) := by decide +kernel
theorem d_P_yields_5 : decode c_P_yields 5 = .ok (.invokestatic 66, 3) := by decide +kernel
theorem d_P_yields_8 : decode c_P_yields 8 = .ok (.iload_n 2, 1) := by decide +kernel
theorem d_P_yields_9 : decode c_P_yields 9 = .ok (.iconst 0, 1) := by decide +kernel
theorem d_P_yields_10 : decode c_P_yields 10 = .ok (.sipush 1000, 3) := by decide +kernel
theorem d_P_yields_13 : decode c_P_yields 13 = .ok (.invokestatic 52, 3) := by decide +kernel
theorem d_P_yields_16 : decode c_P_yields 16 = .ok (.ifCond .eq 18, 3) := by decide +kernel
theorem d_P_yields_19 : decode c_P_yields 19 = .ok (.iload_n 3, 1) := by decide +kernel
theorem d_P_yields_20 : decode c_P_yields 20 = .ok (.iconst 0, 1) := by decide +kernel
theorem d_P_yields_21 : decode c_P_yields 21 = .ok (.sipush 1000, 3) := by decide +kernel
theorem d_P_yields_24 : decode c_P_yields 24 = .ok (.invokestatic 52, 3) := by decide +kernel
theorem d_P_yields_27 : decode c_P_yields 27 = .ok (.ifCond .eq 7, 3) := by decide +kernel
theorem d_P_yields_30 : decode c_P_yields 30 = .ok (.iconst 1, 1) := by decide +kernel
theorem d_P_yields_31 : decode c_P_yields 31 = .ok (.goto 4, 3) := by decide +kernel
theorem d_P_yields_34 : decode c_P_yields 34 = .ok (.iconst 0, 1) := by decide +kernel
theorem d_P_yields_35 : decode c_P_yields 35 = .ok (.invokestatic 56, 3) := by decide +kernel
theorem d_P_yields_38 : decode c_P_yields 38 = .ok (.aload_n 0, 1) := by decide +kernel
theorem d_P_yields_39 : decode c_P_yields 39 = .ok (.getfield 18, 3) := by decide +kernel
theorem d_P_yields_42 : decode c_P_yields 42 = .ok (.iload_n 1, 1) := by decide +kernel
theorem d_P_yields_43 : decode c_P_yields 43 = .ok (.aaload, 1) := by decide +kernel
theorem d_P_yields_44 : decode c_P_yields 44 = .ok (.iload_n 2, 1) := by decide +kernel
theorem d_P_yields_45 : decode c_P_yields 45 = .ok (.putfield 104, 3) := by decide +kernel
theorem d_P_yields_48 : decode c_P_yields 48 = .ok (.aload_n 0, 1) := by decide +kernel
theorem d_P_yields_49 : decode c_P_yields 49 = .ok (.getfield 18, 3) := by decide +kernel
theorem d_P_yields_52 : decode c_P_yields 52 = .ok (.iload_n 1, 1) := by decide +kernel
theorem d_P_yields_53 : decode c_P_yields 53 = .ok (.aaload, 1) := by decide +kernel
theorem d_P_yields_54 : decode c_P_yields 54 = .ok (.iload_n 3, 1) := by decide +kernel
theorem d_P_yields_55 : decode c_P_yields 55 = .ok (.putfield 107, 3) := by decide +kernel
theorem d_P_yields_58 : decode c_P_yields 58 = .ok (.aload_n 0, 1) := by decide +kernel
theorem d_P_yields_59 : decode c_P_yields 59 = .ok (.getfield 26, 3) := by decide +kernel
theorem d_P_yields_62 : decode c_P_yields 62 = .ok (.invokevirtual 63, 3) := by decide +kernel
theorem d_P_yields_65 : decode c_P_yields 65 = .ok (.return_, 1) := by decide +kernel
theorem d_P_run_0 : decode c_P_run 0 = .ok (.iload_n 1, 1) := by decide +kernel
theorem d_P_run_1 : decode c_P_run 1 = .ok (.iconst 0, 1) := by decide +kernel
theorem d_P_run_2 : decode c_P_run 2 = .ok (.ldc 110, 2) := by decide +kernel
theorem d_P_run_4 : decode c_P_run 4 = .ok (.invokestatic 52, 3) := by decide +kernel
theorem d_P_run_7 : decode c_P_run 7 = .ok (.invokestatic 56, 3) := by decide +kernel
theorem d_P_run_10 : decode c_P_run 10 = .ok (.aload_n 0, 1) := by decide +kernel
theorem d_P_run_11 : decode c_P_run 11 = .ok (.getfield 26, 3) := by decide +kernel
theorem d_P_run_14 : decode c_P_run 14 = .ok (.invokevirtual 63, 3) := by decide +kernel
theorem d_P_run_17 : decode c_P_run 17 = .ok (.aload_n 0, 1) := by decide +kernel
theorem d_P_run_18 : decode c_P_run 18 = .ok (.getfield 33, 3) := by decide +kernel
theorem d_P_run_21 : decode c_P_run 21 = .ok (.aload_n 0, 1) := by decide +kernel
theorem d_P_run_22 : decode c_P_run 22 = .ok (.getfield 12, 3) := by decide +kernel
theorem d_P_run_25 : decode c_P_run 25 = .ok (.aload_n 0, 1) := by decide +kernel
theorem d_P_run_26 : decode c_P_run 26 = .ok (.getfield 18, 3) := by decide +kernel
theorem d_P_run_29 : decode c_P_run 29 = .ok (.aload_n 0, 1) := by decide +kernel
theorem d_P_run_30 : decode c_P_run 30 = .ok (.getfield 37, 3) := by decide +kernel
theorem d_P_run_33 : decode c_P_run 33 = .ok (.iload_n 1, 1) := by decide +kernel
theorem d_P_run_34 : decode c_P_run 34 = .ok (.invokevirtual 111, 3) := by decide +kernel
theorem d_P_run_37 : decode c_P_run 37 = .ok (.aload_n 0, 1) := by decide +kernel
theorem d_P_run_38 : decode c_P_run 38 = .ok (.getfield 33, 3) := by decide +kernel
theorem d_P_run_41 : decode c_P_run 41 = .ok (.getfield 115, 3) := by decide +kernel
theorem d_P_run_44 : decode c_P_run 44 = .ok (.ifCond .ne 13, 3) := by decide +kernel
theorem d_P_run_47 : decode c_P_run 47 = .ok (.iconst 1, 1) := by decide +kernel
theorem d_P_run_48 : decode c_P_run 48 = .ok (.aload_n 0, 1) := by decide +kernel
theorem d_P_run_49 : decode c_P_run 49 = .ok (.getfield 33, 3) := by decide +kernel
theorem d_P_run_52 : decode c_P_run 52 = .ok (.getfield 119, 3) := by decide +kernel
theorem d_P_run_55 : decode c_P_run 55 = .ok (.iadd, 1) := by decide +kernel
theorem d_P_run_56 : decode c_P_run 56 = .ok (.ireturn, 1) := by decide +kernel
theorem d_P_run_57 : decode c_P_run 57 = .ok (.aload_n 0, 1) := by decide +kernel
theorem d_P_run_58 : decode c_P_run 58 = .ok (.getfield 26, 3) := by decide +kernel
theorem d_P_run_61 : decode c_P_run 61 = .ok (.aload_n 0, 1) := by decide +kernel
theorem d_P_run_62 : decode c_P_run 62 = .ok (.getfield 33, 3) := by decide +kernel
theorem d_P_run_65 : decode c_P_run 65 = .ok (.getfield 122, 3) := by decide +kernel
theorem d_P_run_68 : decode c_P_run 68 = .ok (.aload_n 0, 1) := by decide +kernel
theorem d_P_run_69 : decode c_P_run 69 = .ok (.getfield 18, 3) := by decide +kernel
theorem d_P_run_72 : decode c_P_run 72 = .ok (.aload_n 0, 1) := by decide +kernel
theorem d_P_run_73 : decode c_P_run 73 = .ok (.getfield 37, 3) := by decide +kernel
theorem d_P_run_76 : decode c_P_run 76 = .ok (.invokevirtual 125, 3) := by decide +kernel
theorem d_P_run_79 : decode c_P_run 79 = .ok (.iconst 0, 1) := by decide +kernel
theorem d_P_run_80 : decode c_P_run 80 = .ok (.ireturn, 1) := by decide +kernel
theorem d_P_steps_0 : decode c_P_steps 0 = .ok (.aload_n 0, 1) := by decide +kernel
theorem d_P_steps_1 : decode c_P_steps 1 = .ok (.iload_n 1, 1) := by decide +kernel
theorem d_P_steps_2 : decode c_P_steps 2 = .ok (.invokevirtual 97, 3) := by decide +kernel
theorem d_P_steps_5 : decode c_P_steps 5 = .ok (.invokestatic 66, 3) := by decide +kernel
theorem d_P_steps_8 : decode c_P_steps 8 = .ok (.aload_n 0, 1) := by decide +kernel
theorem d_P_steps_9 : decode c_P_steps 9 = .ok (.invokevirtual 129, 3) := by decide +kernel
theorem d_P_steps_12 : decode c_P_steps 12 = .ok (.aload_n 0, 1) := by decide +kernel
theorem d_P_steps_13 : decode c_P_steps 13 = .ok (.getfield 26, 3) := by decide +kernel
theorem d_P_steps_16 : decode c_P_steps 16 = .ok (.getfield 132, 3) := by decide +kernel
theorem d_P_steps_19 : decode c_P_steps 19 = .ok (.iload_n 1, 1) := by decide +kernel
theorem d_P_steps_20 : decode c_P_steps 20 = .ok (.iaload, 1) := by decide +kernel
theorem d_P_steps_21 : decode c_P_steps 21 = .ok (.ireturn, 1) := by decide +kernel
theorem d_P_planned_0 : decode c_P_planned 0 = .ok (.iload_n 1, 1) := by decide +kernel
theorem d_P_planned_1 : decode c_P_planned 1 = .ok (.iconst 0, 1) := by decide +kernel
theorem d_P_planned_2 : decode c_P_planned 2 = .ok (.iconst 3, 1) := by decide +kernel
theorem d_P_planned_3 : decode c_P_planned 3 = .ok (.invokestatic 52, 3) := by decide +kernel
theorem d_P_planned_6 : decode c_P_planned 6 = .ok (.invokestatic 66, 3) := by decide +kernel
theorem d_P_planned_9 : decode c_P_planned 9 = .ok (.aload_n 0, 1) := by decide +kernel
theorem d_P_planned_10 : decode c_P_planned 10 = .ok (.invokevirtual 129, 3) := by decide +kernel
theorem d_P_planned_13 : decode c_P_planned 13 = .ok (.iload_n 1, 1) := by decide +kernel
theorem d_P_planned_14 : decode c_P_planned 14 = .ok (.tableswitch 50 0 2 #[26, 34, 42], 26) := by decide +kernel
theorem d_P_planned_40 : decode c_P_planned 40 = .ok (.aload_n 0, 1) := by decide +kernel
theorem d_P_planned_41 : decode c_P_planned 41 = .ok (.getfield 26, 3) := by decide +kernel
theorem d_P_planned_44 : decode c_P_planned 44 = .ok (.getfield 135, 3) := by decide +kernel
theorem d_P_planned_47 : decode c_P_planned 47 = .ok (.ireturn, 1) := by decide +kernel
theorem d_P_planned_48 : decode c_P_planned 48 = .ok (.aload_n 0, 1) := by decide +kernel
theorem d_P_planned_49 : decode c_P_planned 49 = .ok (.getfield 26, 3) := by decide +kernel
theorem d_P_planned_52 : decode c_P_planned 52 = .ok (.getfield 136, 3) := by decide +kernel
theorem d_P_planned_55 : decode c_P_planned 55 = .ok (.ireturn, 1) := by decide +kernel
theorem d_P_planned_56 : decode c_P_planned 56 = .ok (.aload_n 0, 1) := by decide +kernel
theorem d_P_planned_57 : decode c_P_planned 57 = .ok (.getfield 26, 3) := by decide +kernel
theorem d_P_planned_60 : decode c_P_planned 60 = .ok (.getfield 137, 3) := by decide +kernel
theorem d_P_planned_63 : decode c_P_planned 63 = .ok (.ireturn, 1) := by decide +kernel
theorem d_P_planned_64 : decode c_P_planned 64 = .ok (.aload_n 0, 1) := by decide +kernel
theorem d_P_planned_65 : decode c_P_planned 65 = .ok (.getfield 26, 3) := by decide +kernel
theorem d_P_planned_68 : decode c_P_planned 68 = .ok (.getfield 140, 3) := by decide +kernel
theorem d_P_planned_71 : decode c_P_planned 71 = .ok (.ireturn, 1) := by decide +kernel
theorem d_P_order_0 : decode c_P_order 0 = .ok (.iload_n 1, 1) := by decide +kernel
theorem d_P_order_1 : decode c_P_order 1 = .ok (.ifCond .lt 7, 3) := by decide +kernel
theorem d_P_order_4 : decode c_P_order 4 = .ok (.iconst 1, 1) := by decide +kernel
theorem d_P_order_5 : decode c_P_order 5 = .ok (.goto 4, 3) := by decide +kernel
theorem d_P_order_8 : decode c_P_order 8 = .ok (.iconst 0, 1) := by decide +kernel
theorem d_P_order_9 : decode c_P_order 9 = .ok (.invokestatic 66, 3) := by decide +kernel
theorem d_P_order_12 : decode c_P_order 12 = .ok (.aload_n 0, 1) := by decide +kernel
theorem d_P_order_13 : decode c_P_order 13 = .ok (.invokevirtual 129, 3) := by decide +kernel
theorem d_P_order_16 : decode c_P_order 16 = .ok (.iconst 0, 1) := by decide +kernel
theorem d_P_order_17 : decode c_P_order 17 = .ok (.istore_n 2, 1) := by decide +kernel
theorem d_P_order_18 : decode c_P_order 18 = .ok (.iload_n 2, 1) := by decide +kernel
theorem d_P_order_19 : decode c_P_order 19 = .ok (.aload_n 0, 1) := by decide +kernel
theorem d_P_order_20 : decode c_P_order 20 = .ok (.getfield 37, 3) := by decide +kernel
theorem d_P_order_23 : decode c_P_order 23 = .ok (.if_icmp .ge 40, 3) := by decide +kernel
theorem d_P_order_26 : decode c_P_order 26 = .ok (.iload_n 2, 1) := by decide +kernel
theorem d_P_order_27 : decode c_P_order 27 = .ok (.aload_n 0, 1) := by decide +kernel
theorem d_P_order_28 : decode c_P_order 28 = .ok (.getfield 18, 3) := by decide +kernel
theorem d_P_order_31 : decode c_P_order 31 = .ok (.arraylength, 1) := by decide +kernel
theorem d_P_order_32 : decode c_P_order 32 = .ok (.if_icmp .ge 31, 3) := by decide +kernel
theorem d_P_order_35 : decode c_P_order 35 = .ok (.aload_n 0, 1) := by decide +kernel
theorem d_P_order_36 : decode c_P_order 36 = .ok (.getfield 26, 3) := by decide +kernel
theorem d_P_order_39 : decode c_P_order 39 = .ok (.iload_n 2, 1) := by decide +kernel
theorem d_P_order_40 : decode c_P_order 40 = .ok (.invokevirtual 141, 3) := by decide +kernel
theorem d_P_order_43 : decode c_P_order 43 = .ok (.ifCond .eq 14, 3) := by decide +kernel
theorem d_P_order_46 : decode c_P_order 46 = .ok (.aload_n 0, 1) := by decide +kernel
theorem d_P_order_47 : decode c_P_order 47 = .ok (.iload_n 2, 1) := by decide +kernel
theorem d_P_order_48 : decode c_P_order 48 = .ok (.invokevirtual 144, 3) := by decide +kernel
theorem d_P_order_51 : decode c_P_order 51 = .ok (.iload_n 1, 1) := by decide +kernel
theorem d_P_order_52 : decode c_P_order 52 = .ok (.if_icmp .ne 5, 3) := by decide +kernel
theorem d_P_order_55 : decode c_P_order 55 = .ok (.iload_n 2, 1) := by decide +kernel
theorem d_P_order_56 : decode c_P_order 56 = .ok (.ireturn, 1) := by decide +kernel
theorem d_P_order_57 : decode c_P_order 57 = .ok (.iinc 2 1, 3) := by decide +kernel
theorem d_P_order_60 : decode c_P_order 60 = .ok (.goto (-42), 3) := by decide +kernel
theorem d_P_order_63 : decode c_P_order 63 = .ok (.iconst (-1), 1) := by decide +kernel
theorem d_P_order_64 : decode c_P_order 64 = .ok (.ireturn, 1) := by decide +kernel
theorem d_P_after_0 : decode c_P_after 0 = .ok (.iload_n 1, 1) := by decide +kernel
theorem d_P_after_1 : decode c_P_after 1 = .ok (.iconst 0, 1) := by decide +kernel
theorem d_P_after_2 : decode c_P_after 2 = .ok (.iconst 3, 1) := by decide +kernel
theorem d_P_after_3 : decode c_P_after 3 = .ok (.invokestatic 52, 3) := by decide +kernel
theorem d_P_after_6 : decode c_P_after 6 = .ok (.ifCond .eq 25, 3) := by decide +kernel
theorem d_P_after_9 : decode c_P_after 9 = .ok (.iload_n 2, 1) := by decide +kernel
theorem d_P_after_10 : decode c_P_after 10 = .ok (.iconst 0, 1) := by decide +kernel
theorem d_P_after_11 : decode c_P_after 11 = .ok (.iconst 1, 1) := by decide +kernel
theorem d_P_after_12 : decode c_P_after 12 = .ok (.invokestatic 52, 3) := by decide +kernel
theorem d_P_after_15 : decode c_P_after 15 = .ok (.ifCond .eq 16, 3) := by decide +kernel
theorem d_P_after_18 : decode c_P_after 18 = .ok (.iload_n 3, 1) := by decide +kernel
theorem d_P_after_19 : decode c_P_after 19 = .ok (.iconst 0, 1) := by decide +kernel
theorem d_P_after_20 : decode c_P_after 20 = .ok (.iconst 1, 1) := by decide +kernel
theorem d_P_after_21 : decode c_P_after 21 = .ok (.invokestatic 52, 3) := by decide +kernel
theorem d_P_after_24 : decode c_P_after 24 = .ok (.ifCond .eq 7, 3) := by decide +kernel
theorem d_P_after_27 : decode c_P_after 27 = .ok (.iconst 1, 1) := by decide +kernel
theorem d_P_after_28 : decode c_P_after 28 = .ok (.goto 4, 3) := by decide +kernel
theorem d_P_after_31 : decode c_P_after 31 = .ok (.iconst 0, 1) := by decide +kernel
theorem d_P_after_32 : decode c_P_after 32 = .ok (.invokestatic 66, 3) := by decide +kernel
theorem d_P_after_35 : decode c_P_after 35 = .ok (.aload_n 0, 1) := by decide +kernel
theorem d_P_after_36 : decode c_P_after 36 = .ok (.invokevirtual 129, 3) := by decide +kernel
theorem d_P_after_39 : decode c_P_after 39 = .ok (.aload_n 0, 1) := by decide +kernel
theorem d_P_after_40 : decode c_P_after 40 = .ok (.iconst 2, 1) := by decide +kernel
theorem d_P_after_41 : decode c_P_after 41 = .ok (.iload_n 1, 1) := by decide +kernel
theorem d_P_after_42 : decode c_P_after 42 = .ok (.imul, 1) := by decide +kernel
theorem d_P_after_43 : decode c_P_after 43 = .ok (.iload_n 2, 1) := by decide +kernel
theorem d_P_after_44 : decode c_P_after 44 = .ok (.iadd, 1) := by decide +kernel
theorem d_P_after_45 : decode c_P_after 45 = .ok (.invokevirtual 148, 3) := by decide +kernel
theorem d_P_after_48 : decode c_P_after 48 = .ok (.lstore 4, 2) := by decide +kernel
theorem d_P_after_50 : decode c_P_after 50 = .ok (.aload_n 0, 1) := by decide +kernel
theorem d_P_after_51 : decode c_P_after 51 = .ok (.invokevirtual 152, 3) := by decide +kernel
theorem d_P_after_54 : decode c_P_after 54 = .ok (.lstore 6, 2) := by decide +kernel
theorem d_P_after_56 : decode c_P_after 56 = .ok (.iload_n 3, 1) := by decide +kernel
theorem d_P_after_57 : decode c_P_after 57 = .ok (.ifCond .ne 8, 3) := by decide +kernel
theorem d_P_after_60 : decode c_P_after 60 = .ok (.lload 4, 2) := by decide +kernel
theorem d_P_after_62 : decode c_P_after 62 = .ok (.goto 5, 3) := by decide +kernel
theorem d_P_after_65 : decode c_P_after 65 = .ok (.lload 6, 2) := by decide +kernel
theorem d_P_after_67 : decode c_P_after 67 = .ok (.lload 4, 2) := by decide +kernel
theorem d_P_after_69 : decode c_P_after 69 = .ok (.lload 6, 2) := by decide +kernel
theorem d_P_after_71 : decode c_P_after 71 = .ok (.invokestatic 156, 3) := by decide +kernel
theorem d_P_after_74 : decode c_P_after 74 = .ok (.invokestatic 160, 3) := by decide +kernel
theorem d_P_after_77 : decode c_P_after 77 = .ok (.lreturn, 1) := by decide +kernel
theorem d_P_add_0 : decode c_P_add 0 = .ok (.aload_n 0, 1) := by decide +kernel
theorem d_P_add_1 : decode c_P_add 1 = .ok (.invokevirtual 129, 3) := by decide +kernel
theorem d_P_add_4 : decode c_P_add 4 = .ok (.aload_n 0, 1) := by decide +kernel
theorem d_P_add_5 : decode c_P_add 5 = .ok (.getfield 12, 3) := by decide +kernel
theorem d_P_add_8 : decode c_P_add 8 = .ok (.getfield 60, 3) := by decide +kernel
theorem d_P_add_11 : decode c_P_add 11 = .ok (.aload_n 0, 1) := by decide +kernel
theorem d_P_add_12 : decode c_P_add 12 = .ok (.getfield 26, 3) := by decide +kernel
theorem d_P_add_15 : decode c_P_add 15 = .ok (.getfield 136, 3) := by decide +kernel
theorem d_P_add_18 : decode c_P_add 18 = .ok (.iadd, 1) := by decide +kernel
theorem d_P_add_19 : decode c_P_add 19 = .ok (.ldc 51, 2) := by decide +kernel
theorem d_P_add_21 : decode c_P_add 21 = .ok (.if_icmp .le 13, 3) := by decide +kernel
theorem d_P_add_24 : decode c_P_add 24 = .ok (.new 85, 3) := by decide +kernel
theorem d_P_add_27 : decode c_P_add 27 = .ok (.dup, 1) := by decide +kernel
theorem d_P_add_28 : decode c_P_add 28 = .ok (.ldc 163, 2) := by decide +kernel
theorem d_P_add_30 : decode c_P_add 30 = .ok (.invokespecial 89, 3) := by decide +kernel
theorem d_P_add_33 : decode c_P_add 33 = .ok (.athrow, 1) := by decide +kernel
theorem d_P_add_34 : decode c_P_add 34 = .ok (.iconst 0, 1) := by decide +kernel
theorem d_P_add_35 : decode c_P_add 35 = .ok (.istore_n 1, 1) := by decide +kernel
theorem d_P_add_36 : decode c_P_add 36 = .ok (.iload_n 1, 1) := by decide +kernel
theorem d_P_add_37 : decode c_P_add 37 = .ok (.aload_n 0, 1) := by decide +kernel
theorem d_P_add_38 : decode c_P_add 38 = .ok (.getfield 12, 3) := by decide +kernel
theorem d_P_add_41 : decode c_P_add 41 = .ok (.getfield 73, 3) := by decide +kernel
theorem d_P_add_44 : decode c_P_add 44 = .ok (.arraylength, 1) := by decide +kernel
theorem d_P_add_45 : decode c_P_add 45 = .ok (.if_icmp .ge 23, 3) := by decide +kernel
theorem d_P_add_48 : decode c_P_add 48 = .ok (.aload_n 0, 1) := by decide +kernel
theorem d_P_add_49 : decode c_P_add 49 = .ok (.getfield 12, 3) := by decide +kernel
theorem d_P_add_52 : decode c_P_add 52 = .ok (.getfield 73, 3) := by decide +kernel
theorem d_P_add_55 : decode c_P_add 55 = .ok (.iload_n 1, 1) := by decide +kernel
theorem d_P_add_56 : decode c_P_add 56 = .ok (.aload_n 0, 1) := by decide +kernel
theorem d_P_add_57 : decode c_P_add 57 = .ok (.iload_n 1, 1) := by decide +kernel
theorem d_P_add_58 : decode c_P_add 58 = .ok (.invokevirtual 165, 3) := by decide +kernel
theorem d_P_add_61 : decode c_P_add 61 = .ok (.iastore, 1) := by decide +kernel
theorem d_P_add_62 : decode c_P_add 62 = .ok (.iinc 1 1, 3) := by decide +kernel
theorem d_P_add_65 : decode c_P_add 65 = .ok (.goto (-29), 3) := by decide +kernel
theorem d_P_add_68 : decode c_P_add 68 = .ok (.aload_n 0, 1) := by decide +kernel
theorem d_P_add_69 : decode c_P_add 69 = .ok (.getfield 12, 3) := by decide +kernel
theorem d_P_add_72 : decode c_P_add 72 = .ok (.dup, 1) := by decide +kernel
theorem d_P_add_73 : decode c_P_add 73 = .ok (.getfield 60, 3) := by decide +kernel
theorem d_P_add_76 : decode c_P_add 76 = .ok (.aload_n 0, 1) := by decide +kernel
theorem d_P_add_77 : decode c_P_add 77 = .ok (.getfield 26, 3) := by decide +kernel
theorem d_P_add_80 : decode c_P_add 80 = .ok (.getfield 136, 3) := by decide +kernel
theorem d_P_add_83 : decode c_P_add 83 = .ok (.iadd, 1) := by decide +kernel
theorem d_P_add_84 : decode c_P_add 84 = .ok (.putfield 60, 3) := by decide +kernel
theorem d_P_add_87 : decode c_P_add 87 = .ok (.aload_n 0, 1) := by decide +kernel
theorem d_P_add_88 : decode c_P_add 88 = .ok (.getfield 12, 3) := by decide +kernel
theorem d_P_add_91 : decode c_P_add 91 = .ok (.dup, 1) := by decide +kernel
theorem d_P_add_92 : decode c_P_add 92 = .ok (.getfield 168, 3) := by decide +kernel
theorem d_P_add_95 : decode c_P_add 95 = .ok (.aload_n 0, 1) := by decide +kernel
theorem d_P_add_96 : decode c_P_add 96 = .ok (.getfield 26, 3) := by decide +kernel
theorem d_P_add_99 : decode c_P_add 99 = .ok (.getfield 135, 3) := by decide +kernel
theorem d_P_add_102 : decode c_P_add 102 = .ok (.i2l, 1) := by decide +kernel
theorem d_P_add_103 : decode c_P_add 103 = .ok (.ladd, 1) := by decide +kernel
theorem d_P_add_104 : decode c_P_add 104 = .ok (.putfield 168, 3) := by decide +kernel
theorem d_P_add_107 : decode c_P_add 107 = .ok (.aload_n 0, 1) := by decide +kernel
theorem d_P_add_108 : decode c_P_add 108 = .ok (.getfield 12, 3) := by decide +kernel
theorem d_P_add_111 : decode c_P_add 111 = .ok (.dup, 1) := by decide +kernel
theorem d_P_add_112 : decode c_P_add 112 = .ok (.getfield 41, 3) := by decide +kernel
theorem d_P_add_115 : decode c_P_add 115 = .ok (.iconst 1, 1) := by decide +kernel
theorem d_P_add_116 : decode c_P_add 116 = .ok (.iadd, 1) := by decide +kernel
theorem d_P_add_117 : decode c_P_add 117 = .ok (.putfield 41, 3) := by decide +kernel
theorem d_P_add_120 : decode c_P_add 120 = .ok (.aload_n 0, 1) := by decide +kernel
theorem d_P_add_121 : decode c_P_add 121 = .ok (.getfield 26, 3) := by decide +kernel
theorem d_P_add_124 : decode c_P_add 124 = .ok (.invokevirtual 63, 3) := by decide +kernel
theorem d_P_add_127 : decode c_P_add 127 = .ok (.aload_n 0, 1) := by decide +kernel
theorem d_P_add_128 : decode c_P_add 128 = .ok (.getfield 12, 3) := by decide +kernel
theorem d_P_add_131 : decode c_P_add 131 = .ok (.getfield 41, 3) := by decide +kernel
theorem d_P_add_134 : decode c_P_add 134 = .ok (.iconst 1, 1) := by decide +kernel
theorem d_P_add_135 : decode c_P_add 135 = .ok (.isub, 1) := by decide +kernel
theorem d_P_add_136 : decode c_P_add 136 = .ok (.ireturn, 1) := by decide +kernel
theorem d_P_heatAt_0 : decode c_P_heatAt 0 = .ok (.iload_n 1, 1) := by decide +kernel
theorem d_P_heatAt_1 : decode c_P_heatAt 1 = .ok (.iconst 0, 1) := by decide +kernel
theorem d_P_heatAt_2 : decode c_P_heatAt 2 = .ok (.bipush 9, 2) := by decide +kernel
theorem d_P_heatAt_4 : decode c_P_heatAt 4 = .ok (.invokestatic 52, 3) := by decide +kernel
theorem d_P_heatAt_7 : decode c_P_heatAt 7 = .ok (.invokestatic 66, 3) := by decide +kernel
theorem d_P_heatAt_10 : decode c_P_heatAt 10 = .ok (.iload_n 1, 1) := by decide +kernel
theorem d_P_heatAt_11 : decode c_P_heatAt 11 = .ok (.ifCond .ne 12, 3) := by decide +kernel
theorem d_P_heatAt_14 : decode c_P_heatAt 14 = .ok (.aload_n 0, 1) := by decide +kernel
theorem d_P_heatAt_15 : decode c_P_heatAt 15 = .ok (.getfield 12, 3) := by decide +kernel
theorem d_P_heatAt_18 : decode c_P_heatAt 18 = .ok (.getfield 60, 3) := by decide +kernel
theorem d_P_heatAt_21 : decode c_P_heatAt 21 = .ok (.i2l, 1) := by decide +kernel
theorem d_P_heatAt_22 : decode c_P_heatAt 22 = .ok (.lreturn, 1) := by decide +kernel
theorem d_P_heatAt_23 : decode c_P_heatAt 23 = .ok (.iload_n 1, 1) := by decide +kernel
theorem d_P_heatAt_24 : decode c_P_heatAt 24 = .ok (.bipush 9, 2) := by decide +kernel
theorem d_P_heatAt_26 : decode c_P_heatAt 26 = .ok (.if_icmp .ne 11, 3) := by decide +kernel
theorem d_P_heatAt_29 : decode c_P_heatAt 29 = .ok (.aload_n 0, 1) := by decide +kernel
theorem d_P_heatAt_30 : decode c_P_heatAt 30 = .ok (.getfield 12, 3) := by decide +kernel
theorem d_P_heatAt_33 : decode c_P_heatAt 33 = .ok (.getfield 168, 3) := by decide +kernel
theorem d_P_heatAt_36 : decode c_P_heatAt 36 = .ok (.lreturn, 1) := by decide +kernel
theorem d_P_heatAt_37 : decode c_P_heatAt 37 = .ok (.aload_n 0, 1) := by decide +kernel
theorem d_P_heatAt_38 : decode c_P_heatAt 38 = .ok (.getfield 12, 3) := by decide +kernel
theorem d_P_heatAt_41 : decode c_P_heatAt 41 = .ok (.getfield 73, 3) := by decide +kernel
theorem d_P_heatAt_44 : decode c_P_heatAt 44 = .ok (.iload_n 1, 1) := by decide +kernel
theorem d_P_heatAt_45 : decode c_P_heatAt 45 = .ok (.iconst 1, 1) := by decide +kernel
theorem d_P_heatAt_46 : decode c_P_heatAt 46 = .ok (.isub, 1) := by decide +kernel
theorem d_P_heatAt_47 : decode c_P_heatAt 47 = .ok (.iaload, 1) := by decide +kernel
theorem d_P_heatAt_48 : decode c_P_heatAt 48 = .ok (.i2l, 1) := by decide +kernel
theorem d_P_heatAt_49 : decode c_P_heatAt 49 = .ok (.lreturn, 1) := by decide +kernel
theorem d_P_requireIndex_0 : decode c_P_requireIndex 0 = .ok (.iload_n 0, 1) := by decide +kernel
theorem d_P_requireIndex_1 : decode c_P_requireIndex 1 = .ok (.ifCond .ne 13, 3) := by decide +kernel
theorem d_P_requireIndex_4 : decode c_P_requireIndex 4 = .ok (.new 171, 3) := by decide +kernel
theorem d_P_requireIndex_7 : decode c_P_requireIndex 7 = .ok (.dup, 1) := by decide +kernel
theorem d_P_requireIndex_8 : decode c_P_requireIndex 8 = .ok (.ldc 173, 2) := by decide +kernel
theorem d_P_requireIndex_10 : decode c_P_requireIndex 10 = .ok (.invokespecial 175, 3) := by decide +kernel
theorem d_P_requireIndex_13 : decode c_P_requireIndex 13 = .ok (.athrow, 1) := by decide +kernel
theorem d_P_requireIndex_14 : decode c_P_requireIndex 14 = .ok (.return_, 1) := by decide +kernel
theorem d_P_requireRange_0 : decode c_P_requireRange 0 = .ok (.iload_n 0, 1) := by decide +kernel
theorem d_P_requireRange_1 : decode c_P_requireRange 1 = .ok (.ifCond .ne 13, 3) := by decide +kernel
theorem d_P_requireRange_4 : decode c_P_requireRange 4 = .ok (.new 176, 3) := by decide +kernel
theorem d_P_requireRange_7 : decode c_P_requireRange 7 = .ok (.dup, 1) := by decide +kernel
theorem d_P_requireRange_8 : decode c_P_requireRange 8 = .ok (.ldc 178, 2) := by decide +kernel
theorem d_P_requireRange_10 : decode c_P_requireRange 10 = .ok (.invokespecial 180, 3) := by decide +kernel
theorem d_P_requireRange_13 : decode c_P_requireRange 13 = .ok (.athrow, 1) := by decide +kernel
theorem d_P_requireRange_14 : decode c_P_requireRange 14 = .ok (.return_, 1) := by decide +kernel
theorem d_P_requirePlan_0 : decode c_P_requirePlan 0 = .ok (.aload_n 0, 1) := by decide +kernel
theorem d_P_requirePlan_1 : decode c_P_requirePlan 1 = .ok (.getfield 26, 3) := by decide +kernel
theorem d_P_requirePlan_4 : decode c_P_requirePlan 4 = .ok (.getfield 181, 3) := by decide +kernel
theorem d_P_requirePlan_7 : decode c_P_requirePlan 7 = .ok (.ifCond .ne 13, 3) := by decide +kernel
theorem d_P_requirePlan_10 : decode c_P_requirePlan 10 = .ok (.new 44, 3) := by decide +kernel
theorem d_P_requirePlan_13 : decode c_P_requirePlan 13 = .ok (.dup, 1) := by decide +kernel
theorem d_P_requirePlan_14 : decode c_P_requirePlan 14 = .ok (.ldc 184, 2) := by decide +kernel
theorem d_P_requirePlan_16 : decode c_P_requirePlan 16 = .ok (.invokespecial 48, 3) := by decide +kernel
theorem d_P_requirePlan_19 : decode c_P_requirePlan 19 = .ok (.athrow, 1) := by decide +kernel
theorem d_P_requirePlan_20 : decode c_P_requirePlan 20 = .ok (.return_, 1) := by decide +kernel
theorem d_P_isWithin_0 : decode c_P_isWithin 0 = .ok (.iload_n 0, 1) := by decide +kernel
theorem d_P_isWithin_1 : decode c_P_isWithin 1 = .ok (.iload_n 1, 1) := by decide +kernel
theorem d_P_isWithin_2 : decode c_P_isWithin 2 = .ok (.if_icmp .lt 12, 3) := by decide +kernel
theorem d_P_isWithin_5 : decode c_P_isWithin 5 = .ok (.iload_n 0, 1) := by decide +kernel
theorem d_P_isWithin_6 : decode c_P_isWithin 6 = .ok (.iload_n 2, 1) := by decide +kernel
theorem d_P_isWithin_7 : decode c_P_isWithin 7 = .ok (.if_icmp .gt 7, 3) := by decide +kernel
theorem d_P_isWithin_10 : decode c_P_isWithin 10 = .ok (.iconst 1, 1) := by decide +kernel
theorem d_P_isWithin_11 : decode c_P_isWithin 11 = .ok (.goto 4, 3) := by decide +kernel
theorem d_P_isWithin_14 : decode c_P_isWithin 14 = .ok (.iconst 0, 1) := by decide +kernel
theorem d_P_isWithin_15 : decode c_P_isWithin 15 = .ok (.ireturn, 1) := by decide +kernel
theorem d_P_isSpan_0 : decode c_P_isSpan 0 = .ok (.iload_n 0, 1) := by decide +kernel
theorem d_P_isSpan_1 : decode c_P_isSpan 1 = .ok (.ifCond .lt 18, 3) := by decide +kernel
theorem d_P_isSpan_4 : decode c_P_isSpan 4 = .ok (.iload_n 0, 1) := by decide +kernel
theorem d_P_isSpan_5 : decode c_P_isSpan 5 = .ok (.iload_n 1, 1) := by decide +kernel
theorem d_P_isSpan_6 : decode c_P_isSpan 6 = .ok (.if_icmp .gt 13, 3) := by decide +kernel
theorem d_P_isSpan_9 : decode c_P_isSpan 9 = .ok (.iload_n 1, 1) := by decide +kernel
theorem d_P_isSpan_10 : decode c_P_isSpan 10 = .ok (.ldc 84, 2) := by decide +kernel
theorem d_P_isSpan_12 : decode c_P_isSpan 12 = .ok (.if_icmp .gt 7, 3) := by decide +kernel
theorem d_P_isSpan_15 : decode c_P_isSpan 15 = .ok (.iconst 1, 1) := by decide +kernel
theorem d_P_isSpan_16 : decode c_P_isSpan 16 = .ok (.goto 4, 3) := by decide +kernel
theorem d_P_isSpan_19 : decode c_P_isSpan 19 = .ok (.iconst 0, 1) := by decide +kernel
theorem d_P_isSpan_20 : decode c_P_isSpan 20 = .ok (.ireturn, 1) := by decide +kernel
theorem d_P_isKind_0 : decode c_P_isKind 0 = .ok (.iload_n 1, 1) := by decide +kernel
theorem d_P_isKind_1 : decode c_P_isKind 1 = .ok (.ifCond .lt 24, 3) := by decide +kernel
theorem d_P_isKind_4 : decode c_P_isKind 4 = .ok (.iload_n 1, 1) := by decide +kernel
theorem d_P_isKind_5 : decode c_P_isKind 5 = .ok (.aload_n 0, 1) := by decide +kernel
theorem d_P_isKind_6 : decode c_P_isKind 6 = .ok (.getfield 37, 3) := by decide +kernel
theorem d_P_isKind_9 : decode c_P_isKind 9 = .ok (.if_icmp .ge 16, 3) := by decide +kernel
theorem d_P_isKind_12 : decode c_P_isKind 12 = .ok (.iload_n 1, 1) := by decide +kernel
theorem d_P_isKind_13 : decode c_P_isKind 13 = .ok (.aload_n 0, 1) := by decide +kernel
theorem d_P_isKind_14 : decode c_P_isKind 14 = .ok (.getfield 18, 3) := by decide +kernel
theorem d_P_isKind_17 : decode c_P_isKind 17 = .ok (.arraylength, 1) := by decide +kernel
theorem d_P_isKind_18 : decode c_P_isKind 18 = .ok (.if_icmp .ge 7, 3) := by decide +kernel
theorem d_P_isKind_21 : decode c_P_isKind 21 = .ok (.iconst 1, 1) := by decide +kernel
theorem d_P_isKind_22 : decode c_P_isKind 22 = .ok (.goto 4, 3) := by decide +kernel
theorem d_P_isKind_25 : decode c_P_isKind 25 = .ok (.iconst 0, 1) := by decide +kernel
theorem d_P_isKind_26 : decode c_P_isKind 26 = .ok (.ireturn, 1) := by decide +kernel
theorem d_P_isLowEnd_0 : decode c_P_isLowEnd 0 = .ok (.iload_n 0, 1) := by decide +kernel
theorem d_P_isLowEnd_1 : decode c_P_isLowEnd 1 = .ok (.iconst 2, 1) := by decide +kernel
theorem d_P_isLowEnd_2 : decode c_P_isLowEnd 2 = .ok (.irem, 1) := by decide +kernel
theorem d_P_isLowEnd_3 : decode c_P_isLowEnd 3 = .ok (.ifCond .ne 7, 3) := by decide +kernel
theorem d_P_isLowEnd_6 : decode c_P_isLowEnd 6 = .ok (.iconst 1, 1) := by decide +kernel
theorem d_P_isLowEnd_7 : decode c_P_isLowEnd 7 = .ok (.goto 4, 3) := by decide +kernel
theorem d_P_isLowEnd_10 : decode c_P_isLowEnd 10 = .ok (.iconst 0, 1) := by decide +kernel
theorem d_P_isLowEnd_11 : decode c_P_isLowEnd 11 = .ok (.ireturn, 1) := by decide +kernel
theorem d_P_tell_0 : decode c_P_tell 0 = .ok (.aload_n 1, 1) := by decide +kernel
theorem d_P_tell_1 : decode c_P_tell 1 = .ok (.iconst 2, 1) := by decide +kernel
theorem d_P_tell_2 : decode c_P_tell 2 = .ok (.iload_n 2, 1) := by decide +kernel
theorem d_P_tell_3 : decode c_P_tell 3 = .ok (.imul, 1) := by decide +kernel
theorem d_P_tell_4 : decode c_P_tell 4 = .ok (.iload_n 3, 1) := by decide +kernel
theorem d_P_tell_5 : decode c_P_tell 5 = .ok (.iastore, 1) := by decide +kernel
theorem d_P_tell_6 : decode c_P_tell 6 = .ok (.aload_n 1, 1) := by decide +kernel
theorem d_P_tell_7 : decode c_P_tell 7 = .ok (.iconst 2, 1) := by decide +kernel
theorem d_P_tell_8 : decode c_P_tell 8 = .ok (.iload_n 2, 1) := by decide +kernel
theorem d_P_tell_9 : decode c_P_tell 9 = .ok (.imul, 1) := by decide +kernel
theorem d_P_tell_10 : decode c_P_tell 10 = .ok (.iconst 1, 1) := by decide +kernel
theorem d_P_tell_11 : decode c_P_tell 11 = .ok (.iadd, 1) := by decide +kernel
theorem d_P_tell_12 : decode c_P_tell 12 = .ok (.iload 4, 2) := by decide +kernel
theorem d_P_tell_14 : decode c_P_tell 14 = .ok (.iastore, 1) := by decide +kernel
theorem d_P_tell_15 : decode c_P_tell 15 = .ok (.aload_n 0, 1) := by decide +kernel
theorem d_P_tell_16 : decode c_P_tell 16 = .ok (.getfield 26, 3) := by decide +kernel
theorem d_P_tell_19 : decode c_P_tell 19 = .ok (.invokevirtual 63, 3) := by decide +kernel
theorem d_P_tell_22 : decode c_P_tell 22 = .ok (.return_, 1) := by decide +kernel
theorem d_P_countAddedBefore_0 : decode c_P_countAddedBefore 0 = .ok (.iconst 0, 1) := by decide +kernel
theorem d_P_countAddedBefore_1 : decode c_P_countAddedBefore 1 = .ok (.istore_n 2, 1) := by decide +kernel
theorem d_P_countAddedBefore_2 : decode c_P_countAddedBefore 2 = .ok (.iconst 0, 1) := by decide +kernel
theorem d_P_countAddedBefore_3 : decode c_P_countAddedBefore 3 = .ok (.istore_n 3, 1) := by decide +kernel
theorem d_P_countAddedBefore_4 : decode c_P_countAddedBefore 4 = .ok (.iload_n 3, 1) := by decide +kernel
theorem d_P_countAddedBefore_5 : decode c_P_countAddedBefore 5 = .ok (.aload_n 0, 1) := by decide +kernel
theorem d_P_countAddedBefore_6 : decode c_P_countAddedBefore 6 = .ok (.getfield 37, 3) := by decide +kernel
theorem d_P_countAddedBefore_9 : decode c_P_countAddedBefore 9 = .ok (.if_icmp .ge 46, 3) := by decide +kernel
theorem d_P_countAddedBefore_12 : decode c_P_countAddedBefore 12 = .ok (.iload_n 3, 1) := by decide +kernel
theorem d_P_countAddedBefore_13 : decode c_P_countAddedBefore 13 = .ok (.aload_n 0, 1) := by decide +kernel
theorem d_P_countAddedBefore_14 : decode c_P_countAddedBefore 14 = .ok (.getfield 18, 3) := by decide +kernel
theorem d_P_countAddedBefore_17 : decode c_P_countAddedBefore 17 = .ok (.arraylength, 1) := by decide +kernel
theorem d_P_countAddedBefore_18 : decode c_P_countAddedBefore 18 = .ok (.if_icmp .ge 37, 3) := by decide +kernel
theorem d_P_countAddedBefore_21 : decode c_P_countAddedBefore 21 = .ok (.iload_n 3, 1) := by decide +kernel
theorem d_P_countAddedBefore_22 : decode c_P_countAddedBefore 22 = .ok (.iload_n 1, 1) := by decide +kernel
theorem d_P_countAddedBefore_23 : decode c_P_countAddedBefore 23 = .ok (.if_icmp .eq 26, 3) := by decide +kernel
theorem d_P_countAddedBefore_26 : decode c_P_countAddedBefore 26 = .ok (.aload_n 0, 1) := by decide +kernel
theorem d_P_countAddedBefore_27 : decode c_P_countAddedBefore 27 = .ok (.getfield 26, 3) := by decide +kernel
theorem d_P_countAddedBefore_30 : decode c_P_countAddedBefore 30 = .ok (.iload_n 3, 1) := by decide +kernel
theorem d_P_countAddedBefore_31 : decode c_P_countAddedBefore 31 = .ok (.invokevirtual 141, 3) := by decide +kernel
theorem d_P_countAddedBefore_34 : decode c_P_countAddedBefore 34 = .ok (.ifCond .eq 15, 3) := by decide +kernel
theorem d_P_countAddedBefore_37 : decode c_P_countAddedBefore 37 = .ok (.aload_n 0, 1) := by decide +kernel
theorem d_P_countAddedBefore_38 : decode c_P_countAddedBefore 38 = .ok (.iload_n 3, 1) := by decide +kernel
theorem d_P_countAddedBefore_39 : decode c_P_countAddedBefore 39 = .ok (.iload_n 1, 1) := by decide +kernel
theorem d_P_countAddedBefore_40 : decode c_P_countAddedBefore 40 = .ok (.invokevirtual 186, 3) := by decide +kernel
theorem d_P_countAddedBefore_43 : decode c_P_countAddedBefore 43 = .ok (.ifCond .eq 6, 3) := by decide +kernel
theorem d_P_countAddedBefore_46 : decode c_P_countAddedBefore 46 = .ok (.iinc 2 1, 3) := by decide +kernel
theorem d_P_countAddedBefore_49 : decode c_P_countAddedBefore 49 = .ok (.iinc 3 1, 3) := by decide +kernel
theorem d_P_countAddedBefore_52 : decode c_P_countAddedBefore 52 = .ok (.goto (-48), 3) := by decide +kernel
theorem d_P_countAddedBefore_55 : decode c_P_countAddedBefore 55 = .ok (.iload_n 2, 1) := by decide +kernel
theorem d_P_countAddedBefore_56 : decode c_P_countAddedBefore 56 = .ok (.ireturn, 1) := by decide +kernel
theorem d_P_isAddedBefore_0 : decode c_P_isAddedBefore 0 = .ok (.aload_n 0, 1) := by decide +kernel
theorem d_P_isAddedBefore_1 : decode c_P_isAddedBefore 1 = .ok (.getfield 18, 3) := by decide +kernel
theorem d_P_isAddedBefore_4 : decode c_P_isAddedBefore 4 = .ok (.iload_n 1, 1) := by decide +kernel
theorem d_P_isAddedBefore_5 : decode c_P_isAddedBefore 5 = .ok (.aaload, 1) := by decide +kernel
theorem d_P_isAddedBefore_6 : decode c_P_isAddedBefore 6 = .ok (.getfield 107, 3) := by decide +kernel
theorem d_P_isAddedBefore_9 : decode c_P_isAddedBefore 9 = .ok (.aload_n 0, 1) := by decide +kernel
theorem d_P_isAddedBefore_10 : decode c_P_isAddedBefore 10 = .ok (.getfield 18, 3) := by decide +kernel
theorem d_P_isAddedBefore_13 : decode c_P_isAddedBefore 13 = .ok (.iload_n 2, 1) := by decide +kernel
theorem d_P_isAddedBefore_14 : decode c_P_isAddedBefore 14 = .ok (.aaload, 1) := by decide +kernel
theorem d_P_isAddedBefore_15 : decode c_P_isAddedBefore 15 = .ok (.getfield 107, 3) := by decide +kernel
theorem d_P_isAddedBefore_18 : decode c_P_isAddedBefore 18 = .ok (.isub, 1) := by decide +kernel
theorem d_P_isAddedBefore_19 : decode c_P_isAddedBefore 19 = .ok (.istore_n 3, 1) := by decide +kernel
theorem d_P_isAddedBefore_20 : decode c_P_isAddedBefore 20 = .ok (.iload_n 3, 1) := by decide +kernel
theorem d_P_isAddedBefore_21 : decode c_P_isAddedBefore 21 = .ok (.ifCond .gt 12, 3) := by decide +kernel
theorem d_P_isAddedBefore_24 : decode c_P_isAddedBefore 24 = .ok (.iload_n 3, 1) := by decide +kernel
theorem d_P_isAddedBefore_25 : decode c_P_isAddedBefore 25 = .ok (.ifCond .ne 12, 3) := by decide +kernel
theorem d_P_isAddedBefore_28 : decode c_P_isAddedBefore 28 = .ok (.iload_n 1, 1) := by decide +kernel
theorem d_P_isAddedBefore_29 : decode c_P_isAddedBefore 29 = .ok (.iload_n 2, 1) := by decide +kernel
theorem d_P_isAddedBefore_30 : decode c_P_isAddedBefore 30 = .ok (.if_icmp .ge 7, 3) := by decide +kernel
theorem d_P_isAddedBefore_33 : decode c_P_isAddedBefore 33 = .ok (.iconst 1, 1) := by decide +kernel
theorem d_P_isAddedBefore_34 : decode c_P_isAddedBefore 34 = .ok (.goto 4, 3) := by decide +kernel
theorem d_P_isAddedBefore_37 : decode c_P_isAddedBefore 37 = .ok (.iconst 0, 1) := by decide +kernel
theorem d_P_isAddedBefore_38 : decode c_P_isAddedBefore 38 = .ok (.ireturn, 1) := by decide +kernel
theorem d_P_heldByPlan_0 : decode c_P_heldByPlan 0 = .ok (.aload_n 0, 1) := by decide +kernel
theorem d_P_heldByPlan_1 : decode c_P_heldByPlan 1 = .ok (.getfield 12, 3) := by decide +kernel
theorem d_P_heldByPlan_4 : decode c_P_heldByPlan 4 = .ok (.iload_n 1, 1) := by decide +kernel
theorem d_P_heldByPlan_5 : decode c_P_heldByPlan 5 = .ok (.invokevirtual 189, 3) := by decide +kernel
theorem d_P_heldByPlan_8 : decode c_P_heldByPlan 8 = .ok (.lstore_n 2, 1) := by decide +kernel
theorem d_P_heldByPlan_9 : decode c_P_heldByPlan 9 = .ok (.iconst 0, 1) := by decide +kernel
theorem d_P_heldByPlan_10 : decode c_P_heldByPlan 10 = .ok (.istore 4, 2) := by decide +kernel
theorem d_P_heldByPlan_12 : decode c_P_heldByPlan 12 = .ok (.iload 4, 2) := by decide +kernel
theorem d_P_heldByPlan_14 : decode c_P_heldByPlan 14 = .ok (.aload_n 0, 1) := by decide +kernel
theorem d_P_heldByPlan_15 : decode c_P_heldByPlan 15 = .ok (.getfield 37, 3) := by decide +kernel
theorem d_P_heldByPlan_18 : decode c_P_heldByPlan 18 = .ok (.if_icmp .ge 45, 3) := by decide +kernel
theorem d_P_heldByPlan_21 : decode c_P_heldByPlan 21 = .ok (.iload 4, 2) := by decide +kernel
theorem d_P_heldByPlan_23 : decode c_P_heldByPlan 23 = .ok (.aload_n 0, 1) := by decide +kernel
theorem d_P_heldByPlan_24 : decode c_P_heldByPlan 24 = .ok (.getfield 18, 3) := by decide +kernel
theorem d_P_heldByPlan_27 : decode c_P_heldByPlan 27 = .ok (.arraylength, 1) := by decide +kernel
theorem d_P_heldByPlan_28 : decode c_P_heldByPlan 28 = .ok (.if_icmp .ge 35, 3) := by decide +kernel
theorem d_P_heldByPlan_31 : decode c_P_heldByPlan 31 = .ok (.lload_n 2, 1) := by decide +kernel
theorem d_P_heldByPlan_32 : decode c_P_heldByPlan 32 = .ok (.aload_n 0, 1) := by decide +kernel
theorem d_P_heldByPlan_33 : decode c_P_heldByPlan 33 = .ok (.getfield 26, 3) := by decide +kernel
theorem d_P_heldByPlan_36 : decode c_P_heldByPlan 36 = .ok (.getfield 132, 3) := by decide +kernel
theorem d_P_heldByPlan_39 : decode c_P_heldByPlan 39 = .ok (.iload 4, 2) := by decide +kernel
theorem d_P_heldByPlan_41 : decode c_P_heldByPlan 41 = .ok (.iaload, 1) := by decide +kernel
theorem d_P_heldByPlan_42 : decode c_P_heldByPlan 42 = .ok (.i2l, 1) := by decide +kernel
theorem d_P_heldByPlan_43 : decode c_P_heldByPlan 43 = .ok (.aload_n 0, 1) := by decide +kernel
theorem d_P_heldByPlan_44 : decode c_P_heldByPlan 44 = .ok (.getfield 18, 3) := by decide +kernel
theorem d_P_heldByPlan_47 : decode c_P_heldByPlan 47 = .ok (.iload 4, 2) := by decide +kernel
theorem d_P_heldByPlan_49 : decode c_P_heldByPlan 49 = .ok (.aaload, 1) := by decide +kernel
theorem d_P_heldByPlan_50 : decode c_P_heldByPlan 50 = .ok (.iload_n 1, 1) := by decide +kernel
theorem d_P_heldByPlan_51 : decode c_P_heldByPlan 51 = .ok (.invokevirtual 192, 3) := by decide +kernel
theorem d_P_heldByPlan_54 : decode c_P_heldByPlan 54 = .ok (.lmul, 1) := by decide +kernel
theorem d_P_heldByPlan_55 : decode c_P_heldByPlan 55 = .ok (.ladd, 1) := by decide +kernel
theorem d_P_heldByPlan_56 : decode c_P_heldByPlan 56 = .ok (.lstore_n 2, 1) := by decide +kernel
theorem d_P_heldByPlan_57 : decode c_P_heldByPlan 57 = .ok (.iinc 4 1, 3) := by decide +kernel
theorem d_P_heldByPlan_60 : decode c_P_heldByPlan 60 = .ok (.goto (-48), 3) := by decide +kernel
theorem d_P_heldByPlan_63 : decode c_P_heldByPlan 63 = .ok (.lload_n 2, 1) := by decide +kernel
theorem d_P_heldByPlan_64 : decode c_P_heldByPlan 64 = .ok (.lreturn, 1) := by decide +kernel
theorem d_P_wholeByPlan_0 : decode c_P_wholeByPlan 0 = .ok (.ldc2_w 195, 3) := by decide +kernel
theorem d_P_wholeByPlan_3 : decode c_P_wholeByPlan 3 = .ok (.aload_n 0, 1) := by decide +kernel
theorem d_P_wholeByPlan_4 : decode c_P_wholeByPlan 4 = .ok (.getfield 12, 3) := by decide +kernel
theorem d_P_wholeByPlan_7 : decode c_P_wholeByPlan 7 = .ok (.getfield 60, 3) := by decide +kernel
theorem d_P_wholeByPlan_10 : decode c_P_wholeByPlan 10 = .ok (.aload_n 0, 1) := by decide +kernel
theorem d_P_wholeByPlan_11 : decode c_P_wholeByPlan 11 = .ok (.getfield 26, 3) := by decide +kernel
theorem d_P_wholeByPlan_14 : decode c_P_wholeByPlan 14 = .ok (.getfield 136, 3) := by decide +kernel
theorem d_P_wholeByPlan_17 : decode c_P_wholeByPlan 17 = .ok (.iadd, 1) := by decide +kernel
theorem d_P_wholeByPlan_18 : decode c_P_wholeByPlan 18 = .ok (.i2l, 1) := by decide +kernel
theorem d_P_wholeByPlan_19 : decode c_P_wholeByPlan 19 = .ok (.lmul, 1) := by decide +kernel
theorem d_P_wholeByPlan_20 : decode c_P_wholeByPlan 20 = .ok (.lreturn, 1) := by decide +kernel
theorem d_P_roundedByPlan_0 : decode c_P_roundedByPlan 0 = .ok (.aload_n 0, 1) := by decide +kernel
theorem d_P_roundedByPlan_1 : decode c_P_roundedByPlan 1 = .ok (.iload_n 1, 1) := by decide +kernel
theorem d_P_roundedByPlan_2 : decode c_P_roundedByPlan 2 = .ok (.invokevirtual 148, 3) := by decide +kernel
theorem d_P_roundedByPlan_5 : decode c_P_roundedByPlan 5 = .ok (.lstore_n 2, 1) := by decide +kernel
theorem d_P_roundedByPlan_6 : decode c_P_roundedByPlan 6 = .ok (.aload_n 0, 1) := by decide +kernel
theorem d_P_roundedByPlan_7 : decode c_P_roundedByPlan 7 = .ok (.invokevirtual 152, 3) := by decide +kernel
theorem d_P_roundedByPlan_10 : decode c_P_roundedByPlan 10 = .ok (.lstore 4, 2) := by decide +kernel
theorem d_P_roundedByPlan_12 : decode c_P_roundedByPlan 12 = .ok (.iload_n 1, 1) := by decide +kernel
theorem d_P_roundedByPlan_13 : decode c_P_roundedByPlan 13 = .ok (.invokestatic 197, 3) := by decide +kernel
theorem d_P_roundedByPlan_16 : decode c_P_roundedByPlan 16 = .ok (.ifCond .eq 7, 3) := by decide +kernel
theorem d_P_roundedByPlan_19 : decode c_P_roundedByPlan 19 = .ok (.lload_n 2, 1) := by decide +kernel
theorem d_P_roundedByPlan_20 : decode c_P_roundedByPlan 20 = .ok (.goto 9, 3) := by decide +kernel
theorem d_P_roundedByPlan_23 : decode c_P_roundedByPlan 23 = .ok (.lload_n 2, 1) := by decide +kernel
theorem d_P_roundedByPlan_24 : decode c_P_roundedByPlan 24 = .ok (.lload 4, 2) := by decide +kernel
theorem d_P_roundedByPlan_26 : decode c_P_roundedByPlan 26 = .ok (.ladd, 1) := by decide +kernel
theorem d_P_roundedByPlan_27 : decode c_P_roundedByPlan 27 = .ok (.lconst 1, 1) := by decide +kernel
theorem d_P_roundedByPlan_28 : decode c_P_roundedByPlan 28 = .ok (.lsub, 1) := by decide +kernel
theorem d_P_roundedByPlan_29 : decode c_P_roundedByPlan 29 = .ok (.lload 4, 2) := by decide +kernel
theorem d_P_roundedByPlan_31 : decode c_P_roundedByPlan 31 = .ok (.invokestatic 160, 3) := by decide +kernel
theorem d_P_roundedByPlan_34 : decode c_P_roundedByPlan 34 = .ok (.l2i, 1) := by decide +kernel
theorem d_P_roundedByPlan_35 : decode c_P_roundedByPlan 35 = .ok (.ireturn, 1) := by decide +kernel
theorem d_P_quotient_0 : decode c_P_quotient 0 = .ok (.lload_n 2, 1) := by decide +kernel
theorem d_P_quotient_1 : decode c_P_quotient 1 = .ok (.lconst 0, 1) := by decide +kernel
theorem d_P_quotient_2 : decode c_P_quotient 2 = .ok (.lcmp, 1) := by decide +kernel
theorem d_P_quotient_3 : decode c_P_quotient 3 = .ok (.ifCond .le 9, 3) := by decide +kernel
theorem d_P_quotient_6 : decode c_P_quotient 6 = .ok (.lload_n 0, 1) := by decide +kernel
theorem d_P_quotient_7 : decode c_P_quotient 7 = .ok (.lload_n 2, 1) := by decide +kernel
theorem d_P_quotient_8 : decode c_P_quotient 8 = .ok (.ldiv, 1) := by decide +kernel
theorem d_P_quotient_9 : decode c_P_quotient 9 = .ok (.goto 4, 3) := by decide +kernel
theorem d_P_quotient_12 : decode c_P_quotient 12 = .ok (.lconst 0, 1) := by decide +kernel
theorem d_P_quotient_13 : decode c_P_quotient 13 = .ok (.lreturn, 1) := by decide +kernel
theorem d_P_commonDivisor_0 : decode c_P_commonDivisor 0 = .ok (.lload_n 0, 1) := by decide +kernel
theorem d_P_commonDivisor_1 : decode c_P_commonDivisor 1 = .ok (.lstore 4, 2) := by decide +kernel
theorem d_P_commonDivisor_3 : decode c_P_commonDivisor 3 = .ok (.lload_n 2, 1) := by decide +kernel
theorem d_P_commonDivisor_4 : decode c_P_commonDivisor 4 = .ok (.lstore 6, 2) := by decide +kernel
theorem d_P_commonDivisor_6 : decode c_P_commonDivisor 6 = .ok (.iconst 0, 1) := by decide +kernel
theorem d_P_commonDivisor_7 : decode c_P_commonDivisor 7 = .ok (.istore 8, 2) := by decide +kernel
theorem d_P_commonDivisor_9 : decode c_P_commonDivisor 9 = .ok (.iload 8, 2) := by decide +kernel
theorem d_P_commonDivisor_11 : decode c_P_commonDivisor 11 = .ok (.sipush 200, 3) := by decide +kernel
theorem d_P_commonDivisor_14 : decode c_P_commonDivisor 14 = .ok (.if_icmp .ge 31, 3) := by decide +kernel
theorem d_P_commonDivisor_17 : decode c_P_commonDivisor 17 = .ok (.lload 6, 2) := by decide +kernel
theorem d_P_commonDivisor_19 : decode c_P_commonDivisor 19 = .ok (.lconst 0, 1) := by decide +kernel
theorem d_P_commonDivisor_20 : decode c_P_commonDivisor 20 = .ok (.lcmp, 1) := by decide +kernel
theorem d_P_commonDivisor_21 : decode c_P_commonDivisor 21 = .ok (.ifCond .eq 24, 3) := by decide +kernel
theorem d_P_commonDivisor_24 : decode c_P_commonDivisor 24 = .ok (.lload 4, 2) := by decide +kernel
theorem d_P_commonDivisor_26 : decode c_P_commonDivisor 26 = .ok (.lload 6, 2) := by decide +kernel
theorem d_P_commonDivisor_28 : decode c_P_commonDivisor 28 = .ok (.lrem, 1) := by decide +kernel
theorem d_P_commonDivisor_29 : decode c_P_commonDivisor 29 = .ok (.lstore 9, 2) := by decide +kernel
theorem d_P_commonDivisor_31 : decode c_P_commonDivisor 31 = .ok (.lload 6, 2) := by decide +kernel
theorem d_P_commonDivisor_33 : decode c_P_commonDivisor 33 = .ok (.lstore 4, 2) := by decide +kernel
theorem d_P_commonDivisor_35 : decode c_P_commonDivisor 35 = .ok (.lload 9, 2) := by decide +kernel
theorem d_P_commonDivisor_37 : decode c_P_commonDivisor 37 = .ok (.lstore 6, 2) := by decide +kernel
theorem d_P_commonDivisor_39 : decode c_P_commonDivisor 39 = .ok (.iinc 8 1, 3) := by decide +kernel
theorem d_P_commonDivisor_42 : decode c_P_commonDivisor 42 = .ok (.goto (-33), 3) := by decide +kernel
theorem d_P_commonDivisor_45 : decode c_P_commonDivisor 45 = .ok (.lload 4, 2) := by decide +kernel
theorem d_P_commonDivisor_47 : decode c_P_commonDivisor 47 = .ok (.lreturn, 1) := by decide +kernel
theorem d_P_surplusAt_0 : decode c_P_surplusAt 0 = .ok (.iload_n 0, 1) := by decide +kernel
theorem d_P_surplusAt_1 : decode c_P_surplusAt 1 = .ok (.invokestatic 197, 3) := by decide +kernel
theorem d_P_surplusAt_4 : decode c_P_surplusAt 4 = .ok (.ifCond .eq 9, 3) := by decide +kernel
theorem d_P_surplusAt_7 : decode c_P_surplusAt 7 = .ok (.lload_n 1, 1) := by decide +kernel
theorem d_P_surplusAt_8 : decode c_P_surplusAt 8 = .ok (.lload_n 3, 1) := by decide +kernel
theorem d_P_surplusAt_9 : decode c_P_surplusAt 9 = .ok (.lsub, 1) := by decide +kernel
theorem d_P_surplusAt_10 : decode c_P_surplusAt 10 = .ok (.goto 6, 3) := by decide +kernel
theorem d_P_surplusAt_13 : decode c_P_surplusAt 13 = .ok (.lload_n 3, 1) := by decide +kernel
theorem d_P_surplusAt_14 : decode c_P_surplusAt 14 = .ok (.lload_n 1, 1) := by decide +kernel
theorem d_P_surplusAt_15 : decode c_P_surplusAt 15 = .ok (.lsub, 1) := by decide +kernel
theorem d_P_surplusAt_16 : decode c_P_surplusAt 16 = .ok (.lreturn, 1) := by decide +kernel
