theorem d_L_heat_0 : decode c_L_heat 0 = .ok (.aload_n 0, 1) := by decide +kernel
theorem d_L_heat_1 : decode c_L_heat 1 = .ok (.iload_n 1, 1) := by decide +kernel
theorem d_L_heat_2 : decode c_L_heat 2 = .ok (.invokevirtual 7, 3) := by decide +kernel
theorem d_L_heat_5 : decode c_L_heat 5 = .ok (.goto 9, 3) := by decide +kernel
theorem d_L_heat_8 : decode c_L_heat 8 = .ok (.astore_n 2, 1) := by decide +kernel
theorem d_L_heat_9 : decode c_L_heat 9 = .ok (.iconst 1, 1) := by decide +kernel
theorem d_L_heat_10 : decode c_L_heat 10 = .ok (.ireturn, 1) := by decide +kernel
theorem d_L_heat_11 : decode c_L_heat 11 = .ok (.astore_n 2, 1) := by decide +kernel
theorem d_L_heat_12 : decode c_L_heat 12 = .ok (.iconst 2, 1) := by decide +kernel
theorem d_L_heat_13 : decode c_L_heat 13 = .ok (.ireturn, 1) := by decide +kernel
theorem d_L_heat_14 : decode c_L_heat 14 = .ok (.iconst 0, 1) := by decide +kernel
theorem d_L_heat_15 : decode c_L_heat 15 = .ok (.ireturn, 1) := by decide +kernel
theorem d_L_present_0 : decode c_L_present 0 = .ok (.aload_n 0, 1) := by decide +kernel
theorem d_L_present_1 : decode c_L_present 1 = .ok (.iload_n 1, 1) := by decide +kernel
theorem d_L_present_2 : decode c_L_present 2 = .ok (.iload_n 2, 1) := by decide +kernel
theorem d_L_present_3 : decode c_L_present 3 = .ok (.iload_n 3, 1) := by decide +kernel
theorem d_L_present_4 : decode c_L_present 4 = .ok (.invokevirtual 17, 3) := by decide +kernel
theorem d_L_present_7 : decode c_L_present 7 = .ok (.goto 11, 3) := by decide +kernel
theorem d_L_present_10 : decode c_L_present 10 = .ok (.astore 4, 2) := by decide +kernel
theorem d_L_present_12 : decode c_L_present 12 = .ok (.iconst 1, 1) := by decide +kernel
theorem d_L_present_13 : decode c_L_present 13 = .ok (.ireturn, 1) := by decide +kernel
theorem d_L_present_14 : decode c_L_present 14 = .ok (.astore 4, 2) := by decide +kernel
theorem d_L_present_16 : decode c_L_present 16 = .ok (.iconst 2, 1) := by decide +kernel
theorem d_L_present_17 : decode c_L_present 17 = .ok (.ireturn, 1) := by decide +kernel
theorem d_L_present_18 : decode c_L_present 18 = .ok (.iconst 0, 1) := by decide +kernel
theorem d_L_present_19 : decode c_L_present 19 = .ok (.ireturn, 1) := by decide +kernel
theorem d_L_aim_0 : decode c_L_aim 0 = .ok (.aload_n 0, 1) := by decide +kernel
theorem d_L_aim_1 : decode c_L_aim 1 = .ok (.iload_n 1, 1) := by decide +kernel
theorem d_L_aim_2 : decode c_L_aim 2 = .ok (.iload_n 2, 1) := by decide +kernel
theorem d_L_aim_3 : decode c_L_aim 3 = .ok (.iload_n 3, 1) := by decide +kernel
theorem d_L_aim_4 : decode c_L_aim 4 = .ok (.invokevirtual 23, 3) := by decide +kernel
theorem d_L_aim_7 : decode c_L_aim 7 = .ok (.goto 11, 3) := by decide +kernel
theorem d_L_aim_10 : decode c_L_aim 10 = .ok (.astore 4, 2) := by decide +kernel
theorem d_L_aim_12 : decode c_L_aim 12 = .ok (.iconst 1, 1) := by decide +kernel
theorem d_L_aim_13 : decode c_L_aim 13 = .ok (.ireturn, 1) := by decide +kernel
theorem d_L_aim_14 : decode c_L_aim 14 = .ok (.astore 4, 2) := by decide +kernel
theorem d_L_aim_16 : decode c_L_aim 16 = .ok (.iconst 2, 1) := by decide +kernel
theorem d_L_aim_17 : decode c_L_aim 17 = .ok (.ireturn, 1) := by decide +kernel
theorem d_L_aim_18 : decode c_L_aim 18 = .ok (.iconst 0, 1) := by decide +kernel
theorem d_L_aim_19 : decode c_L_aim 19 = .ok (.ireturn, 1) := by decide +kernel
theorem d_L_kind_0 : decode c_L_kind 0 = .ok (.aload 4, 2) := by decide +kernel
theorem d_L_kind_2 : decode c_L_kind 2 = .ok (.iconst 0, 1) := by decide +kernel
theorem d_L_kind_3 : decode c_L_kind 3 = .ok (.aload_n 0, 1) := by decide +kernel
theorem d_L_kind_4 : decode c_L_kind 4 = .ok (.iload_n 1, 1) := by decide +kernel
theorem d_L_kind_5 : decode c_L_kind 5 = .ok (.iload_n 2, 1) := by decide +kernel
theorem d_L_kind_6 : decode c_L_kind 6 = .ok (.iload_n 3, 1) := by decide +kernel
theorem d_L_kind_7 : decode c_L_kind 7 = .ok (.invokevirtual 26, 3) := by decide +kernel
theorem d_L_kind_10 : decode c_L_kind 10 = .ok (.i2l, 1) := by decide +kernel
theorem d_L_kind_11 : decode c_L_kind 11 = .ok (.lastore, 1) := by decide +kernel
theorem d_L_kind_12 : decode c_L_kind 12 = .ok (.goto 11, 3) := by decide +kernel
theorem d_L_kind_15 : decode c_L_kind 15 = .ok (.astore 5, 2) := by decide +kernel
theorem d_L_kind_17 : decode c_L_kind 17 = .ok (.iconst 1, 1) := by decide +kernel
theorem d_L_kind_18 : decode c_L_kind 18 = .ok (.ireturn, 1) := by decide +kernel
theorem d_L_kind_19 : decode c_L_kind 19 = .ok (.astore 5, 2) := by decide +kernel
theorem d_L_kind_21 : decode c_L_kind 21 = .ok (.iconst 2, 1) := by decide +kernel
theorem d_L_kind_22 : decode c_L_kind 22 = .ok (.ireturn, 1) := by decide +kernel
theorem d_L_kind_23 : decode c_L_kind 23 = .ok (.iconst 0, 1) := by decide +kernel
theorem d_L_kind_24 : decode c_L_kind 24 = .ok (.ireturn, 1) := by decide +kernel
theorem d_L_holds_0 : decode c_L_holds 0 = .ok (.aload_n 0, 1) := by decide +kernel
theorem d_L_holds_1 : decode c_L_holds 1 = .ok (.iload_n 1, 1) := by decide +kernel
theorem d_L_holds_2 : decode c_L_holds 2 = .ok (.iload_n 2, 1) := by decide +kernel
theorem d_L_holds_3 : decode c_L_holds 3 = .ok (.iload_n 3, 1) := by decide +kernel
theorem d_L_holds_4 : decode c_L_holds 4 = .ok (.iload 4, 2) := by decide +kernel
theorem d_L_holds_6 : decode c_L_holds 6 = .ok (.invokevirtual 32, 3) := by decide +kernel
theorem d_L_holds_9 : decode c_L_holds 9 = .ok (.goto 11, 3) := by decide +kernel
theorem d_L_holds_12 : decode c_L_holds 12 = .ok (.astore 5, 2) := by decide +kernel
theorem d_L_holds_14 : decode c_L_holds 14 = .ok (.iconst 1, 1) := by decide +kernel
theorem d_L_holds_15 : decode c_L_holds 15 = .ok (.ireturn, 1) := by decide +kernel
theorem d_L_holds_16 : decode c_L_holds 16 = .ok (.astore 5, 2) := by decide +kernel
theorem d_L_holds_18 : decode c_L_holds 18 = .ok (.iconst 2, 1) := by decide +kernel
theorem d_L_holds_19 : decode c_L_holds 19 = .ok (.ireturn, 1) := by decide +kernel
theorem d_L_holds_20 : decode c_L_holds 20 = .ok (.iconst 0, 1) := by decide +kernel
theorem d_L_holds_21 : decode c_L_holds 21 = .ok (.ireturn, 1) := by decide +kernel
theorem d_L_yields_0 : decode c_L_yields 0 = .ok (.aload_n 0, 1) := by decide +kernel
theorem d_L_yields_1 : decode c_L_yields 1 = .ok (.iload_n 1, 1) := by decide +kernel
theorem d_L_yields_2 : decode c_L_yields 2 = .ok (.iload_n 2, 1) := by decide +kernel
theorem d_L_yields_3 : decode c_L_yields 3 = .ok (.iload_n 3, 1) := by decide +kernel
theorem d_L_yields_4 : decode c_L_yields 4 = .ok (.invokevirtual 36, 3) := by decide +kernel
theorem d_L_yields_7 : decode c_L_yields 7 = .ok (.goto 11, 3) := by decide +kernel
theorem d_L_yields_10 : decode c_L_yields 10 = .ok (.astore 4, 2) := by decide +kernel
theorem d_L_yields_12 : decode c_L_yields 12 = .ok (.iconst 1, 1) := by decide +kernel
theorem d_L_yields_13 : decode c_L_yields 13 = .ok (.ireturn, 1) := by decide +kernel
theorem d_L_yields_14 : decode c_L_yields 14 = .ok (.astore 4, 2) := by decide +kernel
theorem d_L_yields_16 : decode c_L_yields 16 = .ok (.iconst 2, 1) := by decide +kernel
theorem d_L_yields_17 : decode c_L_yields 17 = .ok (.ireturn, 1) := by decide +kernel
theorem d_L_yields_18 : decode c_L_yields 18 = .ok (.iconst 0, 1) := by decide +kernel
theorem d_L_yields_19 : decode c_L_yields 19 = .ok (.ireturn, 1) := by decide +kernel
theorem d_L_run_0 : decode c_L_run 0 = .ok (.aload_n 2, 1) := by decide +kernel
theorem d_L_run_1 : decode c_L_run 1 = .ok (.iconst 0, 1) := by decide +kernel
theorem d_L_run_2 : decode c_L_run 2 = .ok (.aload_n 0, 1) := by decide +kernel
theorem d_L_run_3 : decode c_L_run 3 = .ok (.iload_n 1, 1) := by decide +kernel
theorem d_L_run_4 : decode c_L_run 4 = .ok (.invokevirtual 39, 3) := by decide +kernel
theorem d_L_run_7 : decode c_L_run 7 = .ok (.i2l, 1) := by decide +kernel
theorem d_L_run_8 : decode c_L_run 8 = .ok (.lastore, 1) := by decide +kernel
theorem d_L_run_9 : decode c_L_run 9 = .ok (.goto 6, 3) := by decide +kernel
theorem d_L_run_12 : decode c_L_run 12 = .ok (.astore_n 3, 1) := by decide +kernel
theorem d_L_run_13 : decode c_L_run 13 = .ok (.iconst 1, 1) := by decide +kernel
theorem d_L_run_14 : decode c_L_run 14 = .ok (.ireturn, 1) := by decide +kernel
theorem d_L_run_15 : decode c_L_run 15 = .ok (.iconst 0, 1) := by decide +kernel
theorem d_L_run_16 : decode c_L_run 16 = .ok (.ireturn, 1) := by decide +kernel
theorem d_L_steps_0 : decode c_L_steps 0 = .ok (.aload_n 2, 1) := by decide +kernel
theorem d_L_steps_1 : decode c_L_steps 1 = .ok (.iconst 0, 1) := by decide +kernel
theorem d_L_steps_2 : decode c_L_steps 2 = .ok (.aload_n 0, 1) := by decide +kernel
theorem d_L_steps_3 : decode c_L_steps 3 = .ok (.iload_n 1, 1) := by decide +kernel
theorem d_L_steps_4 : decode c_L_steps 4 = .ok (.invokevirtual 43, 3) := by decide +kernel
theorem d_L_steps_7 : decode c_L_steps 7 = .ok (.i2l, 1) := by decide +kernel
theorem d_L_steps_8 : decode c_L_steps 8 = .ok (.lastore, 1) := by decide +kernel
theorem d_L_steps_9 : decode c_L_steps 9 = .ok (.goto 9, 3) := by decide +kernel
theorem d_L_steps_12 : decode c_L_steps 12 = .ok (.astore_n 3, 1) := by decide +kernel
theorem d_L_steps_13 : decode c_L_steps 13 = .ok (.iconst 1, 1) := by decide +kernel
theorem d_L_steps_14 : decode c_L_steps 14 = .ok (.ireturn, 1) := by decide +kernel
theorem d_L_steps_15 : decode c_L_steps 15 = .ok (.astore_n 3, 1) := by decide +kernel
theorem d_L_steps_16 : decode c_L_steps 16 = .ok (.iconst 2, 1) := by decide +kernel
theorem d_L_steps_17 : decode c_L_steps 17 = .ok (.ireturn, 1) := by decide +kernel
theorem d_L_steps_18 : decode c_L_steps 18 = .ok (.iconst 0, 1) := by decide +kernel
theorem d_L_steps_19 : decode c_L_steps 19 = .ok (.ireturn, 1) := by decide +kernel
theorem d_L_planned_0 : decode c_L_planned 0 = .ok (.aload_n 2, 1) := by decide +kernel
theorem d_L_planned_1 : decode c_L_planned 1 = .ok (.iconst 0, 1) := by decide +kernel
theorem d_L_planned_2 : decode c_L_planned 2 = .ok (.aload_n 0, 1) := by decide +kernel
theorem d_L_planned_3 : decode c_L_planned 3 = .ok (.iload_n 1, 1) := by decide +kernel
theorem d_L_planned_4 : decode c_L_planned 4 = .ok (.invokevirtual 46, 3) := by decide +kernel
theorem d_L_planned_7 : decode c_L_planned 7 = .ok (.i2l, 1) := by decide +kernel
theorem d_L_planned_8 : decode c_L_planned 8 = .ok (.lastore, 1) := by decide +kernel
theorem d_L_planned_9 : decode c_L_planned 9 = .ok (.goto 9, 3) := by decide +kernel
theorem d_L_planned_12 : decode c_L_planned 12 = .ok (.astore_n 3, 1) := by decide +kernel
theorem d_L_planned_13 : decode c_L_planned 13 = .ok (.iconst 1, 1) := by decide +kernel
theorem d_L_planned_14 : decode c_L_planned 14 = .ok (.ireturn, 1) := by decide +kernel
theorem d_L_planned_15 : decode c_L_planned 15 = .ok (.astore_n 3, 1) := by decide +kernel
theorem d_L_planned_16 : decode c_L_planned 16 = .ok (.iconst 2, 1) := by decide +kernel
theorem d_L_planned_17 : decode c_L_planned 17 = .ok (.ireturn, 1) := by decide +kernel
theorem d_L_planned_18 : decode c_L_planned 18 = .ok (.iconst 0, 1) := by decide +kernel
theorem d_L_planned_19 : decode c_L_planned 19 = .ok (.ireturn, 1) := by decide +kernel
theorem d_L_order_0 : decode c_L_order 0 = .ok (.aload_n 2, 1) := by decide +kernel
theorem d_L_order_1 : decode c_L_order 1 = .ok (.iconst 0, 1) := by decide +kernel
theorem d_L_order_2 : decode c_L_order 2 = .ok (.aload_n 0, 1) := by decide +kernel
theorem d_L_order_3 : decode c_L_order 3 = .ok (.iload_n 1, 1) := by decide +kernel
theorem d_L_order_4 : decode c_L_order 4 = .ok (.invokevirtual 49, 3) := by decide +kernel
theorem d_L_order_7 : decode c_L_order 7 = .ok (.i2l, 1) := by decide +kernel
theorem d_L_order_8 : decode c_L_order 8 = .ok (.lastore, 1) := by decide +kernel
theorem d_L_order_9 : decode c_L_order 9 = .ok (.goto 9, 3) := by decide +kernel
theorem d_L_order_12 : decode c_L_order 12 = .ok (.astore_n 3, 1) := by decide +kernel
theorem d_L_order_13 : decode c_L_order 13 = .ok (.iconst 1, 1) := by decide +kernel
theorem d_L_order_14 : decode c_L_order 14 = .ok (.ireturn, 1) := by decide +kernel
theorem d_L_order_15 : decode c_L_order 15 = .ok (.astore_n 3, 1) := by decide +kernel
theorem d_L_order_16 : decode c_L_order 16 = .ok (.iconst 2, 1) := by decide +kernel
theorem d_L_order_17 : decode c_L_order 17 = .ok (.ireturn, 1) := by decide +kernel
theorem d_L_order_18 : decode c_L_order 18 = .ok (.iconst 0, 1) := by decide +kernel
theorem d_L_order_19 : decode c_L_order 19 = .ok (.ireturn, 1) := by decide +kernel
theorem d_L_after_0 : decode c_L_after 0 = .ok (.aload 4, 2) := by decide +kernel
theorem d_L_after_2 : decode c_L_after 2 = .ok (.iconst 0, 1) := by decide +kernel
theorem d_L_after_3 : decode c_L_after 3 = .ok (.aload_n 0, 1) := by decide +kernel
theorem d_L_after_4 : decode c_L_after 4 = .ok (.iload_n 1, 1) := by decide +kernel
theorem d_L_after_5 : decode c_L_after 5 = .ok (.iload_n 2, 1) := by decide +kernel
theorem d_L_after_6 : decode c_L_after 6 = .ok (.iload_n 3, 1) := by decide +kernel
theorem d_L_after_7 : decode c_L_after 7 = .ok (.invokevirtual 52, 3) := by decide +kernel
theorem d_L_after_10 : decode c_L_after 10 = .ok (.lastore, 1) := by decide +kernel
theorem d_L_after_11 : decode c_L_after 11 = .ok (.goto 11, 3) := by decide +kernel
theorem d_L_after_14 : decode c_L_after 14 = .ok (.astore 5, 2) := by decide +kernel
theorem d_L_after_16 : decode c_L_after 16 = .ok (.iconst 1, 1) := by decide +kernel
theorem d_L_after_17 : decode c_L_after 17 = .ok (.ireturn, 1) := by decide +kernel
theorem d_L_after_18 : decode c_L_after 18 = .ok (.astore 5, 2) := by decide +kernel
theorem d_L_after_20 : decode c_L_after 20 = .ok (.iconst 2, 1) := by decide +kernel
theorem d_L_after_21 : decode c_L_after 21 = .ok (.ireturn, 1) := by decide +kernel
theorem d_L_after_22 : decode c_L_after 22 = .ok (.iconst 0, 1) := by decide +kernel
theorem d_L_after_23 : decode c_L_after 23 = .ok (.ireturn, 1) := by decide +kernel
theorem d_L_add_0 : decode c_L_add 0 = .ok (.aload_n 1, 1) := by decide +kernel
theorem d_L_add_1 : decode c_L_add 1 = .ok (.iconst 0, 1) := by decide +kernel
theorem d_L_add_2 : decode c_L_add 2 = .ok (.aload_n 0, 1) := by decide +kernel
theorem d_L_add_3 : decode c_L_add 3 = .ok (.invokevirtual 56, 3) := by decide +kernel
theorem d_L_add_6 : decode c_L_add 6 = .ok (.i2l, 1) := by decide +kernel
theorem d_L_add_7 : decode c_L_add 7 = .ok (.lastore, 1) := by decide +kernel
theorem d_L_add_8 : decode c_L_add 8 = .ok (.goto 9, 3) := by decide +kernel
theorem d_L_add_11 : decode c_L_add 11 = .ok (.astore_n 2, 1) := by decide +kernel
theorem d_L_add_12 : decode c_L_add 12 = .ok (.iconst 1, 1) := by decide +kernel
theorem d_L_add_13 : decode c_L_add 13 = .ok (.ireturn, 1) := by decide +kernel
theorem d_L_add_14 : decode c_L_add 14 = .ok (.astore_n 2, 1) := by decide +kernel
theorem d_L_add_15 : decode c_L_add 15 = .ok (.iconst 2, 1) := by decide +kernel
theorem d_L_add_16 : decode c_L_add 16 = .ok (.ireturn, 1) := by decide +kernel
theorem d_L_add_17 : decode c_L_add 17 = .ok (.iconst 0, 1) := by decide +kernel
theorem d_L_add_18 : decode c_L_add 18 = .ok (.ireturn, 1) := by decide +kernel
theorem d_L_heatAt_0 : decode c_L_heatAt 0 = .ok (.aload_n 2, 1) := by decide +kernel
theorem d_L_heatAt_1 : decode c_L_heatAt 1 = .ok (.iconst 0, 1) := by decide +kernel
theorem d_L_heatAt_2 : decode c_L_heatAt 2 = .ok (.aload_n 0, 1) := by decide +kernel
theorem d_L_heatAt_3 : decode c_L_heatAt 3 = .ok (.iload_n 1, 1) := by decide +kernel
theorem d_L_heatAt_4 : decode c_L_heatAt 4 = .ok (.invokevirtual 60, 3) := by decide +kernel
theorem d_L_heatAt_7 : decode c_L_heatAt 7 = .ok (.lastore, 1) := by decide +kernel
theorem d_L_heatAt_8 : decode c_L_heatAt 8 = .ok (.goto 6, 3) := by decide +kernel
theorem d_L_heatAt_11 : decode c_L_heatAt 11 = .ok (.astore_n 3, 1) := by decide +kernel
theorem d_L_heatAt_12 : decode c_L_heatAt 12 = .ok (.iconst 1, 1) := by decide +kernel
theorem d_L_heatAt_13 : decode c_L_heatAt 13 = .ok (.ireturn, 1) := by decide +kernel
theorem d_L_heatAt_14 : decode c_L_heatAt 14 = .ok (.iconst 0, 1) := by decide +kernel
theorem d_L_heatAt_15 : decode c_L_heatAt 15 = .ok (.ireturn, 1) := by decide +kernel
