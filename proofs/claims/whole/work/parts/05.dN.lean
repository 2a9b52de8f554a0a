theorem d_A_init_0 : decode c_A_init 0 = .ok (.aload_n 0, 1) := by decide +kernel
theorem d_A_init_1 : decode c_A_init 1 = .ok (.invokespecial 3, 3) := by decide +kernel
theorem d_A_init_4 : decode c_A_init 4 = .ok (.aload_n 0, 1) := by decide +kernel
theorem d_A_init_5 : decode c_A_init 5 = .ok (.iconst 1, 1) := by decide +kernel
theorem d_A_init_6 : decode c_A_init 6 = .ok (.putfield 9, 3) := by decide +kernel
theorem d_A_init_9 : decode c_A_init 9 = .ok (.aload_n 0, 1) := by decide +kernel
theorem d_A_init_10 : decode c_A_init 10 = .ok (.sipush 1000, 3) := by decide +kernel
theorem d_A_init_13 : decode c_A_init 13 = .ok (.putfield 15, 3) := by decide +kernel
theorem d_A_init_16 : decode c_A_init 16 = .ok (.aload_n 0, 1) := by decide +kernel
theorem d_A_init_17 : decode c_A_init 17 = .ok (.bipush 8, 2) := by decide +kernel
theorem d_A_init_19 : decode c_A_init 19 = .ok (.newarray .int, 2) := by decide +kernel
theorem d_A_init_21 : decode c_A_init 21 = .ok (.putfield 18, 3) := by decide +kernel
theorem d_A_init_24 : decode c_A_init 24 = .ok (.aload_n 0, 1) := by decide +kernel
theorem d_A_init_25 : decode c_A_init 25 = .ok (.bipush 8, 2) := by decide +kernel
theorem d_A_init_27 : decode c_A_init 27 = .ok (.newarray .long, 2) := by decide +kernel
theorem d_A_init_29 : decode c_A_init 29 = .ok (.putfield 22, 3) := by decide +kernel
theorem d_A_init_32 : decode c_A_init 32 = .ok (.return_, 1) := by decide +kernel
theorem d_A_coolingOfStep_0 : decode c_A_coolingOfStep 0 = .ok (.aload_n 0, 1) := by decide +kernel
theorem d_A_coolingOfStep_1 : decode c_A_coolingOfStep 1 = .ok (.getfield 9, 3) := by decide +kernel
theorem d_A_coolingOfStep_4 : decode c_A_coolingOfStep 4 = .ok (.aload_n 0, 1) := by decide +kernel
theorem d_A_coolingOfStep_5 : decode c_A_coolingOfStep 5 = .ok (.getfield 26, 3) := by decide +kernel
theorem d_A_coolingOfStep_8 : decode c_A_coolingOfStep 8 = .ok (.imul, 1) := by decide +kernel
theorem d_A_coolingOfStep_9 : decode c_A_coolingOfStep 9 = .ok (.ireturn, 1) := by decide +kernel
theorem d_A_heldInStepAt_0 : decode c_A_heldInStepAt 0 = .ok (.aload_n 0, 1) := by decide +kernel
theorem d_A_heldInStepAt_1 : decode c_A_heldInStepAt 1 = .ok (.getfield 9, 3) := by decide +kernel
theorem d_A_heldInStepAt_4 : decode c_A_heldInStepAt 4 = .ok (.i2l, 1) := by decide +kernel
theorem d_A_heldInStepAt_5 : decode c_A_heldInStepAt 5 = .ok (.aload_n 0, 1) := by decide +kernel
theorem d_A_heldInStepAt_6 : decode c_A_heldInStepAt 6 = .ok (.getfield 18, 3) := by decide +kernel
theorem d_A_heldInStepAt_9 : decode c_A_heldInStepAt 9 = .ok (.iload_n 1, 1) := by decide +kernel
theorem d_A_heldInStepAt_10 : decode c_A_heldInStepAt 10 = .ok (.iaload, 1) := by decide +kernel
theorem d_A_heldInStepAt_11 : decode c_A_heldInStepAt 11 = .ok (.i2l, 1) := by decide +kernel
theorem d_A_heldInStepAt_12 : decode c_A_heldInStepAt 12 = .ok (.lmul, 1) := by decide +kernel
theorem d_A_heldInStepAt_13 : decode c_A_heldInStepAt 13 = .ok (.aload_n 0, 1) := by decide +kernel
theorem d_A_heldInStepAt_14 : decode c_A_heldInStepAt 14 = .ok (.getfield 15, 3) := by decide +kernel
theorem d_A_heldInStepAt_17 : decode c_A_heldInStepAt 17 = .ok (.i2l, 1) := by decide +kernel
theorem d_A_heldInStepAt_18 : decode c_A_heldInStepAt 18 = .ok (.lmul, 1) := by decide +kernel
theorem d_A_heldInStepAt_19 : decode c_A_heldInStepAt 19 = .ok (.lreturn, 1) := by decide +kernel
theorem d_A_weighAgainst_0 : decode c_A_weighAgainst 0 = .ok (.iconst 0, 1) := by decide +kernel
theorem d_A_weighAgainst_1 : decode c_A_weighAgainst 1 = .ok (.istore_n 2, 1) := by decide +kernel
theorem d_A_weighAgainst_2 : decode c_A_weighAgainst 2 = .ok (.iload_n 2, 1) := by decide +kernel
theorem d_A_weighAgainst_3 : decode c_A_weighAgainst 3 = .ok (.aload_n 0, 1) := by decide +kernel
theorem d_A_weighAgainst_4 : decode c_A_weighAgainst 4 = .ok (.getfield 22, 3) := by decide +kernel
theorem d_A_weighAgainst_7 : decode c_A_weighAgainst 7 = .ok (.arraylength, 1) := by decide +kernel
theorem d_A_weighAgainst_8 : decode c_A_weighAgainst 8 = .ok (.if_icmp .ge 44, 3) := by decide +kernel
theorem d_A_weighAgainst_11 : decode c_A_weighAgainst 11 = .ok (.iload_n 2, 1) := by decide +kernel
theorem d_A_weighAgainst_12 : decode c_A_weighAgainst 12 = .ok (.aload_n 1, 1) := by decide +kernel
theorem d_A_weighAgainst_13 : decode c_A_weighAgainst 13 = .ok (.arraylength, 1) := by decide +kernel
theorem d_A_weighAgainst_14 : decode c_A_weighAgainst 14 = .ok (.if_icmp .ge 38, 3) := by decide +kernel
theorem d_A_weighAgainst_17 : decode c_A_weighAgainst 17 = .ok (.aload_n 0, 1) := by decide +kernel
theorem d_A_weighAgainst_18 : decode c_A_weighAgainst 18 = .ok (.getfield 22, 3) := by decide +kernel
theorem d_A_weighAgainst_21 : decode c_A_weighAgainst 21 = .ok (.iload_n 2, 1) := by decide +kernel
theorem d_A_weighAgainst_22 : decode c_A_weighAgainst 22 = .ok (.iload_n 2, 1) := by decide +kernel
theorem d_A_weighAgainst_23 : decode c_A_weighAgainst 23 = .ok (.aload_n 0, 1) := by decide +kernel
theorem d_A_weighAgainst_24 : decode c_A_weighAgainst 24 = .ok (.iload_n 2, 1) := by decide +kernel
theorem d_A_weighAgainst_25 : decode c_A_weighAgainst 25 = .ok (.invokevirtual 29, 3) := by decide +kernel
theorem d_A_weighAgainst_28 : decode c_A_weighAgainst 28 = .ok (.ldc2_w 33, 3) := by decide +kernel
theorem d_A_weighAgainst_31 : decode c_A_weighAgainst 31 = .ok (.aload_n 0, 1) := by decide +kernel
theorem d_A_weighAgainst_32 : decode c_A_weighAgainst 32 = .ok (.getfield 9, 3) := by decide +kernel
theorem d_A_weighAgainst_35 : decode c_A_weighAgainst 35 = .ok (.i2l, 1) := by decide +kernel
theorem d_A_weighAgainst_36 : decode c_A_weighAgainst 36 = .ok (.lmul, 1) := by decide +kernel
theorem d_A_weighAgainst_37 : decode c_A_weighAgainst 37 = .ok (.aload_n 1, 1) := by decide +kernel
theorem d_A_weighAgainst_38 : decode c_A_weighAgainst 38 = .ok (.iload_n 2, 1) := by decide +kernel
theorem d_A_weighAgainst_39 : decode c_A_weighAgainst 39 = .ok (.iaload, 1) := by decide +kernel
theorem d_A_weighAgainst_40 : decode c_A_weighAgainst 40 = .ok (.i2l, 1) := by decide +kernel
theorem d_A_weighAgainst_41 : decode c_A_weighAgainst 41 = .ok (.lmul, 1) := by decide +kernel
theorem d_A_weighAgainst_42 : decode c_A_weighAgainst 42 = .ok (.invokestatic 35, 3) := by decide +kernel
theorem d_A_weighAgainst_45 : decode c_A_weighAgainst 45 = .ok (.lastore, 1) := by decide +kernel
theorem d_A_weighAgainst_46 : decode c_A_weighAgainst 46 = .ok (.iinc 2 1, 3) := by decide +kernel
theorem d_A_weighAgainst_49 : decode c_A_weighAgainst 49 = .ok (.goto (-47), 3) := by decide +kernel
theorem d_A_weighAgainst_52 : decode c_A_weighAgainst 52 = .ok (.return_, 1) := by decide +kernel
theorem d_E_init_0 : decode c_E_init 0 = .ok (.aload_n 0, 1) := by decide +kernel
theorem d_E_init_1 : decode c_E_init 1 = .ok (.invokespecial 3, 3) := by decide +kernel
theorem d_E_init_4 : decode c_E_init 4 = .ok (.aload_n 0, 1) := by decide +kernel
theorem d_E_init_5 : decode c_E_init 5 = .ok (.iconst 1, 1) := by decide +kernel
theorem d_E_init_6 : decode c_E_init 6 = .ok (.putfield 9, 3) := by decide +kernel
theorem d_E_init_9 : decode c_E_init 9 = .ok (.aload_n 0, 1) := by decide +kernel
theorem d_E_init_10 : decode c_E_init 10 = .ok (.bipush 8, 2) := by decide +kernel
theorem d_E_init_12 : decode c_E_init 12 = .ok (.newarray .int, 2) := by decide +kernel
theorem d_E_init_14 : decode c_E_init 14 = .ok (.putfield 15, 3) := by decide +kernel
theorem d_E_init_17 : decode c_E_init 17 = .ok (.aload_n 0, 1) := by decide +kernel
theorem d_E_init_18 : decode c_E_init 18 = .ok (.bipush 8, 2) := by decide +kernel
theorem d_E_init_20 : decode c_E_init 20 = .ok (.newarray .int, 2) := by decide +kernel
theorem d_E_init_22 : decode c_E_init 22 = .ok (.putfield 19, 3) := by decide +kernel
theorem d_E_init_25 : decode c_E_init 25 = .ok (.iconst 0, 1) := by decide +kernel
theorem d_E_init_26 : decode c_E_init 26 = .ok (.istore_n 1, 1) := by decide +kernel
theorem d_E_init_27 : decode c_E_init 27 = .ok (.iload_n 1, 1) := by decide +kernel
theorem d_E_init_28 : decode c_E_init 28 = .ok (.aload_n 0, 1) := by decide +kernel
theorem d_E_init_29 : decode c_E_init 29 = .ok (.getfield 19, 3) := by decide +kernel
theorem d_E_init_32 : decode c_E_init 32 = .ok (.arraylength, 1) := by decide +kernel
theorem d_E_init_33 : decode c_E_init 33 = .ok (.if_icmp .ge 28, 3) := by decide +kernel
theorem d_E_init_36 : decode c_E_init 36 = .ok (.aload_n 0, 1) := by decide +kernel
theorem d_E_init_37 : decode c_E_init 37 = .ok (.getfield 19, 3) := by decide +kernel
theorem d_E_init_40 : decode c_E_init 40 = .ok (.iload_n 1, 1) := by decide +kernel
theorem d_E_init_41 : decode c_E_init 41 = .ok (.iload_n 1, 1) := by decide +kernel
theorem d_E_init_42 : decode c_E_init 42 = .ok (.invokestatic 22, 3) := by decide +kernel
theorem d_E_init_45 : decode c_E_init 45 = .ok (.ifCond .eq 7, 3) := by decide +kernel
theorem d_E_init_48 : decode c_E_init 48 = .ok (.iconst 0, 1) := by decide +kernel
theorem d_E_init_49 : decode c_E_init 49 = .ok (.goto 5, 3) := by decide +kernel
theorem d_E_init_52 : decode c_E_init 52 = .ok (.ldc 26, 2) := by decide +kernel
theorem d_E_init_54 : decode c_E_init 54 = .ok (.iastore, 1) := by decide +kernel
theorem d_E_init_55 : decode c_E_init 55 = .ok (.iinc 1 1, 3) := by decide +kernel
theorem d_E_init_58 : decode c_E_init 58 = .ok (.goto (-31), 3) := by decide +kernel
theorem d_E_init_61 : decode c_E_init 61 = .ok (.return_, 1) := by decide +kernel
theorem d_E_heldAt_0 : decode c_E_heldAt 0 = .ok (.ldc2_w 27, 3) := by decide +kernel
theorem d_E_heldAt_3 : decode c_E_heldAt 3 = .ok (.aload_n 0, 1) := by decide +kernel
theorem d_E_heldAt_4 : decode c_E_heldAt 4 = .ok (.getfield 9, 3) := by decide +kernel
theorem d_E_heldAt_7 : decode c_E_heldAt 7 = .ok (.i2l, 1) := by decide +kernel
theorem d_E_heldAt_8 : decode c_E_heldAt 8 = .ok (.lmul, 1) := by decide +kernel
theorem d_E_heldAt_9 : decode c_E_heldAt 9 = .ok (.aload_n 0, 1) := by decide +kernel
theorem d_E_heldAt_10 : decode c_E_heldAt 10 = .ok (.getfield 15, 3) := by decide +kernel
theorem d_E_heldAt_13 : decode c_E_heldAt 13 = .ok (.iload_n 1, 1) := by decide +kernel
theorem d_E_heldAt_14 : decode c_E_heldAt 14 = .ok (.iaload, 1) := by decide +kernel
theorem d_E_heldAt_15 : decode c_E_heldAt 15 = .ok (.i2l, 1) := by decide +kernel
theorem d_E_heldAt_16 : decode c_E_heldAt 16 = .ok (.lmul, 1) := by decide +kernel
theorem d_E_heldAt_17 : decode c_E_heldAt 17 = .ok (.lreturn, 1) := by decide +kernel
theorem d_E_surplusOfHeat_0 : decode c_E_surplusOfHeat 0 = .ok (.iload_n 1, 1) := by decide +kernel
theorem d_E_surplusOfHeat_1 : decode c_E_surplusOfHeat 1 = .ok (.aload_n 0, 1) := by decide +kernel
theorem d_E_surplusOfHeat_2 : decode c_E_surplusOfHeat 2 = .ok (.iload_n 1, 1) := by decide +kernel
theorem d_E_surplusOfHeat_3 : decode c_E_surplusOfHeat 3 = .ok (.invokevirtual 29, 3) := by decide +kernel
theorem d_E_surplusOfHeat_6 : decode c_E_surplusOfHeat 6 = .ok (.ldc2_w 27, 3) := by decide +kernel
theorem d_E_surplusOfHeat_9 : decode c_E_surplusOfHeat 9 = .ok (.aload_n 0, 1) := by decide +kernel
theorem d_E_surplusOfHeat_10 : decode c_E_surplusOfHeat 10 = .ok (.getfield 9, 3) := by decide +kernel
theorem d_E_surplusOfHeat_13 : decode c_E_surplusOfHeat 13 = .ok (.i2l, 1) := by decide +kernel
theorem d_E_surplusOfHeat_14 : decode c_E_surplusOfHeat 14 = .ok (.lmul, 1) := by decide +kernel
theorem d_E_surplusOfHeat_15 : decode c_E_surplusOfHeat 15 = .ok (.aload_n 0, 1) := by decide +kernel
theorem d_E_surplusOfHeat_16 : decode c_E_surplusOfHeat 16 = .ok (.getfield 19, 3) := by decide +kernel
theorem d_E_surplusOfHeat_19 : decode c_E_surplusOfHeat 19 = .ok (.iload_n 1, 1) := by decide +kernel
theorem d_E_surplusOfHeat_20 : decode c_E_surplusOfHeat 20 = .ok (.iaload, 1) := by decide +kernel
theorem d_E_surplusOfHeat_21 : decode c_E_surplusOfHeat 21 = .ok (.i2l, 1) := by decide +kernel
theorem d_E_surplusOfHeat_22 : decode c_E_surplusOfHeat 22 = .ok (.lmul, 1) := by decide +kernel
theorem d_E_surplusOfHeat_23 : decode c_E_surplusOfHeat 23 = .ok (.invokestatic 33, 3) := by decide +kernel
theorem d_E_surplusOfHeat_26 : decode c_E_surplusOfHeat 26 = .ok (.lreturn, 1) := by decide +kernel
theorem d_X_init_0 : decode c_X_init 0 = .ok (.aload_n 0, 1) := by decide +kernel
theorem d_X_init_1 : decode c_X_init 1 = .ok (.invokespecial 3, 3) := by decide +kernel
theorem d_X_init_4 : decode c_X_init 4 = .ok (.aload_n 0, 1) := by decide +kernel
theorem d_X_init_5 : decode c_X_init 5 = .ok (.bipush 8, 2) := by decide +kernel
theorem d_X_init_7 : decode c_X_init 7 = .ok (.newarray .long, 2) := by decide +kernel
theorem d_X_init_9 : decode c_X_init 9 = .ok (.putfield 9, 3) := by decide +kernel
theorem d_X_init_12 : decode c_X_init 12 = .ok (.return_, 1) := by decide +kernel
theorem d_X_becomeHeat_0 : decode c_X_becomeHeat 0 = .ok (.aload_n 0, 1) := by decide +kernel
theorem d_X_becomeHeat_1 : decode c_X_becomeHeat 1 = .ok (.iconst 0, 1) := by decide +kernel
theorem d_X_becomeHeat_2 : decode c_X_becomeHeat 2 = .ok (.putfield 15, 3) := by decide +kernel
theorem d_X_becomeHeat_5 : decode c_X_becomeHeat 5 = .ok (.aload_n 0, 1) := by decide +kernel
theorem d_X_becomeHeat_6 : decode c_X_becomeHeat 6 = .ok (.iconst 0, 1) := by decide +kernel
theorem d_X_becomeHeat_7 : decode c_X_becomeHeat 7 = .ok (.putfield 19, 3) := by decide +kernel
theorem d_X_becomeHeat_10 : decode c_X_becomeHeat 10 = .ok (.aload_n 0, 1) := by decide +kernel
theorem d_X_becomeHeat_11 : decode c_X_becomeHeat 11 = .ok (.iload_n 2, 1) := by decide +kernel
theorem d_X_becomeHeat_12 : decode c_X_becomeHeat 12 = .ok (.putfield 22, 3) := by decide +kernel
theorem d_X_becomeHeat_15 : decode c_X_becomeHeat 15 = .ok (.iconst 0, 1) := by decide +kernel
theorem d_X_becomeHeat_16 : decode c_X_becomeHeat 16 = .ok (.istore_n 3, 1) := by decide +kernel
theorem d_X_becomeHeat_17 : decode c_X_becomeHeat 17 = .ok (.iload_n 3, 1) := by decide +kernel
theorem d_X_becomeHeat_18 : decode c_X_becomeHeat 18 = .ok (.aload_n 0, 1) := by decide +kernel
theorem d_X_becomeHeat_19 : decode c_X_becomeHeat 19 = .ok (.getfield 9, 3) := by decide +kernel
theorem d_X_becomeHeat_22 : decode c_X_becomeHeat 22 = .ok (.arraylength, 1) := by decide +kernel
theorem d_X_becomeHeat_23 : decode c_X_becomeHeat 23 = .ok (.if_icmp .ge 20, 3) := by decide +kernel
theorem d_X_becomeHeat_26 : decode c_X_becomeHeat 26 = .ok (.aload_n 0, 1) := by decide +kernel
theorem d_X_becomeHeat_27 : decode c_X_becomeHeat 27 = .ok (.getfield 9, 3) := by decide +kernel
theorem d_X_becomeHeat_30 : decode c_X_becomeHeat 30 = .ok (.iload_n 3, 1) := by decide +kernel
theorem d_X_becomeHeat_31 : decode c_X_becomeHeat 31 = .ok (.aload_n 1, 1) := by decide +kernel
theorem d_X_becomeHeat_32 : decode c_X_becomeHeat 32 = .ok (.iload_n 3, 1) := by decide +kernel
theorem d_X_becomeHeat_33 : decode c_X_becomeHeat 33 = .ok (.invokevirtual 25, 3) := by decide +kernel
theorem d_X_becomeHeat_36 : decode c_X_becomeHeat 36 = .ok (.lastore, 1) := by decide +kernel
theorem d_X_becomeHeat_37 : decode c_X_becomeHeat 37 = .ok (.iinc 3 1, 3) := by decide +kernel
theorem d_X_becomeHeat_40 : decode c_X_becomeHeat 40 = .ok (.goto (-23), 3) := by decide +kernel
theorem d_X_becomeHeat_43 : decode c_X_becomeHeat 43 = .ok (.return_, 1) := by decide +kernel
theorem d_X_becomeLike_0 : decode c_X_becomeLike 0 = .ok (.aload_n 0, 1) := by decide +kernel
theorem d_X_becomeLike_1 : decode c_X_becomeLike 1 = .ok (.aload_n 1, 1) := by decide +kernel
theorem d_X_becomeLike_2 : decode c_X_becomeLike 2 = .ok (.getfield 15, 3) := by decide +kernel
theorem d_X_becomeLike_5 : decode c_X_becomeLike 5 = .ok (.putfield 15, 3) := by decide +kernel
theorem d_X_becomeLike_8 : decode c_X_becomeLike 8 = .ok (.aload_n 0, 1) := by decide +kernel
theorem d_X_becomeLike_9 : decode c_X_becomeLike 9 = .ok (.aload_n 1, 1) := by decide +kernel
theorem d_X_becomeLike_10 : decode c_X_becomeLike 10 = .ok (.getfield 19, 3) := by decide +kernel
theorem d_X_becomeLike_13 : decode c_X_becomeLike 13 = .ok (.putfield 19, 3) := by decide +kernel
theorem d_X_becomeLike_16 : decode c_X_becomeLike 16 = .ok (.aload_n 0, 1) := by decide +kernel
theorem d_X_becomeLike_17 : decode c_X_becomeLike 17 = .ok (.aload_n 1, 1) := by decide +kernel
theorem d_X_becomeLike_18 : decode c_X_becomeLike 18 = .ok (.getfield 22, 3) := by decide +kernel
theorem d_X_becomeLike_21 : decode c_X_becomeLike 21 = .ok (.putfield 22, 3) := by decide +kernel
theorem d_X_becomeLike_24 : decode c_X_becomeLike 24 = .ok (.aload_n 1, 1) := by decide +kernel
theorem d_X_becomeLike_25 : decode c_X_becomeLike 25 = .ok (.getfield 9, 3) := by decide +kernel
theorem d_X_becomeLike_28 : decode c_X_becomeLike 28 = .ok (.iconst 0, 1) := by decide +kernel
theorem d_X_becomeLike_29 : decode c_X_becomeLike 29 = .ok (.aload_n 0, 1) := by decide +kernel
theorem d_X_becomeLike_30 : decode c_X_becomeLike 30 = .ok (.getfield 9, 3) := by decide +kernel
theorem d_X_becomeLike_33 : decode c_X_becomeLike 33 = .ok (.iconst 0, 1) := by decide +kernel
theorem d_X_becomeLike_34 : decode c_X_becomeLike 34 = .ok (.aload_n 0, 1) := by decide +kernel
theorem d_X_becomeLike_35 : decode c_X_becomeLike 35 = .ok (.getfield 9, 3) := by decide +kernel
theorem d_X_becomeLike_38 : decode c_X_becomeLike 38 = .ok (.arraylength, 1) := by decide +kernel
theorem d_X_becomeLike_39 : decode c_X_becomeLike 39 = .ok (.invokestatic 31, 3) := by decide +kernel
theorem d_X_becomeLike_42 : decode c_X_becomeLike 42 = .ok (.return_, 1) := by decide +kernel
theorem d_X_takeStep_0 : decode c_X_takeStep 0 = .ok (.aload_n 0, 1) := by decide +kernel
theorem d_X_takeStep_1 : decode c_X_takeStep 1 = .ok (.dup, 1) := by decide +kernel
theorem d_X_takeStep_2 : decode c_X_takeStep 2 = .ok (.getfield 15, 3) := by decide +kernel
theorem d_X_takeStep_5 : decode c_X_takeStep 5 = .ok (.aload_n 1, 1) := by decide +kernel
theorem d_X_takeStep_6 : decode c_X_takeStep 6 = .ok (.getfield 37, 3) := by decide +kernel
theorem d_X_takeStep_9 : decode c_X_takeStep 9 = .ok (.iadd, 1) := by decide +kernel
theorem d_X_takeStep_10 : decode c_X_takeStep 10 = .ok (.putfield 15, 3) := by decide +kernel
theorem d_X_takeStep_13 : decode c_X_takeStep 13 = .ok (.aload_n 0, 1) := by decide +kernel
theorem d_X_takeStep_14 : decode c_X_takeStep 14 = .ok (.dup, 1) := by decide +kernel
theorem d_X_takeStep_15 : decode c_X_takeStep 15 = .ok (.getfield 19, 3) := by decide +kernel
theorem d_X_takeStep_18 : decode c_X_takeStep 18 = .ok (.iload_n 2, 1) := by decide +kernel
theorem d_X_takeStep_19 : decode c_X_takeStep 19 = .ok (.ifCond .eq 7, 3) := by decide +kernel
theorem d_X_takeStep_22 : decode c_X_takeStep 22 = .ok (.iconst 1, 1) := by decide +kernel
theorem d_X_takeStep_23 : decode c_X_takeStep 23 = .ok (.goto 4, 3) := by decide +kernel
theorem d_X_takeStep_26 : decode c_X_takeStep 26 = .ok (.iconst 0, 1) := by decide +kernel
theorem d_X_takeStep_27 : decode c_X_takeStep 27 = .ok (.iadd, 1) := by decide +kernel
theorem d_X_takeStep_28 : decode c_X_takeStep 28 = .ok (.putfield 19, 3) := by decide +kernel
theorem d_X_takeStep_31 : decode c_X_takeStep 31 = .ok (.aload_n 0, 1) := by decide +kernel
theorem d_X_takeStep_32 : decode c_X_takeStep 32 = .ok (.dup, 1) := by decide +kernel
theorem d_X_takeStep_33 : decode c_X_takeStep 33 = .ok (.getfield 22, 3) := by decide +kernel
theorem d_X_takeStep_36 : decode c_X_takeStep 36 = .ok (.aload_n 1, 1) := by decide +kernel
theorem d_X_takeStep_37 : decode c_X_takeStep 37 = .ok (.invokevirtual 40, 3) := by decide +kernel
theorem d_X_takeStep_40 : decode c_X_takeStep 40 = .ok (.isub, 1) := by decide +kernel
theorem d_X_takeStep_41 : decode c_X_takeStep 41 = .ok (.putfield 22, 3) := by decide +kernel
theorem d_X_takeStep_44 : decode c_X_takeStep 44 = .ok (.iconst 0, 1) := by decide +kernel
theorem d_X_takeStep_45 : decode c_X_takeStep 45 = .ok (.istore_n 3, 1) := by decide +kernel
theorem d_X_takeStep_46 : decode c_X_takeStep 46 = .ok (.iload_n 3, 1) := by decide +kernel
theorem d_X_takeStep_47 : decode c_X_takeStep 47 = .ok (.aload_n 0, 1) := by decide +kernel
theorem d_X_takeStep_48 : decode c_X_takeStep 48 = .ok (.getfield 9, 3) := by decide +kernel
theorem d_X_takeStep_51 : decode c_X_takeStep 51 = .ok (.arraylength, 1) := by decide +kernel
theorem d_X_takeStep_52 : decode c_X_takeStep 52 = .ok (.if_icmp .ge 24, 3) := by decide +kernel
theorem d_X_takeStep_55 : decode c_X_takeStep 55 = .ok (.aload_n 0, 1) := by decide +kernel
theorem d_X_takeStep_56 : decode c_X_takeStep 56 = .ok (.getfield 9, 3) := by decide +kernel
theorem d_X_takeStep_59 : decode c_X_takeStep 59 = .ok (.iload_n 3, 1) := by decide +kernel
theorem d_X_takeStep_60 : decode c_X_takeStep 60 = .ok (.dup2, 1) := by decide +kernel
theorem d_X_takeStep_61 : decode c_X_takeStep 61 = .ok (.laload, 1) := by decide +kernel
theorem d_X_takeStep_62 : decode c_X_takeStep 62 = .ok (.aload_n 1, 1) := by decide +kernel
theorem d_X_takeStep_63 : decode c_X_takeStep 63 = .ok (.getfield 44, 3) := by decide +kernel
theorem d_X_takeStep_66 : decode c_X_takeStep 66 = .ok (.iload_n 3, 1) := by decide +kernel
theorem d_X_takeStep_67 : decode c_X_takeStep 67 = .ok (.laload, 1) := by decide +kernel
theorem d_X_takeStep_68 : decode c_X_takeStep 68 = .ok (.ladd, 1) := by decide +kernel
theorem d_X_takeStep_69 : decode c_X_takeStep 69 = .ok (.lastore, 1) := by decide +kernel
theorem d_X_takeStep_70 : decode c_X_takeStep 70 = .ok (.iinc 3 1, 3) := by decide +kernel
theorem d_X_takeStep_73 : decode c_X_takeStep 73 = .ok (.goto (-27), 3) := by decide +kernel
theorem d_X_takeStep_76 : decode c_X_takeStep 76 = .ok (.return_, 1) := by decide +kernel
theorem d_X_countMet_0 : decode c_X_countMet 0 = .ok (.iconst 0, 1) := by decide +kernel
theorem d_X_countMet_1 : decode c_X_countMet 1 = .ok (.istore_n 1, 1) := by decide +kernel
theorem d_X_countMet_2 : decode c_X_countMet 2 = .ok (.iload_n 1, 1) := by decide +kernel
theorem d_X_countMet_3 : decode c_X_countMet 3 = .ok (.aload_n 0, 1) := by decide +kernel
theorem d_X_countMet_4 : decode c_X_countMet 4 = .ok (.getfield 9, 3) := by decide +kernel
theorem d_X_countMet_7 : decode c_X_countMet 7 = .ok (.arraylength, 1) := by decide +kernel
theorem d_X_countMet_8 : decode c_X_countMet 8 = .ok (.if_icmp .ge 24, 3) := by decide +kernel
theorem d_X_countMet_11 : decode c_X_countMet 11 = .ok (.aload_n 0, 1) := by decide +kernel
theorem d_X_countMet_12 : decode c_X_countMet 12 = .ok (.getfield 9, 3) := by decide +kernel
theorem d_X_countMet_15 : decode c_X_countMet 15 = .ok (.iload_n 1, 1) := by decide +kernel
theorem d_X_countMet_16 : decode c_X_countMet 16 = .ok (.laload, 1) := by decide +kernel
theorem d_X_countMet_17 : decode c_X_countMet 17 = .ok (.lconst 0, 1) := by decide +kernel
theorem d_X_countMet_18 : decode c_X_countMet 18 = .ok (.lcmp, 1) := by decide +kernel
theorem d_X_countMet_19 : decode c_X_countMet 19 = .ok (.ifCond .ge 7, 3) := by decide +kernel
theorem d_X_countMet_22 : decode c_X_countMet 22 = .ok (.iload_n 1, 1) := by decide +kernel
theorem d_X_countMet_23 : decode c_X_countMet 23 = .ok (.iconst 2, 1) := by decide +kernel
theorem d_X_countMet_24 : decode c_X_countMet 24 = .ok (.idiv, 1) := by decide +kernel
theorem d_X_countMet_25 : decode c_X_countMet 25 = .ok (.ireturn, 1) := by decide +kernel
theorem d_X_countMet_26 : decode c_X_countMet 26 = .ok (.iinc 1 1, 3) := by decide +kernel
theorem d_X_countMet_29 : decode c_X_countMet 29 = .ok (.goto (-27), 3) := by decide +kernel
theorem d_X_countMet_32 : decode c_X_countMet 32 = .ok (.iconst 4, 1) := by decide +kernel
theorem d_X_countMet_33 : decode c_X_countMet 33 = .ok (.ireturn, 1) := by decide +kernel
theorem d_N_init_0 : decode c_N_init 0 = .ok (.aload_n 0, 1) := by decide +kernel
theorem d_N_init_1 : decode c_N_init 1 = .ok (.invokespecial 3, 3) := by decide +kernel
theorem d_N_init_4 : decode c_N_init 4 = .ok (.aload_n 0, 1) := by decide +kernel
theorem d_N_init_5 : decode c_N_init 5 = .ok (.iconst 4, 1) := by decide +kernel
theorem d_N_init_6 : decode c_N_init 6 = .ok (.newarray .int, 2) := by decide +kernel
theorem d_N_init_8 : decode c_N_init 8 = .ok (.putfield 9, 3) := by decide +kernel
theorem d_N_init_11 : decode c_N_init 11 = .ok (.return_, 1) := by decide +kernel
theorem d_N_forget_0 : decode c_N_forget 0 = .ok (.aload_n 0, 1) := by decide +kernel
theorem d_N_forget_1 : decode c_N_forget 1 = .ok (.iconst 0, 1) := by decide +kernel
theorem d_N_forget_2 : decode c_N_forget 2 = .ok (.putfield 15, 3) := by decide +kernel
theorem d_N_forget_5 : decode c_N_forget 5 = .ok (.return_, 1) := by decide +kernel
theorem d_N_isTaken_0 : decode c_N_isTaken 0 = .ok (.aload_n 0, 1) := by decide +kernel
theorem d_N_isTaken_1 : decode c_N_isTaken 1 = .ok (.getfield 9, 3) := by decide +kernel
theorem d_N_isTaken_4 : decode c_N_isTaken 4 = .ok (.iload_n 1, 1) := by decide +kernel
theorem d_N_isTaken_5 : decode c_N_isTaken 5 = .ok (.iaload, 1) := by decide +kernel
theorem d_N_isTaken_6 : decode c_N_isTaken 6 = .ok (.ifCond .le 7, 3) := by decide +kernel
theorem d_N_isTaken_9 : decode c_N_isTaken 9 = .ok (.iconst 1, 1) := by decide +kernel
theorem d_N_isTaken_10 : decode c_N_isTaken 10 = .ok (.goto 4, 3) := by decide +kernel
theorem d_N_isTaken_13 : decode c_N_isTaken 13 = .ok (.iconst 0, 1) := by decide +kernel
theorem d_N_isTaken_14 : decode c_N_isTaken 14 = .ok (.ireturn, 1) := by decide +kernel
theorem d_N_settle_0 : decode c_N_settle 0 = .ok (.aload_n 0, 1) := by decide +kernel
theorem d_N_settle_1 : decode c_N_settle 1 = .ok (.iconst 0, 1) := by decide +kernel
theorem d_N_settle_2 : decode c_N_settle 2 = .ok (.putfield 19, 3) := by decide +kernel
theorem d_N_settle_5 : decode c_N_settle 5 = .ok (.aload_n 0, 1) := by decide +kernel
theorem d_N_settle_6 : decode c_N_settle 6 = .ok (.iconst 0, 1) := by decide +kernel
theorem d_N_settle_7 : decode c_N_settle 7 = .ok (.putfield 23, 3) := by decide +kernel
theorem d_N_settle_10 : decode c_N_settle 10 = .ok (.aload_n 0, 1) := by decide +kernel
theorem d_N_settle_11 : decode c_N_settle 11 = .ok (.iconst 0, 1) := by decide +kernel
theorem d_N_settle_12 : decode c_N_settle 12 = .ok (.putfield 26, 3) := by decide +kernel
theorem d_N_settle_15 : decode c_N_settle 15 = .ok (.aload_n 0, 1) := by decide +kernel
theorem d_N_settle_16 : decode c_N_settle 16 = .ok (.iconst 0, 1) := by decide +kernel
theorem d_N_settle_17 : decode c_N_settle 17 = .ok (.putfield 29, 3) := by decide +kernel
theorem d_N_settle_20 : decode c_N_settle 20 = .ok (.iconst 0, 1) := by decide +kernel
theorem d_N_settle_21 : decode c_N_settle 21 = .ok (.istore 4, 2) := by decide +kernel
theorem d_N_settle_23 : decode c_N_settle 23 = .ok (.iload 4, 2) := by decide +kernel
theorem d_N_settle_25 : decode c_N_settle 25 = .ok (.iload_n 3, 1) := by decide +kernel
theorem d_N_settle_26 : decode c_N_settle 26 = .ok (.if_icmp .ge 110, 3) := by decide +kernel
theorem d_N_settle_29 : decode c_N_settle 29 = .ok (.iload 4, 2) := by decide +kernel
theorem d_N_settle_31 : decode c_N_settle 31 = .ok (.aload_n 0, 1) := by decide +kernel
theorem d_N_settle_32 : decode c_N_settle 32 = .ok (.getfield 9, 3) := by decide +kernel
theorem d_N_settle_35 : decode c_N_settle 35 = .ok (.arraylength, 1) := by decide +kernel
theorem d_N_settle_36 : decode c_N_settle 36 = .ok (.if_icmp .ge 100, 3) := by decide +kernel
theorem d_N_settle_39 : decode c_N_settle 39 = .ok (.aload_n 1, 1) := by decide +kernel
theorem d_N_settle_40 : decode c_N_settle 40 = .ok (.iload 4, 2) := by decide +kernel
theorem d_N_settle_42 : decode c_N_settle 42 = .ok (.iaload, 1) := by decide +kernel
theorem d_N_settle_43 : decode c_N_settle 43 = .ok (.istore 5, 2) := by decide +kernel
theorem d_N_settle_45 : decode c_N_settle 45 = .ok (.aload_n 0, 1) := by decide +kernel
theorem d_N_settle_46 : decode c_N_settle 46 = .ok (.getfield 9, 3) := by decide +kernel
theorem d_N_settle_49 : decode c_N_settle 49 = .ok (.iload 4, 2) := by decide +kernel
theorem d_N_settle_51 : decode c_N_settle 51 = .ok (.iload 5, 2) := by decide +kernel
theorem d_N_settle_53 : decode c_N_settle 53 = .ok (.iastore, 1) := by decide +kernel
theorem d_N_settle_54 : decode c_N_settle 54 = .ok (.aload_n 0, 1) := by decide +kernel
theorem d_N_settle_55 : decode c_N_settle 55 = .ok (.dup, 1) := by decide +kernel
theorem d_N_settle_56 : decode c_N_settle 56 = .ok (.getfield 19, 3) := by decide +kernel
theorem d_N_settle_59 : decode c_N_settle 59 = .ok (.iload 5, 2) := by decide +kernel
theorem d_N_settle_61 : decode c_N_settle 61 = .ok (.aload_n 2, 1) := by decide +kernel
theorem d_N_settle_62 : decode c_N_settle 62 = .ok (.iload 4, 2) := by decide +kernel
theorem d_N_settle_64 : decode c_N_settle 64 = .ok (.aaload, 1) := by decide +kernel
theorem d_N_settle_65 : decode c_N_settle 65 = .ok (.getfield 32, 3) := by decide +kernel
theorem d_N_settle_68 : decode c_N_settle 68 = .ok (.imul, 1) := by decide +kernel
theorem d_N_settle_69 : decode c_N_settle 69 = .ok (.iadd, 1) := by decide +kernel
theorem d_N_settle_70 : decode c_N_settle 70 = .ok (.putfield 19, 3) := by decide +kernel
theorem d_N_settle_73 : decode c_N_settle 73 = .ok (.aload_n 0, 1) := by decide +kernel
theorem d_N_settle_74 : decode c_N_settle 74 = .ok (.dup, 1) := by decide +kernel
theorem d_N_settle_75 : decode c_N_settle 75 = .ok (.getfield 23, 3) := by decide +kernel
theorem d_N_settle_78 : decode c_N_settle 78 = .ok (.iload 5, 2) := by decide +kernel
theorem d_N_settle_80 : decode c_N_settle 80 = .ok (.aload_n 2, 1) := by decide +kernel
theorem d_N_settle_81 : decode c_N_settle 81 = .ok (.iload 4, 2) := by decide +kernel
theorem d_N_settle_83 : decode c_N_settle 83 = .ok (.aaload, 1) := by decide +kernel
theorem d_N_settle_84 : decode c_N_settle 84 = .ok (.getfield 35, 3) := by decide +kernel
theorem d_N_settle_87 : decode c_N_settle 87 = .ok (.imul, 1) := by decide +kernel
theorem d_N_settle_88 : decode c_N_settle 88 = .ok (.iadd, 1) := by decide +kernel
theorem d_N_settle_89 : decode c_N_settle 89 = .ok (.putfield 23, 3) := by decide +kernel
theorem d_N_settle_92 : decode c_N_settle 92 = .ok (.aload_n 0, 1) := by decide +kernel
theorem d_N_settle_93 : decode c_N_settle 93 = .ok (.dup, 1) := by decide +kernel
theorem d_N_settle_94 : decode c_N_settle 94 = .ok (.getfield 26, 3) := by decide +kernel
theorem d_N_settle_97 : decode c_N_settle 97 = .ok (.iload 5, 2) := by decide +kernel
theorem d_N_settle_99 : decode c_N_settle 99 = .ok (.ifCond .le 7, 3) := by decide +kernel
theorem d_N_settle_102 : decode c_N_settle 102 = .ok (.iconst 1, 1) := by decide +kernel
theorem d_N_settle_103 : decode c_N_settle 103 = .ok (.goto 4, 3) := by decide +kernel
theorem d_N_settle_106 : decode c_N_settle 106 = .ok (.iconst 0, 1) := by decide +kernel
theorem d_N_settle_107 : decode c_N_settle 107 = .ok (.iadd, 1) := by decide +kernel
theorem d_N_settle_108 : decode c_N_settle 108 = .ok (.putfield 26, 3) := by decide +kernel
theorem d_N_settle_111 : decode c_N_settle 111 = .ok (.aload_n 0, 1) := by decide +kernel
theorem d_N_settle_112 : decode c_N_settle 112 = .ok (.dup, 1) := by decide +kernel
theorem d_N_settle_113 : decode c_N_settle 113 = .ok (.getfield 29, 3) := by decide +kernel
theorem d_N_settle_116 : decode c_N_settle 116 = .ok (.iload 5, 2) := by decide +kernel
theorem d_N_settle_118 : decode c_N_settle 118 = .ok (.aload_n 2, 1) := by decide +kernel
theorem d_N_settle_119 : decode c_N_settle 119 = .ok (.iload 4, 2) := by decide +kernel
theorem d_N_settle_121 : decode c_N_settle 121 = .ok (.aaload, 1) := by decide +kernel
theorem d_N_settle_122 : decode c_N_settle 122 = .ok (.invokevirtual 36, 3) := by decide +kernel
theorem d_N_settle_125 : decode c_N_settle 125 = .ok (.imul, 1) := by decide +kernel
theorem d_N_settle_126 : decode c_N_settle 126 = .ok (.iadd, 1) := by decide +kernel
theorem d_N_settle_127 : decode c_N_settle 127 = .ok (.putfield 29, 3) := by decide +kernel
theorem d_N_settle_130 : decode c_N_settle 130 = .ok (.iinc 4 1, 3) := by decide +kernel
theorem d_N_settle_133 : decode c_N_settle 133 = .ok (.goto (-110), 3) := by decide +kernel
theorem d_N_settle_136 : decode c_N_settle 136 = .ok (.aload_n 0, 1) := by decide +kernel
theorem d_N_settle_137 : decode c_N_settle 137 = .ok (.iconst 1, 1) := by decide +kernel
theorem d_N_settle_138 : decode c_N_settle 138 = .ok (.putfield 15, 3) := by decide +kernel
theorem d_N_settle_141 : decode c_N_settle 141 = .ok (.return_, 1) := by decide +kernel
theorem d_S_init_0 : decode c_S_init 0 = .ok (.aload_n 0, 1) := by decide +kernel
theorem d_S_init_1 : decode c_S_init 1 = .ok (.invokespecial 3, 3) := by decide +kernel
theorem d_S_init_4 : decode c_S_init 4 = .ok (.aload_n 0, 1) := by decide +kernel
theorem d_S_init_5 : decode c_S_init 5 = .ok (.iconst 4, 1) := by decide +kernel
theorem d_S_init_6 : decode c_S_init 6 = .ok (.newarray .int, 2) := by decide +kernel
theorem d_S_init_8 : decode c_S_init 8 = .ok (.putfield 9, 3) := by decide +kernel
theorem d_S_init_11 : decode c_S_init 11 = .ok (.aload_n 0, 1) := by decide +kernel
theorem d_S_init_12 : decode c_S_init 12 = .ok (.iconst 4, 1) := by decide +kernel
theorem d_S_init_13 : decode c_S_init 13 = .ok (.newarray .int, 2) := by decide +kernel
theorem d_S_init_15 : decode c_S_init 15 = .ok (.putfield 15, 3) := by decide +kernel
theorem d_S_init_18 : decode c_S_init 18 = .ok (.aload_n 0, 1) := by decide +kernel
theorem d_S_init_19 : decode c_S_init 19 = .ok (.iconst 5, 1) := by decide +kernel
theorem d_S_init_20 : decode c_S_init 20 = .ok (.anewarray 18, 3) := by decide +kernel
theorem d_S_init_23 : decode c_S_init 23 = .ok (.putfield 20, 3) := by decide +kernel
theorem d_S_init_26 : decode c_S_init 26 = .ok (.iconst 0, 1) := by decide +kernel
theorem d_S_init_27 : decode c_S_init 27 = .ok (.istore_n 1, 1) := by decide +kernel
theorem d_S_init_28 : decode c_S_init 28 = .ok (.iload_n 1, 1) := by decide +kernel
theorem d_S_init_29 : decode c_S_init 29 = .ok (.aload_n 0, 1) := by decide +kernel
theorem d_S_init_30 : decode c_S_init 30 = .ok (.getfield 20, 3) := by decide +kernel
theorem d_S_init_33 : decode c_S_init 33 = .ok (.arraylength, 1) := by decide +kernel
theorem d_S_init_34 : decode c_S_init 34 = .ok (.if_icmp .ge 22, 3) := by decide +kernel
theorem d_S_init_37 : decode c_S_init 37 = .ok (.aload_n 0, 1) := by decide +kernel
theorem d_S_init_38 : decode c_S_init 38 = .ok (.getfield 20, 3) := by decide +kernel
theorem d_S_init_41 : decode c_S_init 41 = .ok (.iload_n 1, 1) := by decide +kernel
theorem d_S_init_42 : decode c_S_init 42 = .ok (.new 18, 3) := by decide +kernel
theorem d_S_init_45 : decode c_S_init 45 = .ok (.dup, 1) := by decide +kernel
theorem d_S_init_46 : decode c_S_init 46 = .ok (.invokespecial 24, 3) := by decide +kernel
theorem d_S_init_49 : decode c_S_init 49 = .ok (.aastore, 1) := by decide +kernel
theorem d_S_init_50 : decode c_S_init 50 = .ok (.iinc 1 1, 3) := by decide +kernel
theorem d_S_init_53 : decode c_S_init 53 = .ok (.goto (-25), 3) := by decide +kernel
theorem d_S_init_56 : decode c_S_init 56 = .ok (.return_, 1) := by decide +kernel
theorem d_S_goThrough_0 : decode c_S_goThrough 0 = .ok (.aload_n 0, 1) := by decide +kernel
theorem d_S_goThrough_1 : decode c_S_goThrough 1 = .ok (.iconst 0, 1) := by decide +kernel
theorem d_S_goThrough_2 : decode c_S_goThrough 2 = .ok (.putfield 25, 3) := by decide +kernel
theorem d_S_goThrough_5 : decode c_S_goThrough 5 = .ok (.aload_n 0, 1) := by decide +kernel
theorem d_S_goThrough_6 : decode c_S_goThrough 6 = .ok (.iconst 0, 1) := by decide +kernel
theorem d_S_goThrough_7 : decode c_S_goThrough 7 = .ok (.putfield 29, 3) := by decide +kernel
theorem d_S_goThrough_10 : decode c_S_goThrough 10 = .ok (.iconst 0, 1) := by decide +kernel
theorem d_S_goThrough_11 : decode c_S_goThrough 11 = .ok (.istore 5, 2) := by decide +kernel
theorem d_S_goThrough_13 : decode c_S_goThrough 13 = .ok (.iload 5, 2) := by decide +kernel
theorem d_S_goThrough_15 : decode c_S_goThrough 15 = .ok (.iload_n 3, 1) := by decide +kernel
theorem d_S_goThrough_16 : decode c_S_goThrough 16 = .ok (.if_icmp .ge 27, 3) := by decide +kernel
theorem d_S_goThrough_19 : decode c_S_goThrough 19 = .ok (.iload 5, 2) := by decide +kernel
theorem d_S_goThrough_21 : decode c_S_goThrough 21 = .ok (.aload_n 2, 1) := by decide +kernel
theorem d_S_goThrough_22 : decode c_S_goThrough 22 = .ok (.arraylength, 1) := by decide +kernel
theorem d_S_goThrough_23 : decode c_S_goThrough 23 = .ok (.if_icmp .ge 20, 3) := by decide +kernel
theorem d_S_goThrough_26 : decode c_S_goThrough 26 = .ok (.aload_n 2, 1) := by decide +kernel
theorem d_S_goThrough_27 : decode c_S_goThrough 27 = .ok (.iload 5, 2) := by decide +kernel
theorem d_S_goThrough_29 : decode c_S_goThrough 29 = .ok (.aaload, 1) := by decide +kernel
theorem d_S_goThrough_30 : decode c_S_goThrough 30 = .ok (.aload_n 1, 1) := by decide +kernel
theorem d_S_goThrough_31 : decode c_S_goThrough 31 = .ok (.getfield 33, 3) := by decide +kernel
theorem d_S_goThrough_34 : decode c_S_goThrough 34 = .ok (.invokevirtual 38, 3) := by decide +kernel
theorem d_S_goThrough_37 : decode c_S_goThrough 37 = .ok (.iinc 5 1, 3) := by decide +kernel
theorem d_S_goThrough_40 : decode c_S_goThrough 40 = .ok (.goto (-27), 3) := by decide +kernel
theorem d_S_goThrough_43 : decode c_S_goThrough 43 = .ok (.aload_n 0, 1) := by decide +kernel
theorem d_S_goThrough_44 : decode c_S_goThrough 44 = .ok (.getfield 20, 3) := by decide +kernel
theorem d_S_goThrough_47 : decode c_S_goThrough 47 = .ok (.iconst 0, 1) := by decide +kernel
theorem d_S_goThrough_48 : decode c_S_goThrough 48 = .ok (.aaload, 1) := by decide +kernel
theorem d_S_goThrough_49 : decode c_S_goThrough 49 = .ok (.aload_n 1, 1) := by decide +kernel
theorem d_S_goThrough_50 : decode c_S_goThrough 50 = .ok (.iload 4, 2) := by decide +kernel
theorem d_S_goThrough_52 : decode c_S_goThrough 52 = .ok (.invokevirtual 44, 3) := by decide +kernel
theorem d_S_goThrough_55 : decode c_S_goThrough 55 = .ok (.aload_n 0, 1) := by decide +kernel
theorem d_S_goThrough_56 : decode c_S_goThrough 56 = .ok (.iconst 0, 1) := by decide +kernel
theorem d_S_goThrough_57 : decode c_S_goThrough 57 = .ok (.aload_n 2, 1) := by decide +kernel
theorem d_S_goThrough_58 : decode c_S_goThrough 58 = .ok (.iload_n 3, 1) := by decide +kernel
theorem d_S_goThrough_59 : decode c_S_goThrough 59 = .ok (.invokevirtual 48, 3) := by decide +kernel
theorem d_S_goThrough_62 : decode c_S_goThrough 62 = .ok (.return_, 1) := by decide +kernel
theorem d_S_tryKindsFrom_0 : decode c_S_tryKindsFrom 0 = .ok (.iload_n 1, 1) := by decide +kernel
theorem d_S_tryKindsFrom_1 : decode c_S_tryKindsFrom 1 = .ok (.iload_n 3, 1) := by decide +kernel
theorem d_S_tryKindsFrom_2 : decode c_S_tryKindsFrom 2 = .ok (.if_icmp .ge 18, 3) := by decide +kernel
theorem d_S_tryKindsFrom_5 : decode c_S_tryKindsFrom 5 = .ok (.iload_n 1, 1) := by decide +kernel
theorem d_S_tryKindsFrom_6 : decode c_S_tryKindsFrom 6 = .ok (.aload_n 2, 1) := by decide +kernel
theorem d_S_tryKindsFrom_7 : decode c_S_tryKindsFrom 7 = .ok (.arraylength, 1) := by decide +kernel
theorem d_S_tryKindsFrom_8 : decode c_S_tryKindsFrom 8 = .ok (.if_icmp .ge 12, 3) := by decide +kernel
theorem d_S_tryKindsFrom_11 : decode c_S_tryKindsFrom 11 = .ok (.iload_n 1, 1) := by decide +kernel
theorem d_S_tryKindsFrom_12 : decode c_S_tryKindsFrom 12 = .ok (.aload_n 0, 1) := by decide +kernel
theorem d_S_tryKindsFrom_13 : decode c_S_tryKindsFrom 13 = .ok (.getfield 15, 3) := by decide +kernel
theorem d_S_tryKindsFrom_16 : decode c_S_tryKindsFrom 16 = .ok (.arraylength, 1) := by decide +kernel
theorem d_S_tryKindsFrom_17 : decode c_S_tryKindsFrom 17 = .ok (.if_icmp .lt 14, 3) := by decide +kernel
theorem d_S_tryKindsFrom_20 : decode c_S_tryKindsFrom 20 = .ok (.aload_n 0, 1) := by decide +kernel
theorem d_S_tryKindsFrom_21 : decode c_S_tryKindsFrom 21 = .ok (.aload_n 0, 1) := by decide +kernel
theorem d_S_tryKindsFrom_22 : decode c_S_tryKindsFrom 22 = .ok (.getfield 20, 3) := by decide +kernel
theorem d_S_tryKindsFrom_25 : decode c_S_tryKindsFrom 25 = .ok (.iload_n 1, 1) := by decide +kernel
theorem d_S_tryKindsFrom_26 : decode c_S_tryKindsFrom 26 = .ok (.aaload, 1) := by decide +kernel
theorem d_S_tryKindsFrom_27 : decode c_S_tryKindsFrom 27 = .ok (.invokevirtual 52, 3) := by decide +kernel
theorem d_S_tryKindsFrom_30 : decode c_S_tryKindsFrom 30 = .ok (.return_, 1) := by decide +kernel
theorem d_S_tryKindsFrom_31 : decode c_S_tryKindsFrom 31 = .ok (.aload_n 2, 1) := by decide +kernel
theorem d_S_tryKindsFrom_32 : decode c_S_tryKindsFrom 32 = .ok (.iload_n 1, 1) := by decide +kernel
theorem d_S_tryKindsFrom_33 : decode c_S_tryKindsFrom 33 = .ok (.aaload, 1) := by decide +kernel
theorem d_S_tryKindsFrom_34 : decode c_S_tryKindsFrom 34 = .ok (.astore 4, 2) := by decide +kernel
theorem d_S_tryKindsFrom_36 : decode c_S_tryKindsFrom 36 = .ok (.aload_n 0, 1) := by decide +kernel
theorem d_S_tryKindsFrom_37 : decode c_S_tryKindsFrom 37 = .ok (.getfield 20, 3) := by decide +kernel
theorem d_S_tryKindsFrom_40 : decode c_S_tryKindsFrom 40 = .ok (.iload_n 1, 1) := by decide +kernel
theorem d_S_tryKindsFrom_41 : decode c_S_tryKindsFrom 41 = .ok (.iconst 1, 1) := by decide +kernel
theorem d_S_tryKindsFrom_42 : decode c_S_tryKindsFrom 42 = .ok (.iadd, 1) := by decide +kernel
theorem d_S_tryKindsFrom_43 : decode c_S_tryKindsFrom 43 = .ok (.aaload, 1) := by decide +kernel
theorem d_S_tryKindsFrom_44 : decode c_S_tryKindsFrom 44 = .ok (.astore 5, 2) := by decide +kernel
theorem d_S_tryKindsFrom_46 : decode c_S_tryKindsFrom 46 = .ok (.aload 5, 2) := by decide +kernel
theorem d_S_tryKindsFrom_48 : decode c_S_tryKindsFrom 48 = .ok (.aload_n 0, 1) := by decide +kernel
theorem d_S_tryKindsFrom_49 : decode c_S_tryKindsFrom 49 = .ok (.getfield 20, 3) := by decide +kernel
theorem d_S_tryKindsFrom_52 : decode c_S_tryKindsFrom 52 = .ok (.iload_n 1, 1) := by decide +kernel
theorem d_S_tryKindsFrom_53 : decode c_S_tryKindsFrom 53 = .ok (.aaload, 1) := by decide +kernel
theorem d_S_tryKindsFrom_54 : decode c_S_tryKindsFrom 54 = .ok (.invokevirtual 56, 3) := by decide +kernel
theorem d_S_tryKindsFrom_57 : decode c_S_tryKindsFrom 57 = .ok (.iconst 0, 1) := by decide +kernel
theorem d_S_tryKindsFrom_58 : decode c_S_tryKindsFrom 58 = .ok (.istore 6, 2) := by decide +kernel
theorem d_S_tryKindsFrom_60 : decode c_S_tryKindsFrom 60 = .ok (.iload 6, 2) := by decide +kernel
theorem d_S_tryKindsFrom_62 : decode c_S_tryKindsFrom 62 = .ok (.aload 4, 2) := by decide +kernel
theorem d_S_tryKindsFrom_64 : decode c_S_tryKindsFrom 64 = .ok (.getfield 59, 3) := by decide +kernel
theorem d_S_tryKindsFrom_67 : decode c_S_tryKindsFrom 67 = .ok (.if_icmp .gt 59, 3) := by decide +kernel
theorem d_S_tryKindsFrom_70 : decode c_S_tryKindsFrom 70 = .ok (.iload 6, 2) := by decide +kernel
theorem d_S_tryKindsFrom_72 : decode c_S_tryKindsFrom 72 = .ok (.ifCond .le 21, 3) := by decide +kernel
theorem d_S_tryKindsFrom_75 : decode c_S_tryKindsFrom 75 = .ok (.aload 5, 2) := by decide +kernel
theorem d_S_tryKindsFrom_77 : decode c_S_tryKindsFrom 77 = .ok (.aload 4, 2) := by decide +kernel
theorem d_S_tryKindsFrom_79 : decode c_S_tryKindsFrom 79 = .ok (.iload 6, 2) := by decide +kernel
theorem d_S_tryKindsFrom_81 : decode c_S_tryKindsFrom 81 = .ok (.iconst 1, 1) := by decide +kernel
theorem d_S_tryKindsFrom_82 : decode c_S_tryKindsFrom 82 = .ok (.if_icmp .ne 7, 3) := by decide +kernel
theorem d_S_tryKindsFrom_85 : decode c_S_tryKindsFrom 85 = .ok (.iconst 1, 1) := by decide +kernel
theorem d_S_tryKindsFrom_86 : decode c_S_tryKindsFrom 86 = .ok (.goto 4, 3) := by decide +kernel
theorem d_S_tryKindsFrom_89 : decode c_S_tryKindsFrom 89 = .ok (.iconst 0, 1) := by decide +kernel
theorem d_S_tryKindsFrom_90 : decode c_S_tryKindsFrom 90 = .ok (.invokevirtual 62, 3) := by decide +kernel
theorem d_S_tryKindsFrom_93 : decode c_S_tryKindsFrom 93 = .ok (.aload_n 0, 1) := by decide +kernel
theorem d_S_tryKindsFrom_94 : decode c_S_tryKindsFrom 94 = .ok (.aload 5, 2) := by decide +kernel
theorem d_S_tryKindsFrom_96 : decode c_S_tryKindsFrom 96 = .ok (.invokevirtual 66, 3) := by decide +kernel
theorem d_S_tryKindsFrom_99 : decode c_S_tryKindsFrom 99 = .ok (.ifCond .ne 4, 3) := by decide +kernel
theorem d_S_tryKindsFrom_102 : decode c_S_tryKindsFrom 102 = .ok (.return_, 1) := by decide +kernel
theorem d_S_tryKindsFrom_103 : decode c_S_tryKindsFrom 103 = .ok (.aload_n 0, 1) := by decide +kernel
theorem d_S_tryKindsFrom_104 : decode c_S_tryKindsFrom 104 = .ok (.getfield 15, 3) := by decide +kernel
theorem d_S_tryKindsFrom_107 : decode c_S_tryKindsFrom 107 = .ok (.iload_n 1, 1) := by decide +kernel
theorem d_S_tryKindsFrom_108 : decode c_S_tryKindsFrom 108 = .ok (.iload 6, 2) := by decide +kernel
theorem d_S_tryKindsFrom_110 : decode c_S_tryKindsFrom 110 = .ok (.iastore, 1) := by decide +kernel
theorem d_S_tryKindsFrom_111 : decode c_S_tryKindsFrom 111 = .ok (.aload_n 0, 1) := by decide +kernel
theorem d_S_tryKindsFrom_112 : decode c_S_tryKindsFrom 112 = .ok (.iload_n 1, 1) := by decide +kernel
theorem d_S_tryKindsFrom_113 : decode c_S_tryKindsFrom 113 = .ok (.iconst 1, 1) := by decide +kernel
theorem d_S_tryKindsFrom_114 : decode c_S_tryKindsFrom 114 = .ok (.iadd, 1) := by decide +kernel
theorem d_S_tryKindsFrom_115 : decode c_S_tryKindsFrom 115 = .ok (.aload_n 2, 1) := by decide +kernel
theorem d_S_tryKindsFrom_116 : decode c_S_tryKindsFrom 116 = .ok (.iload_n 3, 1) := by decide +kernel
theorem d_S_tryKindsFrom_117 : decode c_S_tryKindsFrom 117 = .ok (.invokevirtual 48, 3) := by decide +kernel
theorem d_S_tryKindsFrom_120 : decode c_S_tryKindsFrom 120 = .ok (.iinc 6 1, 3) := by decide +kernel
theorem d_S_tryKindsFrom_123 : decode c_S_tryKindsFrom 123 = .ok (.goto (-63), 3) := by decide +kernel
theorem d_S_tryKindsFrom_126 : decode c_S_tryKindsFrom 126 = .ok (.return_, 1) := by decide +kernel
theorem d_S_isWorthTrying_0 : decode c_S_isWorthTrying 0 = .ok (.aload_n 1, 1) := by decide +kernel
theorem d_S_isWorthTrying_1 : decode c_S_isWorthTrying 1 = .ok (.getfield 70, 3) := by decide +kernel
theorem d_S_isWorthTrying_4 : decode c_S_isWorthTrying 4 = .ok (.ifCond .ge 5, 3) := by decide +kernel
theorem d_S_isWorthTrying_7 : decode c_S_isWorthTrying 7 = .ok (.iconst 0, 1) := by decide +kernel
theorem d_S_isWorthTrying_8 : decode c_S_isWorthTrying 8 = .ok (.ireturn, 1) := by decide +kernel
theorem d_S_isWorthTrying_9 : decode c_S_isWorthTrying 9 = .ok (.aload_n 0, 1) := by decide +kernel
theorem d_S_isWorthTrying_10 : decode c_S_isWorthTrying 10 = .ok (.getfield 25, 3) := by decide +kernel
theorem d_S_isWorthTrying_13 : decode c_S_isWorthTrying 13 = .ok (.ifCond .eq 36, 3) := by decide +kernel
theorem d_S_isWorthTrying_16 : decode c_S_isWorthTrying 16 = .ok (.aload_n 1, 1) := by decide +kernel
theorem d_S_isWorthTrying_17 : decode c_S_isWorthTrying 17 = .ok (.getfield 73, 3) := by decide +kernel
theorem d_S_isWorthTrying_20 : decode c_S_isWorthTrying 20 = .ok (.aload_n 0, 1) := by decide +kernel
theorem d_S_isWorthTrying_21 : decode c_S_isWorthTrying 21 = .ok (.getfield 76, 3) := by decide +kernel
theorem d_S_isWorthTrying_24 : decode c_S_isWorthTrying 24 = .ok (.if_icmp .lt 25, 3) := by decide +kernel
theorem d_S_isWorthTrying_27 : decode c_S_isWorthTrying 27 = .ok (.aload_n 1, 1) := by decide +kernel
theorem d_S_isWorthTrying_28 : decode c_S_isWorthTrying 28 = .ok (.getfield 73, 3) := by decide +kernel
theorem d_S_isWorthTrying_31 : decode c_S_isWorthTrying 31 = .ok (.aload_n 0, 1) := by decide +kernel
theorem d_S_isWorthTrying_32 : decode c_S_isWorthTrying 32 = .ok (.getfield 76, 3) := by decide +kernel
theorem d_S_isWorthTrying_35 : decode c_S_isWorthTrying 35 = .ok (.if_icmp .ne 18, 3) := by decide +kernel
theorem d_S_isWorthTrying_38 : decode c_S_isWorthTrying 38 = .ok (.aload_n 1, 1) := by decide +kernel
theorem d_S_isWorthTrying_39 : decode c_S_isWorthTrying 39 = .ok (.getfield 79, 3) := by decide +kernel
theorem d_S_isWorthTrying_42 : decode c_S_isWorthTrying 42 = .ok (.aload_n 0, 1) := by decide +kernel
theorem d_S_isWorthTrying_43 : decode c_S_isWorthTrying 43 = .ok (.getfield 82, 3) := by decide +kernel
theorem d_S_isWorthTrying_46 : decode c_S_isWorthTrying 46 = .ok (.if_icmp .ge 7, 3) := by decide +kernel
theorem d_S_isWorthTrying_49 : decode c_S_isWorthTrying 49 = .ok (.iconst 1, 1) := by decide +kernel
theorem d_S_isWorthTrying_50 : decode c_S_isWorthTrying 50 = .ok (.goto 4, 3) := by decide +kernel
theorem d_S_isWorthTrying_53 : decode c_S_isWorthTrying 53 = .ok (.iconst 0, 1) := by decide +kernel
theorem d_S_isWorthTrying_54 : decode c_S_isWorthTrying 54 = .ok (.ireturn, 1) := by decide +kernel
theorem d_S_judge_0 : decode c_S_judge 0 = .ok (.aload_n 1, 1) := by decide +kernel
theorem d_S_judge_1 : decode c_S_judge 1 = .ok (.invokevirtual 85, 3) := by decide +kernel
theorem d_S_judge_4 : decode c_S_judge 4 = .ok (.istore_n 2, 1) := by decide +kernel
theorem d_S_judge_5 : decode c_S_judge 5 = .ok (.aload_n 0, 1) := by decide +kernel
theorem d_S_judge_6 : decode c_S_judge 6 = .ok (.aload_n 0, 1) := by decide +kernel
theorem d_S_judge_7 : decode c_S_judge 7 = .ok (.getfield 29, 3) := by decide +kernel
theorem d_S_judge_10 : decode c_S_judge 10 = .ok (.iload_n 2, 1) := by decide +kernel
theorem d_S_judge_11 : decode c_S_judge 11 = .ok (.invokestatic 89, 3) := by decide +kernel
theorem d_S_judge_14 : decode c_S_judge 14 = .ok (.putfield 29, 3) := by decide +kernel
theorem d_S_judge_17 : decode c_S_judge 17 = .ok (.iload_n 2, 1) := by decide +kernel
theorem d_S_judge_18 : decode c_S_judge 18 = .ok (.iconst 4, 1) := by decide +kernel
theorem d_S_judge_19 : decode c_S_judge 19 = .ok (.if_icmp .ge 4, 3) := by decide +kernel
theorem d_S_judge_22 : decode c_S_judge 22 = .ok (.return_, 1) := by decide +kernel
theorem d_S_judge_23 : decode c_S_judge 23 = .ok (.aload_n 0, 1) := by decide +kernel
theorem d_S_judge_24 : decode c_S_judge 24 = .ok (.iconst 1, 1) := by decide +kernel
theorem d_S_judge_25 : decode c_S_judge 25 = .ok (.putfield 25, 3) := by decide +kernel
theorem d_S_judge_28 : decode c_S_judge 28 = .ok (.aload_n 0, 1) := by decide +kernel
theorem d_S_judge_29 : decode c_S_judge 29 = .ok (.aload_n 1, 1) := by decide +kernel
theorem d_S_judge_30 : decode c_S_judge 30 = .ok (.getfield 73, 3) := by decide +kernel
theorem d_S_judge_33 : decode c_S_judge 33 = .ok (.putfield 76, 3) := by decide +kernel
theorem d_S_judge_36 : decode c_S_judge 36 = .ok (.aload_n 0, 1) := by decide +kernel
theorem d_S_judge_37 : decode c_S_judge 37 = .ok (.aload_n 1, 1) := by decide +kernel
theorem d_S_judge_38 : decode c_S_judge 38 = .ok (.getfield 79, 3) := by decide +kernel
theorem d_S_judge_41 : decode c_S_judge 41 = .ok (.putfield 82, 3) := by decide +kernel
theorem d_S_judge_44 : decode c_S_judge 44 = .ok (.aload_n 0, 1) := by decide +kernel
theorem d_S_judge_45 : decode c_S_judge 45 = .ok (.getfield 15, 3) := by decide +kernel
theorem d_S_judge_48 : decode c_S_judge 48 = .ok (.iconst 0, 1) := by decide +kernel
theorem d_S_judge_49 : decode c_S_judge 49 = .ok (.aload_n 0, 1) := by decide +kernel
theorem d_S_judge_50 : decode c_S_judge 50 = .ok (.getfield 9, 3) := by decide +kernel
theorem d_S_judge_53 : decode c_S_judge 53 = .ok (.iconst 0, 1) := by decide +kernel
theorem d_S_judge_54 : decode c_S_judge 54 = .ok (.aload_n 0, 1) := by decide +kernel
theorem d_S_judge_55 : decode c_S_judge 55 = .ok (.getfield 9, 3) := by decide +kernel
theorem d_S_judge_58 : decode c_S_judge 58 = .ok (.arraylength, 1) := by decide +kernel
theorem d_S_judge_59 : decode c_S_judge 59 = .ok (.invokestatic 95, 3) := by decide +kernel
theorem d_S_judge_62 : decode c_S_judge 62 = .ok (.return_, 1) := by decide +kernel
