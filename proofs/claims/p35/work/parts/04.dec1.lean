theorem dX0_init_0 : decode cX0_init 0 = .ok (.aload_n 0, 1) := by decide +kernel
theorem dX0_init_1 : decode cX0_init 1 = .ok (.invokespecial 3, 3) := by decide +kernel
theorem dX0_init_4 : decode cX0_init 4 = .ok (.aload_n 0, 1) := by decide +kernel
theorem dX0_init_5 : decode cX0_init 5 = .ok (.bipush 6, 2) := by decide +kernel
theorem dX0_init_7 : decode cX0_init 7 = .ok (.newarray .int, 2) := by decide +kernel
theorem dX0_init_9 : decode cX0_init 9 = .ok (.putfield 9, 3) := by decide +kernel
theorem dX0_init_12 : decode cX0_init 12 = .ok (.aload_n 0, 1) := by decide +kernel
theorem dX0_init_13 : decode cX0_init 13 = .ok (.bipush 6, 2) := by decide +kernel
theorem dX0_init_15 : decode cX0_init 15 = .ok (.newarray .int, 2) := by decide +kernel
theorem dX0_init_17 : decode cX0_init 17 = .ok (.putfield 15, 3) := by decide +kernel
theorem dX0_init_20 : decode cX0_init 20 = .ok (.return_, 1) := by decide +kernel
theorem dX0_has_0 : decode cX0_has 0 = .ok (.iload_n 1, 1) := by decide +kernel
theorem dX0_has_1 : decode cX0_has 1 = .ok (.ifCond .lt 24, 3) := by decide +kernel
theorem dX0_has_4 : decode cX0_has 4 = .ok (.iload_n 1, 1) := by decide +kernel
theorem dX0_has_5 : decode cX0_has 5 = .ok (.bipush 6, 2) := by decide +kernel
theorem dX0_has_7 : decode cX0_has 7 = .ok (.if_icmp .ge 18, 3) := by decide +kernel
theorem dX0_has_10 : decode cX0_has 10 = .ok (.aload_n 0, 1) := by decide +kernel
theorem dX0_has_11 : decode cX0_has 11 = .ok (.getfield 18, 3) := by decide +kernel
theorem dX0_has_14 : decode cX0_has 14 = .ok (.iload_n 1, 1) := by decide +kernel
theorem dX0_has_15 : decode cX0_has 15 = .ok (.invokestatic 22, 3) := by decide +kernel
theorem dX0_has_18 : decode cX0_has 18 = .ok (.ifCond .eq 7, 3) := by decide +kernel
theorem dX0_has_21 : decode cX0_has 21 = .ok (.iconst 1, 1) := by decide +kernel
theorem dX0_has_22 : decode cX0_has 22 = .ok (.goto 4, 3) := by decide +kernel
theorem dX0_has_25 : decode cX0_has 25 = .ok (.iconst 0, 1) := by decide +kernel
theorem dX0_has_26 : decode cX0_has 26 = .ok (.ireturn, 1) := by decide +kernel
theorem dX0_optionOf_0 : decode cX0_optionOf 0 = .ok (.aload_n 0, 1) := by decide +kernel
theorem dX0_optionOf_1 : decode cX0_optionOf 1 = .ok (.iload_n 1, 1) := by decide +kernel
theorem dX0_optionOf_2 : decode cX0_optionOf 2 = .ok (.invokevirtual 26, 3) := by decide +kernel
theorem dX0_optionOf_5 : decode cX0_optionOf 5 = .ok (.ifCond .eq 12, 3) := by decide +kernel
theorem dX0_optionOf_8 : decode cX0_optionOf 8 = .ok (.aload_n 0, 1) := by decide +kernel
theorem dX0_optionOf_9 : decode cX0_optionOf 9 = .ok (.getfield 15, 3) := by decide +kernel
theorem dX0_optionOf_12 : decode cX0_optionOf 12 = .ok (.iload_n 1, 1) := by decide +kernel
theorem dX0_optionOf_13 : decode cX0_optionOf 13 = .ok (.iaload, 1) := by decide +kernel
theorem dX0_optionOf_14 : decode cX0_optionOf 14 = .ok (.goto 4, 3) := by decide +kernel
theorem dX0_optionOf_17 : decode cX0_optionOf 17 = .ok (.iconst (-1), 1) := by decide +kernel
theorem dX0_optionOf_18 : decode cX0_optionOf 18 = .ok (.ireturn, 1) := by decide +kernel
theorem dX0_add_0 : decode cX0_add 0 = .ok (.aload_n 0, 1) := by decide +kernel
theorem dX0_add_1 : decode cX0_add 1 = .ok (.getfield 30, 3) := by decide +kernel
theorem dX0_add_4 : decode cX0_add 4 = .ok (.bipush 6, 2) := by decide +kernel
theorem dX0_add_6 : decode cX0_add 6 = .ok (.if_icmp .ge 11, 3) := by decide +kernel
theorem dX0_add_9 : decode cX0_add 9 = .ok (.aload_n 0, 1) := by decide +kernel
theorem dX0_add_10 : decode cX0_add 10 = .ok (.iload_n 1, 1) := by decide +kernel
theorem dX0_add_11 : decode cX0_add 11 = .ok (.invokevirtual 26, 3) := by decide +kernel
theorem dX0_add_14 : decode cX0_add 14 = .ok (.ifCond .eq 4, 3) := by decide +kernel
theorem dX0_add_17 : decode cX0_add 17 = .ok (.return_, 1) := by decide +kernel
theorem dX0_add_18 : decode cX0_add 18 = .ok (.aload_n 0, 1) := by decide +kernel
theorem dX0_add_19 : decode cX0_add 19 = .ok (.getfield 9, 3) := by decide +kernel
theorem dX0_add_22 : decode cX0_add 22 = .ok (.aload_n 0, 1) := by decide +kernel
theorem dX0_add_23 : decode cX0_add 23 = .ok (.getfield 30, 3) := by decide +kernel
theorem dX0_add_26 : decode cX0_add 26 = .ok (.iload_n 1, 1) := by decide +kernel
theorem dX0_add_27 : decode cX0_add 27 = .ok (.iastore, 1) := by decide +kernel
theorem dX0_add_28 : decode cX0_add 28 = .ok (.aload_n 0, 1) := by decide +kernel
theorem dX0_add_29 : decode cX0_add 29 = .ok (.getfield 15, 3) := by decide +kernel
theorem dX0_add_32 : decode cX0_add 32 = .ok (.iload_n 1, 1) := by decide +kernel
theorem dX0_add_33 : decode cX0_add 33 = .ok (.iload_n 2, 1) := by decide +kernel
theorem dX0_add_34 : decode cX0_add 34 = .ok (.iastore, 1) := by decide +kernel
theorem dX0_add_35 : decode cX0_add 35 = .ok (.aload_n 0, 1) := by decide +kernel
theorem dX0_add_36 : decode cX0_add 36 = .ok (.dup, 1) := by decide +kernel
theorem dX0_add_37 : decode cX0_add 37 = .ok (.getfield 18, 3) := by decide +kernel
theorem dX0_add_40 : decode cX0_add 40 = .ok (.iconst 1, 1) := by decide +kernel
theorem dX0_add_41 : decode cX0_add 41 = .ok (.iload_n 1, 1) := by decide +kernel
theorem dX0_add_42 : decode cX0_add 42 = .ok (.ishl, 1) := by decide +kernel
theorem dX0_add_43 : decode cX0_add 43 = .ok (.ior, 1) := by decide +kernel
theorem dX0_add_44 : decode cX0_add 44 = .ok (.putfield 18, 3) := by decide +kernel
theorem dX0_add_47 : decode cX0_add 47 = .ok (.aload_n 0, 1) := by decide +kernel
theorem dX0_add_48 : decode cX0_add 48 = .ok (.dup, 1) := by decide +kernel
theorem dX0_add_49 : decode cX0_add 49 = .ok (.getfield 30, 3) := by decide +kernel
theorem dX0_add_52 : decode cX0_add 52 = .ok (.iconst 1, 1) := by decide +kernel
theorem dX0_add_53 : decode cX0_add 53 = .ok (.iadd, 1) := by decide +kernel
theorem dX0_add_54 : decode cX0_add 54 = .ok (.putfield 30, 3) := by decide +kernel
theorem dX0_add_57 : decode cX0_add 57 = .ok (.return_, 1) := by decide +kernel
theorem dX0_remove_0 : decode cX0_remove 0 = .ok (.aload_n 0, 1) := by decide +kernel
theorem dX0_remove_1 : decode cX0_remove 1 = .ok (.iload_n 1, 1) := by decide +kernel
theorem dX0_remove_2 : decode cX0_remove 2 = .ok (.invokevirtual 26, 3) := by decide +kernel
theorem dX0_remove_5 : decode cX0_remove 5 = .ok (.ifCond .ne 4, 3) := by decide +kernel
theorem dX0_remove_8 : decode cX0_remove 8 = .ok (.return_, 1) := by decide +kernel
theorem dX0_remove_9 : decode cX0_remove 9 = .ok (.iconst 0, 1) := by decide +kernel
theorem dX0_remove_10 : decode cX0_remove 10 = .ok (.istore_n 2, 1) := by decide +kernel
theorem dX0_remove_11 : decode cX0_remove 11 = .ok (.iconst 0, 1) := by decide +kernel
theorem dX0_remove_12 : decode cX0_remove 12 = .ok (.istore_n 3, 1) := by decide +kernel
theorem dX0_remove_13 : decode cX0_remove 13 = .ok (.iload_n 3, 1) := by decide +kernel
theorem dX0_remove_14 : decode cX0_remove 14 = .ok (.aload_n 0, 1) := by decide +kernel
theorem dX0_remove_15 : decode cX0_remove 15 = .ok (.getfield 30, 3) := by decide +kernel
theorem dX0_remove_18 : decode cX0_remove 18 = .ok (.if_icmp .ge 34, 3) := by decide +kernel
theorem dX0_remove_21 : decode cX0_remove 21 = .ok (.aload_n 0, 1) := by decide +kernel
theorem dX0_remove_22 : decode cX0_remove 22 = .ok (.getfield 9, 3) := by decide +kernel
theorem dX0_remove_25 : decode cX0_remove 25 = .ok (.iload_n 3, 1) := by decide +kernel
theorem dX0_remove_26 : decode cX0_remove 26 = .ok (.iaload, 1) := by decide +kernel
theorem dX0_remove_27 : decode cX0_remove 27 = .ok (.iload_n 1, 1) := by decide +kernel
theorem dX0_remove_28 : decode cX0_remove 28 = .ok (.if_icmp .eq 18, 3) := by decide +kernel
theorem dX0_remove_31 : decode cX0_remove 31 = .ok (.aload_n 0, 1) := by decide +kernel
theorem dX0_remove_32 : decode cX0_remove 32 = .ok (.getfield 9, 3) := by decide +kernel
theorem dX0_remove_35 : decode cX0_remove 35 = .ok (.iload_n 2, 1) := by decide +kernel
theorem dX0_remove_36 : decode cX0_remove 36 = .ok (.aload_n 0, 1) := by decide +kernel
theorem dX0_remove_37 : decode cX0_remove 37 = .ok (.getfield 9, 3) := by decide +kernel
theorem dX0_remove_40 : decode cX0_remove 40 = .ok (.iload_n 3, 1) := by decide +kernel
theorem dX0_remove_41 : decode cX0_remove 41 = .ok (.iaload, 1) := by decide +kernel
theorem dX0_remove_42 : decode cX0_remove 42 = .ok (.iastore, 1) := by decide +kernel
theorem dX0_remove_43 : decode cX0_remove 43 = .ok (.iinc 2 1, 3) := by decide +kernel
theorem dX0_remove_46 : decode cX0_remove 46 = .ok (.iinc 3 1, 3) := by decide +kernel
theorem dX0_remove_49 : decode cX0_remove 49 = .ok (.goto (-36), 3) := by decide +kernel
theorem dX0_remove_52 : decode cX0_remove 52 = .ok (.aload_n 0, 1) := by decide +kernel
theorem dX0_remove_53 : decode cX0_remove 53 = .ok (.iload_n 2, 1) := by decide +kernel
theorem dX0_remove_54 : decode cX0_remove 54 = .ok (.putfield 30, 3) := by decide +kernel
theorem dX0_remove_57 : decode cX0_remove 57 = .ok (.aload_n 0, 1) := by decide +kernel
theorem dX0_remove_58 : decode cX0_remove 58 = .ok (.dup, 1) := by decide +kernel
theorem dX0_remove_59 : decode cX0_remove 59 = .ok (.getfield 18, 3) := by decide +kernel
theorem dX0_remove_62 : decode cX0_remove 62 = .ok (.iconst 1, 1) := by decide +kernel
theorem dX0_remove_63 : decode cX0_remove 63 = .ok (.iload_n 1, 1) := by decide +kernel
theorem dX0_remove_64 : decode cX0_remove 64 = .ok (.ishl, 1) := by decide +kernel
theorem dX0_remove_65 : decode cX0_remove 65 = .ok (.iconst (-1), 1) := by decide +kernel
theorem dX0_remove_66 : decode cX0_remove 66 = .ok (.ixor, 1) := by decide +kernel
theorem dX0_remove_67 : decode cX0_remove 67 = .ok (.iand, 1) := by decide +kernel
theorem dX0_remove_68 : decode cX0_remove 68 = .ok (.putfield 18, 3) := by decide +kernel
theorem dX0_remove_71 : decode cX0_remove 71 = .ok (.return_, 1) := by decide +kernel
theorem dX0_clear_0 : decode cX0_clear 0 = .ok (.aload_n 0, 1) := by decide +kernel
theorem dX0_clear_1 : decode cX0_clear 1 = .ok (.iconst 0, 1) := by decide +kernel
theorem dX0_clear_2 : decode cX0_clear 2 = .ok (.putfield 30, 3) := by decide +kernel
theorem dX0_clear_5 : decode cX0_clear 5 = .ok (.aload_n 0, 1) := by decide +kernel
theorem dX0_clear_6 : decode cX0_clear 6 = .ok (.iconst 0, 1) := by decide +kernel
theorem dX0_clear_7 : decode cX0_clear 7 = .ok (.putfield 18, 3) := by decide +kernel
theorem dX0_clear_10 : decode cX0_clear 10 = .ok (.return_, 1) := by decide +kernel
theorem dX0_latestOf_0 : decode cX0_latestOf 0 = .ok (.aload_n 0, 1) := by decide +kernel
theorem dX0_latestOf_1 : decode cX0_latestOf 1 = .ok (.getfield 30, 3) := by decide +kernel
theorem dX0_latestOf_4 : decode cX0_latestOf 4 = .ok (.iconst 1, 1) := by decide +kernel
theorem dX0_latestOf_5 : decode cX0_latestOf 5 = .ok (.isub, 1) := by decide +kernel
theorem dX0_latestOf_6 : decode cX0_latestOf 6 = .ok (.istore_n 2, 1) := by decide +kernel
theorem dX0_latestOf_7 : decode cX0_latestOf 7 = .ok (.iload_n 2, 1) := by decide +kernel
theorem dX0_latestOf_8 : decode cX0_latestOf 8 = .ok (.ifCond .lt 29, 3) := by decide +kernel
theorem dX0_latestOf_11 : decode cX0_latestOf 11 = .ok (.iload_n 1, 1) := by decide +kernel
theorem dX0_latestOf_12 : decode cX0_latestOf 12 = .ok (.aload_n 0, 1) := by decide +kernel
theorem dX0_latestOf_13 : decode cX0_latestOf 13 = .ok (.getfield 9, 3) := by decide +kernel
theorem dX0_latestOf_16 : decode cX0_latestOf 16 = .ok (.iload_n 2, 1) := by decide +kernel
theorem dX0_latestOf_17 : decode cX0_latestOf 17 = .ok (.iaload, 1) := by decide +kernel
theorem dX0_latestOf_18 : decode cX0_latestOf 18 = .ok (.invokestatic 22, 3) := by decide +kernel
theorem dX0_latestOf_21 : decode cX0_latestOf 21 = .ok (.ifCond .eq 10, 3) := by decide +kernel
theorem dX0_latestOf_24 : decode cX0_latestOf 24 = .ok (.aload_n 0, 1) := by decide +kernel
theorem dX0_latestOf_25 : decode cX0_latestOf 25 = .ok (.getfield 9, 3) := by decide +kernel
theorem dX0_latestOf_28 : decode cX0_latestOf 28 = .ok (.iload_n 2, 1) := by decide +kernel
theorem dX0_latestOf_29 : decode cX0_latestOf 29 = .ok (.iaload, 1) := by decide +kernel
theorem dX0_latestOf_30 : decode cX0_latestOf 30 = .ok (.ireturn, 1) := by decide +kernel
theorem dX0_latestOf_31 : decode cX0_latestOf 31 = .ok (.iinc 2 (-1), 3) := by decide +kernel
theorem dX0_latestOf_34 : decode cX0_latestOf 34 = .ok (.goto (-27), 3) := by decide +kernel
theorem dX0_latestOf_37 : decode cX0_latestOf 37 = .ok (.iconst (-1), 1) := by decide +kernel
theorem dX0_latestOf_38 : decode cX0_latestOf 38 = .ok (.ireturn, 1) := by decide +kernel
theorem dX0_narrow_0 : decode cX0_narrow 0 = .ok (.iload_n 1, 1) := by decide +kernel
theorem dX0_narrow_1 : decode cX0_narrow 1 = .ok (.istore_n 3, 1) := by decide +kernel
theorem dX0_narrow_2 : decode cX0_narrow 2 = .ok (.iconst 0, 1) := by decide +kernel
theorem dX0_narrow_3 : decode cX0_narrow 3 = .ok (.istore 4, 2) := by decide +kernel
theorem dX0_narrow_5 : decode cX0_narrow 5 = .ok (.iload 4, 2) := by decide +kernel
theorem dX0_narrow_7 : decode cX0_narrow 7 = .ok (.aload_n 0, 1) := by decide +kernel
theorem dX0_narrow_8 : decode cX0_narrow 8 = .ok (.getfield 30, 3) := by decide +kernel
theorem dX0_narrow_11 : decode cX0_narrow 11 = .ok (.if_icmp .ge 47, 3) := by decide +kernel
theorem dX0_narrow_14 : decode cX0_narrow 14 = .ok (.iload_n 2, 1) := by decide +kernel
theorem dX0_narrow_15 : decode cX0_narrow 15 = .ok (.aload_n 0, 1) := by decide +kernel
theorem dX0_narrow_16 : decode cX0_narrow 16 = .ok (.getfield 9, 3) := by decide +kernel
theorem dX0_narrow_19 : decode cX0_narrow 19 = .ok (.iload 4, 2) := by decide +kernel
theorem dX0_narrow_21 : decode cX0_narrow 21 = .ok (.iaload, 1) := by decide +kernel
theorem dX0_narrow_22 : decode cX0_narrow 22 = .ok (.invokestatic 22, 3) := by decide +kernel
theorem dX0_narrow_25 : decode cX0_narrow 25 = .ok (.ifCond .eq 27, 3) := by decide +kernel
theorem dX0_narrow_28 : decode cX0_narrow 28 = .ok (.iload_n 3, 1) := by decide +kernel
theorem dX0_narrow_29 : decode cX0_narrow 29 = .ok (.aload_n 0, 1) := by decide +kernel
theorem dX0_narrow_30 : decode cX0_narrow 30 = .ok (.getfield 9, 3) := by decide +kernel
theorem dX0_narrow_33 : decode cX0_narrow 33 = .ok (.iload 4, 2) := by decide +kernel
theorem dX0_narrow_35 : decode cX0_narrow 35 = .ok (.iaload, 1) := by decide +kernel
theorem dX0_narrow_36 : decode cX0_narrow 36 = .ok (.aload_n 0, 1) := by decide +kernel
theorem dX0_narrow_37 : decode cX0_narrow 37 = .ok (.getfield 15, 3) := by decide +kernel
theorem dX0_narrow_40 : decode cX0_narrow 40 = .ok (.aload_n 0, 1) := by decide +kernel
theorem dX0_narrow_41 : decode cX0_narrow 41 = .ok (.getfield 9, 3) := by decide +kernel
theorem dX0_narrow_44 : decode cX0_narrow 44 = .ok (.iload 4, 2) := by decide +kernel
theorem dX0_narrow_46 : decode cX0_narrow 46 = .ok (.iaload, 1) := by decide +kernel
theorem dX0_narrow_47 : decode cX0_narrow 47 = .ok (.iaload, 1) := by decide +kernel
theorem dX0_narrow_48 : decode cX0_narrow 48 = .ok (.invokestatic 33, 3) := by decide +kernel
theorem dX0_narrow_51 : decode cX0_narrow 51 = .ok (.istore_n 3, 1) := by decide +kernel
theorem dX0_narrow_52 : decode cX0_narrow 52 = .ok (.iinc 4 1, 3) := by decide +kernel
theorem dX0_narrow_55 : decode cX0_narrow 55 = .ok (.goto (-50), 3) := by decide +kernel
theorem dX0_narrow_58 : decode cX0_narrow 58 = .ok (.iload_n 3, 1) := by decide +kernel
theorem dX0_narrow_59 : decode cX0_narrow 59 = .ok (.ireturn, 1) := by decide +kernel
theorem dX1_init_0 : decode cX1_init 0 = .ok (.aload_n 0, 1) := by decide +kernel
theorem dX1_init_1 : decode cX1_init 1 = .ok (.invokespecial 3, 3) := by decide +kernel
theorem dX1_init_4 : decode cX1_init 4 = .ok (.aload_n 0, 1) := by decide +kernel
theorem dX1_init_5 : decode cX1_init 5 = .ok (.bipush 12, 2) := by decide +kernel
theorem dX1_init_7 : decode cX1_init 7 = .ok (.newarray .int, 2) := by decide +kernel
theorem dX1_init_9 : decode cX1_init 9 = .ok (.putfield 9, 3) := by decide +kernel
theorem dX1_init_12 : decode cX1_init 12 = .ok (.return_, 1) := by decide +kernel
theorem dX1_add_0 : decode cX1_add 0 = .ok (.aload_n 0, 1) := by decide +kernel
theorem dX1_add_1 : decode cX1_add 1 = .ok (.getfield 15, 3) := by decide +kernel
theorem dX1_add_4 : decode cX1_add 4 = .ok (.bipush 12, 2) := by decide +kernel
theorem dX1_add_6 : decode cX1_add 6 = .ok (.if_icmp .lt 5, 3) := by decide +kernel
theorem dX1_add_9 : decode cX1_add 9 = .ok (.iconst 0, 1) := by decide +kernel
theorem dX1_add_10 : decode cX1_add 10 = .ok (.ireturn, 1) := by decide +kernel
theorem dX1_add_11 : decode cX1_add 11 = .ok (.aload_n 0, 1) := by decide +kernel
theorem dX1_add_12 : decode cX1_add 12 = .ok (.getfield 9, 3) := by decide +kernel
theorem dX1_add_15 : decode cX1_add 15 = .ok (.aload_n 0, 1) := by decide +kernel
theorem dX1_add_16 : decode cX1_add 16 = .ok (.getfield 15, 3) := by decide +kernel
theorem dX1_add_19 : decode cX1_add 19 = .ok (.iload_n 1, 1) := by decide +kernel
theorem dX1_add_20 : decode cX1_add 20 = .ok (.iastore, 1) := by decide +kernel
theorem dX1_add_21 : decode cX1_add 21 = .ok (.aload_n 0, 1) := by decide +kernel
theorem dX1_add_22 : decode cX1_add 22 = .ok (.dup, 1) := by decide +kernel
theorem dX1_add_23 : decode cX1_add 23 = .ok (.getfield 15, 3) := by decide +kernel
theorem dX1_add_26 : decode cX1_add 26 = .ok (.iconst 1, 1) := by decide +kernel
theorem dX1_add_27 : decode cX1_add 27 = .ok (.iadd, 1) := by decide +kernel
theorem dX1_add_28 : decode cX1_add 28 = .ok (.putfield 15, 3) := by decide +kernel
theorem dX1_add_31 : decode cX1_add 31 = .ok (.iconst 1, 1) := by decide +kernel
theorem dX1_add_32 : decode cX1_add 32 = .ok (.ireturn, 1) := by decide +kernel
theorem dX2_init_0 : decode cX2_init 0 = .ok (.aload_n 0, 1) := by decide +kernel
theorem dX2_init_1 : decode cX2_init 1 = .ok (.invokespecial 3, 3) := by decide +kernel
theorem dX2_init_4 : decode cX2_init 4 = .ok (.aload_n 0, 1) := by decide +kernel
theorem dX2_init_5 : decode cX2_init 5 = .ok (.sipush 625, 3) := by decide +kernel
theorem dX2_init_8 : decode cX2_init 8 = .ok (.newarray .int, 2) := by decide +kernel
theorem dX2_init_10 : decode cX2_init 10 = .ok (.putfield 11, 3) := by decide +kernel
theorem dX2_init_13 : decode cX2_init 13 = .ok (.aload_n 0, 1) := by decide +kernel
theorem dX2_init_14 : decode cX2_init 14 = .ok (.sipush 625, 3) := by decide +kernel
theorem dX2_init_17 : decode cX2_init 17 = .ok (.newarray .int, 2) := by decide +kernel
theorem dX2_init_19 : decode cX2_init 19 = .ok (.putfield 15, 3) := by decide +kernel
theorem dX2_init_22 : decode cX2_init 22 = .ok (.aload_n 0, 1) := by decide +kernel
theorem dX2_init_23 : decode cX2_init 23 = .ok (.sipush 625, 3) := by decide +kernel
theorem dX2_init_26 : decode cX2_init 26 = .ok (.newarray .int, 2) := by decide +kernel
theorem dX2_init_28 : decode cX2_init 28 = .ok (.putfield 18, 3) := by decide +kernel
theorem dX2_init_31 : decode cX2_init 31 = .ok (.aload_n 0, 1) := by decide +kernel
theorem dX2_init_32 : decode cX2_init 32 = .ok (.sipush 625, 3) := by decide +kernel
theorem dX2_init_35 : decode cX2_init 35 = .ok (.newarray .int, 2) := by decide +kernel
theorem dX2_init_37 : decode cX2_init 37 = .ok (.putfield 21, 3) := by decide +kernel
theorem dX2_init_40 : decode cX2_init 40 = .ok (.return_, 1) := by decide +kernel
theorem dX2_draw_0 : decode cX2_draw 0 = .ok (.aload_n 0, 1) := by decide +kernel
theorem dX2_draw_1 : decode cX2_draw 1 = .ok (.getfield 11, 3) := by decide +kernel
theorem dX2_draw_4 : decode cX2_draw 4 = .ok (.iconst 0, 1) := by decide +kernel
theorem dX2_draw_5 : decode cX2_draw 5 = .ok (.iload_n 3, 1) := by decide +kernel
theorem dX2_draw_6 : decode cX2_draw 6 = .ok (.iastore, 1) := by decide +kernel
theorem dX2_draw_7 : decode cX2_draw 7 = .ok (.aload_n 0, 1) := by decide +kernel
theorem dX2_draw_8 : decode cX2_draw 8 = .ok (.getfield 15, 3) := by decide +kernel
theorem dX2_draw_11 : decode cX2_draw 11 = .ok (.iconst 0, 1) := by decide +kernel
theorem dX2_draw_12 : decode cX2_draw 12 = .ok (.iconst 1, 1) := by decide +kernel
theorem dX2_draw_13 : decode cX2_draw 13 = .ok (.iastore, 1) := by decide +kernel
theorem dX2_draw_14 : decode cX2_draw 14 = .ok (.aload_n 0, 1) := by decide +kernel
theorem dX2_draw_15 : decode cX2_draw 15 = .ok (.iconst 1, 1) := by decide +kernel
theorem dX2_draw_16 : decode cX2_draw 16 = .ok (.putfield 24, 3) := by decide +kernel
theorem dX2_draw_19 : decode cX2_draw 19 = .ok (.aload_n 0, 1) := by decide +kernel
theorem dX2_draw_20 : decode cX2_draw 20 = .ok (.iconst 1, 1) := by decide +kernel
theorem dX2_draw_21 : decode cX2_draw 21 = .ok (.putfield 28, 3) := by decide +kernel
theorem dX2_draw_24 : decode cX2_draw 24 = .ok (.iconst 0, 1) := by decide +kernel
theorem dX2_draw_25 : decode cX2_draw 25 = .ok (.istore 4, 2) := by decide +kernel
theorem dX2_draw_27 : decode cX2_draw 27 = .ok (.iload 4, 2) := by decide +kernel
theorem dX2_draw_29 : decode cX2_draw 29 = .ok (.iload_n 2, 1) := by decide +kernel
theorem dX2_draw_30 : decode cX2_draw 30 = .ok (.if_icmp .ge 59, 3) := by decide +kernel
theorem dX2_draw_33 : decode cX2_draw 33 = .ok (.aload_n 0, 1) := by decide +kernel
theorem dX2_draw_34 : decode cX2_draw 34 = .ok (.iconst 0, 1) := by decide +kernel
theorem dX2_draw_35 : decode cX2_draw 35 = .ok (.putfield 31, 3) := by decide +kernel
theorem dX2_draw_38 : decode cX2_draw 38 = .ok (.iconst 0, 1) := by decide +kernel
theorem dX2_draw_39 : decode cX2_draw 39 = .ok (.istore 5, 2) := by decide +kernel
theorem dX2_draw_41 : decode cX2_draw 41 = .ok (.iload 5, 2) := by decide +kernel
theorem dX2_draw_43 : decode cX2_draw 43 = .ok (.aload_n 0, 1) := by decide +kernel
theorem dX2_draw_44 : decode cX2_draw 44 = .ok (.getfield 24, 3) := by decide +kernel
theorem dX2_draw_47 : decode cX2_draw 47 = .ok (.if_icmp .ge 19, 3) := by decide +kernel
theorem dX2_draw_50 : decode cX2_draw 50 = .ok (.aload_n 0, 1) := by decide +kernel
theorem dX2_draw_51 : decode cX2_draw 51 = .ok (.aload_n 1, 1) := by decide +kernel
theorem dX2_draw_52 : decode cX2_draw 52 = .ok (.iload_n 2, 1) := by decide +kernel
theorem dX2_draw_53 : decode cX2_draw 53 = .ok (.iload 4, 2) := by decide +kernel
theorem dX2_draw_55 : decode cX2_draw 55 = .ok (.iload 5, 2) := by decide +kernel
theorem dX2_draw_57 : decode cX2_draw 57 = .ok (.invokevirtual 34, 3) := by decide +kernel
theorem dX2_draw_60 : decode cX2_draw 60 = .ok (.iinc 5 1, 3) := by decide +kernel
theorem dX2_draw_63 : decode cX2_draw 63 = .ok (.goto (-22), 3) := by decide +kernel
theorem dX2_draw_66 : decode cX2_draw 66 = .ok (.aload_n 0, 1) := by decide +kernel
theorem dX2_draw_67 : decode cX2_draw 67 = .ok (.invokevirtual 38, 3) := by decide +kernel
theorem dX2_draw_70 : decode cX2_draw 70 = .ok (.aload_n 0, 1) := by decide +kernel
theorem dX2_draw_71 : decode cX2_draw 71 = .ok (.dup, 1) := by decide +kernel
theorem dX2_draw_72 : decode cX2_draw 72 = .ok (.getfield 28, 3) := by decide +kernel
theorem dX2_draw_75 : decode cX2_draw 75 = .ok (.aload_n 0, 1) := by decide +kernel
theorem dX2_draw_76 : decode cX2_draw 76 = .ok (.getfield 24, 3) := by decide +kernel
theorem dX2_draw_79 : decode cX2_draw 79 = .ok (.iadd, 1) := by decide +kernel
theorem dX2_draw_80 : decode cX2_draw 80 = .ok (.putfield 28, 3) := by decide +kernel
theorem dX2_draw_83 : decode cX2_draw 83 = .ok (.iinc 4 1, 3) := by decide +kernel
theorem dX2_draw_86 : decode cX2_draw 86 = .ok (.goto (-59), 3) := by decide +kernel
theorem dX2_draw_89 : decode cX2_draw 89 = .ok (.return_, 1) := by decide +kernel
theorem dX2_waysToLastLevel_0 : decode cX2_waysToLastLevel 0 = .ok (.aload_n 0, 1) := by decide +kernel
theorem dX2_waysToLastLevel_1 : decode cX2_waysToLastLevel 1 = .ok (.getfield 24, 3) := by decide +kernel
theorem dX2_waysToLastLevel_4 : decode cX2_waysToLastLevel 4 = .ok (.ifCond .ne 7, 3) := by decide +kernel
theorem dX2_waysToLastLevel_7 : decode cX2_waysToLastLevel 7 = .ok (.iconst 0, 1) := by decide +kernel
theorem dX2_waysToLastLevel_8 : decode cX2_waysToLastLevel 8 = .ok (.goto 9, 3) := by decide +kernel
theorem dX2_waysToLastLevel_11 : decode cX2_waysToLastLevel 11 = .ok (.aload_n 0, 1) := by decide +kernel
theorem dX2_waysToLastLevel_12 : decode cX2_waysToLastLevel 12 = .ok (.getfield 15, 3) := by decide +kernel
theorem dX2_waysToLastLevel_15 : decode cX2_waysToLastLevel 15 = .ok (.iconst 0, 1) := by decide +kernel
theorem dX2_waysToLastLevel_16 : decode cX2_waysToLastLevel 16 = .ok (.iaload, 1) := by decide +kernel
theorem dX2_waysToLastLevel_17 : decode cX2_waysToLastLevel 17 = .ok (.ireturn, 1) := by decide +kernel
theorem dX2_leadOn_0 : decode cX2_leadOn 0 = .ok (.iconst (-1), 1) := by decide +kernel
theorem dX2_leadOn_1 : decode cX2_leadOn 1 = .ok (.iload_n 3, 1) := by decide +kernel
theorem dX2_leadOn_2 : decode cX2_leadOn 2 = .ok (.iconst 1, 1) := by decide +kernel
theorem dX2_leadOn_3 : decode cX2_leadOn 3 = .ok (.iadd, 1) := by decide +kernel
theorem dX2_leadOn_4 : decode cX2_leadOn 4 = .ok (.iconst 5, 1) := by decide +kernel
theorem dX2_leadOn_5 : decode cX2_leadOn 5 = .ok (.imul, 1) := by decide +kernel
theorem dX2_leadOn_6 : decode cX2_leadOn 6 = .ok (.ishl, 1) := by decide +kernel
theorem dX2_leadOn_7 : decode cX2_leadOn 7 = .ok (.istore 5, 2) := by decide +kernel
theorem dX2_leadOn_9 : decode cX2_leadOn 9 = .ok (.iconst 0, 1) := by decide +kernel
theorem dX2_leadOn_10 : decode cX2_leadOn 10 = .ok (.istore 6, 2) := by decide +kernel
theorem dX2_leadOn_12 : decode cX2_leadOn 12 = .ok (.iload 6, 2) := by decide +kernel
theorem dX2_leadOn_14 : decode cX2_leadOn 14 = .ok (.iconst 5, 1) := by decide +kernel
theorem dX2_leadOn_15 : decode cX2_leadOn 15 = .ok (.if_icmp .ge 77, 3) := by decide +kernel
theorem dX2_leadOn_18 : decode cX2_leadOn 18 = .ok (.iload_n 3, 1) := by decide +kernel
theorem dX2_leadOn_19 : decode cX2_leadOn 19 = .ok (.iload 6, 2) := by decide +kernel
theorem dX2_leadOn_21 : decode cX2_leadOn 21 = .ok (.invokestatic 41, 3) := by decide +kernel
theorem dX2_leadOn_24 : decode cX2_leadOn 24 = .ok (.istore 7, 2) := by decide +kernel
theorem dX2_leadOn_26 : decode cX2_leadOn 26 = .ok (.aload_n 0, 1) := by decide +kernel
theorem dX2_leadOn_27 : decode cX2_leadOn 27 = .ok (.getfield 11, 3) := by decide +kernel
theorem dX2_leadOn_30 : decode cX2_leadOn 30 = .ok (.iload 4, 2) := by decide +kernel
theorem dX2_leadOn_32 : decode cX2_leadOn 32 = .ok (.iaload, 1) := by decide +kernel
theorem dX2_leadOn_33 : decode cX2_leadOn 33 = .ok (.iload 7, 2) := by decide +kernel
theorem dX2_leadOn_35 : decode cX2_leadOn 35 = .ok (.invokestatic 45, 3) := by decide +kernel
theorem dX2_leadOn_38 : decode cX2_leadOn 38 = .ok (.ifCond .eq 48, 3) := by decide +kernel
theorem dX2_leadOn_41 : decode cX2_leadOn 41 = .ok (.aload_n 0, 1) := by decide +kernel
theorem dX2_leadOn_42 : decode cX2_leadOn 42 = .ok (.getfield 11, 3) := by decide +kernel
theorem dX2_leadOn_45 : decode cX2_leadOn 45 = .ok (.iload 4, 2) := by decide +kernel
theorem dX2_leadOn_47 : decode cX2_leadOn 47 = .ok (.iaload, 1) := by decide +kernel
theorem dX2_leadOn_48 : decode cX2_leadOn 48 = .ok (.aload_n 1, 1) := by decide +kernel
theorem dX2_leadOn_49 : decode cX2_leadOn 49 = .ok (.getfield 49, 3) := by decide +kernel
theorem dX2_leadOn_52 : decode cX2_leadOn 52 = .ok (.iload 7, 2) := by decide +kernel
theorem dX2_leadOn_54 : decode cX2_leadOn 54 = .ok (.iaload, 1) := by decide +kernel
theorem dX2_leadOn_55 : decode cX2_leadOn 55 = .ok (.iand, 1) := by decide +kernel
theorem dX2_leadOn_56 : decode cX2_leadOn 56 = .ok (.iload 5, 2) := by decide +kernel
theorem dX2_leadOn_58 : decode cX2_leadOn 58 = .ok (.iand, 1) := by decide +kernel
theorem dX2_leadOn_59 : decode cX2_leadOn 59 = .ok (.istore 8, 2) := by decide +kernel
theorem dX2_leadOn_61 : decode cX2_leadOn 61 = .ok (.iload_n 3, 1) := by decide +kernel
theorem dX2_leadOn_62 : decode cX2_leadOn 62 = .ok (.iconst 1, 1) := by decide +kernel
theorem dX2_leadOn_63 : decode cX2_leadOn 63 = .ok (.iadd, 1) := by decide +kernel
theorem dX2_leadOn_64 : decode cX2_leadOn 64 = .ok (.iload_n 2, 1) := by decide +kernel
theorem dX2_leadOn_65 : decode cX2_leadOn 65 = .ok (.iload 8, 2) := by decide +kernel
theorem dX2_leadOn_67 : decode cX2_leadOn 67 = .ok (.invokestatic 54, 3) := by decide +kernel
theorem dX2_leadOn_70 : decode cX2_leadOn 70 = .ok (.ifCond .eq 16, 3) := by decide +kernel
theorem dX2_leadOn_73 : decode cX2_leadOn 73 = .ok (.aload_n 0, 1) := by decide +kernel
theorem dX2_leadOn_74 : decode cX2_leadOn 74 = .ok (.iload 8, 2) := by decide +kernel
theorem dX2_leadOn_76 : decode cX2_leadOn 76 = .ok (.aload_n 0, 1) := by decide +kernel
theorem dX2_leadOn_77 : decode cX2_leadOn 77 = .ok (.getfield 15, 3) := by decide +kernel
theorem dX2_leadOn_80 : decode cX2_leadOn 80 = .ok (.iload 4, 2) := by decide +kernel
theorem dX2_leadOn_82 : decode cX2_leadOn 82 = .ok (.iaload, 1) := by decide +kernel
theorem dX2_leadOn_83 : decode cX2_leadOn 83 = .ok (.invokevirtual 58, 3) := by decide +kernel
theorem dX2_leadOn_86 : decode cX2_leadOn 86 = .ok (.iinc 6 1, 3) := by decide +kernel
theorem dX2_leadOn_89 : decode cX2_leadOn 89 = .ok (.goto (-77), 3) := by decide +kernel
theorem dX2_leadOn_92 : decode cX2_leadOn 92 = .ok (.return_, 1) := by decide +kernel
theorem dX2_enter_0 : decode cX2_enter 0 = .ok (.iconst 0, 1) := by decide +kernel
theorem dX2_enter_1 : decode cX2_enter 1 = .ok (.istore_n 3, 1) := by decide +kernel
theorem dX2_enter_2 : decode cX2_enter 2 = .ok (.iload_n 3, 1) := by decide +kernel
theorem dX2_enter_3 : decode cX2_enter 3 = .ok (.aload_n 0, 1) := by decide +kernel
theorem dX2_enter_4 : decode cX2_enter 4 = .ok (.getfield 31, 3) := by decide +kernel
theorem dX2_enter_7 : decode cX2_enter 7 = .ok (.if_icmp .ge 30, 3) := by decide +kernel
theorem dX2_enter_10 : decode cX2_enter 10 = .ok (.aload_n 0, 1) := by decide +kernel
theorem dX2_enter_11 : decode cX2_enter 11 = .ok (.getfield 18, 3) := by decide +kernel
theorem dX2_enter_14 : decode cX2_enter 14 = .ok (.iload_n 3, 1) := by decide +kernel
theorem dX2_enter_15 : decode cX2_enter 15 = .ok (.iaload, 1) := by decide +kernel
theorem dX2_enter_16 : decode cX2_enter 16 = .ok (.iload_n 1, 1) := by decide +kernel
theorem dX2_enter_17 : decode cX2_enter 17 = .ok (.if_icmp .ne 14, 3) := by decide +kernel
theorem dX2_enter_20 : decode cX2_enter 20 = .ok (.aload_n 0, 1) := by decide +kernel
theorem dX2_enter_21 : decode cX2_enter 21 = .ok (.getfield 21, 3) := by decide +kernel
theorem dX2_enter_24 : decode cX2_enter 24 = .ok (.iload_n 3, 1) := by decide +kernel
theorem dX2_enter_25 : decode cX2_enter 25 = .ok (.dup2, 1) := by decide +kernel
theorem dX2_enter_26 : decode cX2_enter 26 = .ok (.iaload, 1) := by decide +kernel
theorem dX2_enter_27 : decode cX2_enter 27 = .ok (.iload_n 2, 1) := by decide +kernel
theorem dX2_enter_28 : decode cX2_enter 28 = .ok (.iadd, 1) := by decide +kernel
theorem dX2_enter_29 : decode cX2_enter 29 = .ok (.iastore, 1) := by decide +kernel
theorem dX2_enter_30 : decode cX2_enter 30 = .ok (.return_, 1) := by decide +kernel
theorem dX2_enter_31 : decode cX2_enter 31 = .ok (.iinc 3 1, 3) := by decide +kernel
theorem dX2_enter_34 : decode cX2_enter 34 = .ok (.goto (-32), 3) := by decide +kernel
theorem dX2_enter_37 : decode cX2_enter 37 = .ok (.aload_n 0, 1) := by decide +kernel
theorem dX2_enter_38 : decode cX2_enter 38 = .ok (.getfield 31, 3) := by decide +kernel
theorem dX2_enter_41 : decode cX2_enter 41 = .ok (.sipush 625, 3) := by decide +kernel
theorem dX2_enter_44 : decode cX2_enter 44 = .ok (.if_icmp .ge 33, 3) := by decide +kernel
theorem dX2_enter_47 : decode cX2_enter 47 = .ok (.aload_n 0, 1) := by decide +kernel
theorem dX2_enter_48 : decode cX2_enter 48 = .ok (.getfield 18, 3) := by decide +kernel
theorem dX2_enter_51 : decode cX2_enter 51 = .ok (.aload_n 0, 1) := by decide +kernel
theorem dX2_enter_52 : decode cX2_enter 52 = .ok (.getfield 31, 3) := by decide +kernel
theorem dX2_enter_55 : decode cX2_enter 55 = .ok (.iload_n 1, 1) := by decide +kernel
theorem dX2_enter_56 : decode cX2_enter 56 = .ok (.iastore, 1) := by decide +kernel
theorem dX2_enter_57 : decode cX2_enter 57 = .ok (.aload_n 0, 1) := by decide +kernel
theorem dX2_enter_58 : decode cX2_enter 58 = .ok (.getfield 21, 3) := by decide +kernel
theorem dX2_enter_61 : decode cX2_enter 61 = .ok (.aload_n 0, 1) := by decide +kernel
theorem dX2_enter_62 : decode cX2_enter 62 = .ok (.getfield 31, 3) := by decide +kernel
theorem dX2_enter_65 : decode cX2_enter 65 = .ok (.iload_n 2, 1) := by decide +kernel
theorem dX2_enter_66 : decode cX2_enter 66 = .ok (.iastore, 1) := by decide +kernel
theorem dX2_enter_67 : decode cX2_enter 67 = .ok (.aload_n 0, 1) := by decide +kernel
theorem dX2_enter_68 : decode cX2_enter 68 = .ok (.dup, 1) := by decide +kernel
theorem dX2_enter_69 : decode cX2_enter 69 = .ok (.getfield 31, 3) := by decide +kernel
theorem dX2_enter_72 : decode cX2_enter 72 = .ok (.iconst 1, 1) := by decide +kernel
theorem dX2_enter_73 : decode cX2_enter 73 = .ok (.iadd, 1) := by decide +kernel
theorem dX2_enter_74 : decode cX2_enter 74 = .ok (.putfield 31, 3) := by decide +kernel
theorem dX2_enter_77 : decode cX2_enter 77 = .ok (.return_, 1) := by decide +kernel
theorem dX2_goToNextLevel_0 : decode cX2_goToNextLevel 0 = .ok (.aload_n 0, 1) := by decide +kernel
theorem dX2_goToNextLevel_1 : decode cX2_goToNextLevel 1 = .ok (.getfield 11, 3) := by decide +kernel
theorem dX2_goToNextLevel_4 : decode cX2_goToNextLevel 4 = .ok (.astore_n 1, 1) := by decide +kernel
theorem dX2_goToNextLevel_5 : decode cX2_goToNextLevel 5 = .ok (.aload_n 0, 1) := by decide +kernel
theorem dX2_goToNextLevel_6 : decode cX2_goToNextLevel 6 = .ok (.getfield 15, 3) := by decide +kernel
theorem dX2_goToNextLevel_9 : decode cX2_goToNextLevel 9 = .ok (.astore_n 2, 1) := by decide +kernel
theorem dX2_goToNextLevel_10 : decode cX2_goToNextLevel 10 = .ok (.aload_n 0, 1) := by decide +kernel
theorem dX2_goToNextLevel_11 : decode cX2_goToNextLevel 11 = .ok (.aload_n 0, 1) := by decide +kernel
theorem dX2_goToNextLevel_12 : decode cX2_goToNextLevel 12 = .ok (.getfield 18, 3) := by decide +kernel
theorem dX2_goToNextLevel_15 : decode cX2_goToNextLevel 15 = .ok (.putfield 11, 3) := by decide +kernel
theorem dX2_goToNextLevel_18 : decode cX2_goToNextLevel 18 = .ok (.aload_n 0, 1) := by decide +kernel
theorem dX2_goToNextLevel_19 : decode cX2_goToNextLevel 19 = .ok (.aload_n 0, 1) := by decide +kernel
theorem dX2_goToNextLevel_20 : decode cX2_goToNextLevel 20 = .ok (.getfield 21, 3) := by decide +kernel
theorem dX2_goToNextLevel_23 : decode cX2_goToNextLevel 23 = .ok (.putfield 15, 3) := by decide +kernel
theorem dX2_goToNextLevel_26 : decode cX2_goToNextLevel 26 = .ok (.aload_n 0, 1) := by decide +kernel
theorem dX2_goToNextLevel_27 : decode cX2_goToNextLevel 27 = .ok (.aload_n 0, 1) := by decide +kernel
theorem dX2_goToNextLevel_28 : decode cX2_goToNextLevel 28 = .ok (.getfield 31, 3) := by decide +kernel
theorem dX2_goToNextLevel_31 : decode cX2_goToNextLevel 31 = .ok (.putfield 24, 3) := by decide +kernel
theorem dX2_goToNextLevel_34 : decode cX2_goToNextLevel 34 = .ok (.aload_n 0, 1) := by decide +kernel
theorem dX2_goToNextLevel_35 : decode cX2_goToNextLevel 35 = .ok (.aload_n 1, 1) := by decide +kernel
theorem dX2_goToNextLevel_36 : decode cX2_goToNextLevel 36 = .ok (.putfield 18, 3) := by decide +kernel
theorem dX2_goToNextLevel_39 : decode cX2_goToNextLevel 39 = .ok (.aload_n 0, 1) := by decide +kernel
theorem dX2_goToNextLevel_40 : decode cX2_goToNextLevel 40 = .ok (.aload_n 2, 1) := by decide +kernel
theorem dX2_goToNextLevel_41 : decode cX2_goToNextLevel 41 = .ok (.putfield 21, 3) := by decide +kernel
theorem dX2_goToNextLevel_44 : decode cX2_goToNextLevel 44 = .ok (.return_, 1) := by decide +kernel
theorem dX3_init_0 : decode cX3_init 0 = .ok (.aload_n 0, 1) := by decide +kernel
theorem dX3_init_1 : decode cX3_init 1 = .ok (.invokespecial 1, 3) := by decide +kernel
theorem dX3_init_4 : decode cX3_init 4 = .ok (.aload_n 0, 1) := by decide +kernel
theorem dX3_init_5 : decode cX3_init 5 = .ok (.new 7, 3) := by decide +kernel
theorem dX3_init_8 : decode cX3_init 8 = .ok (.dup, 1) := by decide +kernel
theorem dX3_init_9 : decode cX3_init 9 = .ok (.invokespecial 9, 3) := by decide +kernel
theorem dX3_init_12 : decode cX3_init 12 = .ok (.putfield 10, 3) := by decide +kernel
theorem dX3_init_15 : decode cX3_init 15 = .ok (.return_, 1) := by decide +kernel
theorem dX3_find_0 : decode cX3_find 0 = .ok (.aload_n 0, 1) := by decide +kernel
theorem dX3_find_1 : decode cX3_find 1 = .ok (.aload_n 1, 1) := by decide +kernel
theorem dX3_find_2 : decode cX3_find 2 = .ok (.getfield 16, 3) := by decide +kernel
theorem dX3_find_5 : decode cX3_find 5 = .ok (.putfield 22, 3) := by decide +kernel
theorem dX3_find_8 : decode cX3_find 8 = .ok (.aload_n 0, 1) := by decide +kernel
theorem dX3_find_9 : decode cX3_find 9 = .ok (.aload_n 2, 1) := by decide +kernel
theorem dX3_find_10 : decode cX3_find 10 = .ok (.getfield 25, 3) := by decide +kernel
theorem dX3_find_13 : decode cX3_find 13 = .ok (.iconst 1, 1) := by decide +kernel
theorem dX3_find_14 : decode cX3_find 14 = .ok (.iload 5, 2) := by decide +kernel
theorem dX3_find_16 : decode cX3_find 16 = .ok (.ishl, 1) := by decide +kernel
theorem dX3_find_17 : decode cX3_find 17 = .ok (.iconst (-1), 1) := by decide +kernel
theorem dX3_find_18 : decode cX3_find 18 = .ok (.ixor, 1) := by decide +kernel
theorem dX3_find_19 : decode cX3_find 19 = .ok (.iand, 1) := by decide +kernel
theorem dX3_find_20 : decode cX3_find 20 = .ok (.putfield 30, 3) := by decide +kernel
theorem dX3_find_23 : decode cX3_find 23 = .ok (.aload_n 0, 1) := by decide +kernel
theorem dX3_find_24 : decode cX3_find 24 = .ok (.getfield 10, 3) := by decide +kernel
theorem dX3_find_27 : decode cX3_find 27 = .ok (.aload_n 1, 1) := by decide +kernel
theorem dX3_find_28 : decode cX3_find 28 = .ok (.aload_n 0, 1) := by decide +kernel
theorem dX3_find_29 : decode cX3_find 29 = .ok (.getfield 22, 3) := by decide +kernel
theorem dX3_find_32 : decode cX3_find 32 = .ok (.invokevirtual 33, 3) := by decide +kernel
theorem dX3_find_35 : decode cX3_find 35 = .ok (.aload_n 0, 1) := by decide +kernel
theorem dX3_find_36 : decode cX3_find 36 = .ok (.getfield 10, 3) := by decide +kernel
theorem dX3_find_39 : decode cX3_find 39 = .ok (.aload_n 2, 1) := by decide +kernel
theorem dX3_find_40 : decode cX3_find 40 = .ok (.iload 4, 2) := by decide +kernel
theorem dX3_find_42 : decode cX3_find 42 = .ok (.aload_n 0, 1) := by decide +kernel
theorem dX3_find_43 : decode cX3_find 43 = .ok (.getfield 30, 3) := by decide +kernel
theorem dX3_find_46 : decode cX3_find 46 = .ok (.invokevirtual 37, 3) := by decide +kernel
theorem dX3_find_49 : decode cX3_find 49 = .ok (.iload_n 3, 1) := by decide +kernel
theorem dX3_find_50 : decode cX3_find 50 = .ok (.invokevirtual 41, 3) := by decide +kernel
theorem dX3_find_53 : decode cX3_find 53 = .ok (.ifCond .eq 5, 3) := by decide +kernel
theorem dX3_find_56 : decode cX3_find 56 = .ok (.iconst 0, 1) := by decide +kernel
theorem dX3_find_57 : decode cX3_find 57 = .ok (.ireturn, 1) := by decide +kernel
theorem dX3_find_58 : decode cX3_find 58 = .ok (.aload_n 0, 1) := by decide +kernel
theorem dX3_find_59 : decode cX3_find 59 = .ok (.aload_n 1, 1) := by decide +kernel
theorem dX3_find_60 : decode cX3_find 60 = .ok (.iload_n 3, 1) := by decide +kernel
theorem dX3_find_61 : decode cX3_find 61 = .ok (.aload_n 2, 1) := by decide +kernel
theorem dX3_find_62 : decode cX3_find 62 = .ok (.iload 4, 2) := by decide +kernel
theorem dX3_find_64 : decode cX3_find 64 = .ok (.aload_n 0, 1) := by decide +kernel
theorem dX3_find_65 : decode cX3_find 65 = .ok (.getfield 30, 3) := by decide +kernel
theorem dX3_find_68 : decode cX3_find 68 = .ok (.invokevirtual 37, 3) := by decide +kernel
theorem dX3_find_71 : decode cX3_find 71 = .ok (.invokevirtual 45, 3) := by decide +kernel
theorem dX3_find_74 : decode cX3_find 74 = .ok (.aload_n 0, 1) := by decide +kernel
theorem dX3_find_75 : decode cX3_find 75 = .ok (.aload_n 2, 1) := by decide +kernel
theorem dX3_find_76 : decode cX3_find 76 = .ok (.iload_n 3, 1) := by decide +kernel
theorem dX3_find_77 : decode cX3_find 77 = .ok (.iload 4, 2) := by decide +kernel
theorem dX3_find_79 : decode cX3_find 79 = .ok (.invokevirtual 49, 3) := by decide +kernel
theorem dX3_find_82 : decode cX3_find 82 = .ok (.iconst 1, 1) := by decide +kernel
theorem dX3_find_83 : decode cX3_find 83 = .ok (.ireturn, 1) := by decide +kernel
theorem dX3_leaveOutRules_0 : decode cX3_leaveOutRules 0 = .ok (.aload_n 1, 1) := by decide +kernel
theorem dX3_leaveOutRules_1 : decode cX3_leaveOutRules 1 = .ok (.getfield 53, 3) := by decide +kernel
theorem dX3_leaveOutRules_4 : decode cX3_leaveOutRules 4 = .ok (.iconst 1, 1) := by decide +kernel
theorem dX3_leaveOutRules_5 : decode cX3_leaveOutRules 5 = .ok (.isub, 1) := by decide +kernel
theorem dX3_leaveOutRules_6 : decode cX3_leaveOutRules 6 = .ok (.istore 4, 2) := by decide +kernel
theorem dX3_leaveOutRules_8 : decode cX3_leaveOutRules 8 = .ok (.iload 4, 2) := by decide +kernel
theorem dX3_leaveOutRules_10 : decode cX3_leaveOutRules 10 = .ok (.ifCond .lt 69, 3) := by decide +kernel
theorem dX3_leaveOutRules_13 : decode cX3_leaveOutRules 13 = .ok (.aload_n 0, 1) := by decide +kernel
theorem dX3_leaveOutRules_14 : decode cX3_leaveOutRules 14 = .ok (.getfield 22, 3) := by decide +kernel
theorem dX3_leaveOutRules_17 : decode cX3_leaveOutRules 17 = .ok (.iload 4, 2) := by decide +kernel
theorem dX3_leaveOutRules_19 : decode cX3_leaveOutRules 19 = .ok (.invokestatic 56, 3) := by decide +kernel
theorem dX3_leaveOutRules_22 : decode cX3_leaveOutRules 22 = .ok (.ifCond .eq 51, 3) := by decide +kernel
theorem dX3_leaveOutRules_25 : decode cX3_leaveOutRules 25 = .ok (.aload_n 0, 1) := by decide +kernel
theorem dX3_leaveOutRules_26 : decode cX3_leaveOutRules 26 = .ok (.getfield 22, 3) := by decide +kernel
theorem dX3_leaveOutRules_29 : decode cX3_leaveOutRules 29 = .ok (.iconst 1, 1) := by decide +kernel
theorem dX3_leaveOutRules_30 : decode cX3_leaveOutRules 30 = .ok (.iload 4, 2) := by decide +kernel
theorem dX3_leaveOutRules_32 : decode cX3_leaveOutRules 32 = .ok (.ishl, 1) := by decide +kernel
theorem dX3_leaveOutRules_33 : decode cX3_leaveOutRules 33 = .ok (.iconst (-1), 1) := by decide +kernel
theorem dX3_leaveOutRules_34 : decode cX3_leaveOutRules 34 = .ok (.ixor, 1) := by decide +kernel
theorem dX3_leaveOutRules_35 : decode cX3_leaveOutRules 35 = .ok (.iand, 1) := by decide +kernel
theorem dX3_leaveOutRules_36 : decode cX3_leaveOutRules 36 = .ok (.istore 5, 2) := by decide +kernel
theorem dX3_leaveOutRules_38 : decode cX3_leaveOutRules 38 = .ok (.aload_n 0, 1) := by decide +kernel
theorem dX3_leaveOutRules_39 : decode cX3_leaveOutRules 39 = .ok (.getfield 10, 3) := by decide +kernel
theorem dX3_leaveOutRules_42 : decode cX3_leaveOutRules 42 = .ok (.aload_n 1, 1) := by decide +kernel
theorem dX3_leaveOutRules_43 : decode cX3_leaveOutRules 43 = .ok (.iload 5, 2) := by decide +kernel
theorem dX3_leaveOutRules_45 : decode cX3_leaveOutRules 45 = .ok (.invokevirtual 33, 3) := by decide +kernel
theorem dX3_leaveOutRules_48 : decode cX3_leaveOutRules 48 = .ok (.aload_n 0, 1) := by decide +kernel
theorem dX3_leaveOutRules_49 : decode cX3_leaveOutRules 49 = .ok (.aload_n 0, 1) := by decide +kernel
theorem dX3_leaveOutRules_50 : decode cX3_leaveOutRules 50 = .ok (.getfield 10, 3) := by decide +kernel
theorem dX3_leaveOutRules_53 : decode cX3_leaveOutRules 53 = .ok (.iload_n 3, 1) := by decide +kernel
theorem dX3_leaveOutRules_54 : decode cX3_leaveOutRules 54 = .ok (.iload_n 2, 1) := by decide +kernel
theorem dX3_leaveOutRules_55 : decode cX3_leaveOutRules 55 = .ok (.invokevirtual 41, 3) := by decide +kernel
theorem dX3_leaveOutRules_58 : decode cX3_leaveOutRules 58 = .ok (.ifCond .eq 10, 3) := by decide +kernel
theorem dX3_leaveOutRules_61 : decode cX3_leaveOutRules 61 = .ok (.aload_n 0, 1) := by decide +kernel
theorem dX3_leaveOutRules_62 : decode cX3_leaveOutRules 62 = .ok (.getfield 22, 3) := by decide +kernel
theorem dX3_leaveOutRules_65 : decode cX3_leaveOutRules 65 = .ok (.goto 5, 3) := by decide +kernel
theorem dX3_leaveOutRules_68 : decode cX3_leaveOutRules 68 = .ok (.iload 5, 2) := by decide +kernel
theorem dX3_leaveOutRules_70 : decode cX3_leaveOutRules 70 = .ok (.putfield 22, 3) := by decide +kernel
theorem dX3_leaveOutRules_73 : decode cX3_leaveOutRules 73 = .ok (.iinc 4 (-1), 3) := by decide +kernel
theorem dX3_leaveOutRules_76 : decode cX3_leaveOutRules 76 = .ok (.goto (-68), 3) := by decide +kernel
theorem dX3_leaveOutRules_79 : decode cX3_leaveOutRules 79 = .ok (.aload_n 0, 1) := by decide +kernel
theorem dX3_leaveOutRules_80 : decode cX3_leaveOutRules 80 = .ok (.getfield 10, 3) := by decide +kernel
theorem dX3_leaveOutRules_83 : decode cX3_leaveOutRules 83 = .ok (.aload_n 1, 1) := by decide +kernel
theorem dX3_leaveOutRules_84 : decode cX3_leaveOutRules 84 = .ok (.aload_n 0, 1) := by decide +kernel
theorem dX3_leaveOutRules_85 : decode cX3_leaveOutRules 85 = .ok (.getfield 22, 3) := by decide +kernel
theorem dX3_leaveOutRules_88 : decode cX3_leaveOutRules 88 = .ok (.invokevirtual 33, 3) := by decide +kernel
theorem dX3_leaveOutRules_91 : decode cX3_leaveOutRules 91 = .ok (.return_, 1) := by decide +kernel
theorem dX3_leaveOutChoices_0 : decode cX3_leaveOutChoices 0 = .ok (.aload_n 1, 1) := by decide +kernel
theorem dX3_leaveOutChoices_1 : decode cX3_leaveOutChoices 1 = .ok (.getfield 61, 3) := by decide +kernel
theorem dX3_leaveOutChoices_4 : decode cX3_leaveOutChoices 4 = .ok (.iconst 1, 1) := by decide +kernel
theorem dX3_leaveOutChoices_5 : decode cX3_leaveOutChoices 5 = .ok (.isub, 1) := by decide +kernel
theorem dX3_leaveOutChoices_6 : decode cX3_leaveOutChoices 6 = .ok (.istore 4, 2) := by decide +kernel
theorem dX3_leaveOutChoices_8 : decode cX3_leaveOutChoices 8 = .ok (.iload 4, 2) := by decide +kernel
theorem dX3_leaveOutChoices_10 : decode cX3_leaveOutChoices 10 = .ok (.ifCond .lt 62, 3) := by decide +kernel
theorem dX3_leaveOutChoices_13 : decode cX3_leaveOutChoices 13 = .ok (.aload_n 0, 1) := by decide +kernel
theorem dX3_leaveOutChoices_14 : decode cX3_leaveOutChoices 14 = .ok (.getfield 30, 3) := by decide +kernel
theorem dX3_leaveOutChoices_17 : decode cX3_leaveOutChoices 17 = .ok (.iconst 1, 1) := by decide +kernel
theorem dX3_leaveOutChoices_18 : decode cX3_leaveOutChoices 18 = .ok (.aload_n 1, 1) := by decide +kernel
theorem dX3_leaveOutChoices_19 : decode cX3_leaveOutChoices 19 = .ok (.getfield 62, 3) := by decide +kernel
theorem dX3_leaveOutChoices_22 : decode cX3_leaveOutChoices 22 = .ok (.iload 4, 2) := by decide +kernel
theorem dX3_leaveOutChoices_24 : decode cX3_leaveOutChoices 24 = .ok (.iaload, 1) := by decide +kernel
theorem dX3_leaveOutChoices_25 : decode cX3_leaveOutChoices 25 = .ok (.ishl, 1) := by decide +kernel
theorem dX3_leaveOutChoices_26 : decode cX3_leaveOutChoices 26 = .ok (.iconst (-1), 1) := by decide +kernel
theorem dX3_leaveOutChoices_27 : decode cX3_leaveOutChoices 27 = .ok (.ixor, 1) := by decide +kernel
theorem dX3_leaveOutChoices_28 : decode cX3_leaveOutChoices 28 = .ok (.iand, 1) := by decide +kernel
theorem dX3_leaveOutChoices_29 : decode cX3_leaveOutChoices 29 = .ok (.istore 5, 2) := by decide +kernel
theorem dX3_leaveOutChoices_31 : decode cX3_leaveOutChoices 31 = .ok (.aload_n 1, 1) := by decide +kernel
theorem dX3_leaveOutChoices_32 : decode cX3_leaveOutChoices 32 = .ok (.iload_n 3, 1) := by decide +kernel
theorem dX3_leaveOutChoices_33 : decode cX3_leaveOutChoices 33 = .ok (.iload 5, 2) := by decide +kernel
theorem dX3_leaveOutChoices_35 : decode cX3_leaveOutChoices 35 = .ok (.invokevirtual 37, 3) := by decide +kernel
theorem dX3_leaveOutChoices_38 : decode cX3_leaveOutChoices 38 = .ok (.istore 6, 2) := by decide +kernel
theorem dX3_leaveOutChoices_40 : decode cX3_leaveOutChoices 40 = .ok (.aload_n 0, 1) := by decide +kernel
theorem dX3_leaveOutChoices_41 : decode cX3_leaveOutChoices 41 = .ok (.aload_n 0, 1) := by decide +kernel
theorem dX3_leaveOutChoices_42 : decode cX3_leaveOutChoices 42 = .ok (.getfield 10, 3) := by decide +kernel
theorem dX3_leaveOutChoices_45 : decode cX3_leaveOutChoices 45 = .ok (.iload 6, 2) := by decide +kernel
theorem dX3_leaveOutChoices_47 : decode cX3_leaveOutChoices 47 = .ok (.iload_n 2, 1) := by decide +kernel
theorem dX3_leaveOutChoices_48 : decode cX3_leaveOutChoices 48 = .ok (.invokevirtual 41, 3) := by decide +kernel
theorem dX3_leaveOutChoices_51 : decode cX3_leaveOutChoices 51 = .ok (.ifCond .eq 10, 3) := by decide +kernel
theorem dX3_leaveOutChoices_54 : decode cX3_leaveOutChoices 54 = .ok (.aload_n 0, 1) := by decide +kernel
theorem dX3_leaveOutChoices_55 : decode cX3_leaveOutChoices 55 = .ok (.getfield 30, 3) := by decide +kernel
theorem dX3_leaveOutChoices_58 : decode cX3_leaveOutChoices 58 = .ok (.goto 5, 3) := by decide +kernel
theorem dX3_leaveOutChoices_61 : decode cX3_leaveOutChoices 61 = .ok (.iload 5, 2) := by decide +kernel
theorem dX3_leaveOutChoices_63 : decode cX3_leaveOutChoices 63 = .ok (.putfield 30, 3) := by decide +kernel
theorem dX3_leaveOutChoices_66 : decode cX3_leaveOutChoices 66 = .ok (.iinc 4 (-1), 3) := by decide +kernel
theorem dX3_leaveOutChoices_69 : decode cX3_leaveOutChoices 69 = .ok (.goto (-61), 3) := by decide +kernel
theorem dX3_leaveOutChoices_72 : decode cX3_leaveOutChoices 72 = .ok (.return_, 1) := by decide +kernel
theorem dX4_init_0 : decode cX4_init 0 = .ok (.aload_n 0, 1) := by decide +kernel
theorem dX4_init_1 : decode cX4_init 1 = .ok (.invokespecial 3, 3) := by decide +kernel
theorem dX4_init_4 : decode cX4_init 4 = .ok (.aload_n 0, 1) := by decide +kernel
theorem dX4_init_5 : decode cX4_init 5 = .ok (.bipush 6, 2) := by decide +kernel
theorem dX4_init_7 : decode cX4_init 7 = .ok (.newarray .int, 2) := by decide +kernel
theorem dX4_init_9 : decode cX4_init 9 = .ok (.putfield 9, 3) := by decide +kernel
theorem dX4_init_12 : decode cX4_init 12 = .ok (.return_, 1) := by decide +kernel
theorem dX4_add_0 : decode cX4_add 0 = .ok (.aload_n 0, 1) := by decide +kernel
theorem dX4_add_1 : decode cX4_add 1 = .ok (.getfield 15, 3) := by decide +kernel
theorem dX4_add_4 : decode cX4_add 4 = .ok (.bipush 6, 2) := by decide +kernel
theorem dX4_add_6 : decode cX4_add 6 = .ok (.if_icmp .lt 5, 3) := by decide +kernel
theorem dX4_add_9 : decode cX4_add 9 = .ok (.iconst 0, 1) := by decide +kernel
theorem dX4_add_10 : decode cX4_add 10 = .ok (.ireturn, 1) := by decide +kernel
theorem dX4_add_11 : decode cX4_add 11 = .ok (.aload_n 0, 1) := by decide +kernel
theorem dX4_add_12 : decode cX4_add 12 = .ok (.getfield 9, 3) := by decide +kernel
theorem dX4_add_15 : decode cX4_add 15 = .ok (.aload_n 0, 1) := by decide +kernel
theorem dX4_add_16 : decode cX4_add 16 = .ok (.getfield 15, 3) := by decide +kernel
theorem dX4_add_19 : decode cX4_add 19 = .ok (.iload_n 1, 1) := by decide +kernel
theorem dX4_add_20 : decode cX4_add 20 = .ok (.iastore, 1) := by decide +kernel
theorem dX4_add_21 : decode cX4_add 21 = .ok (.aload_n 0, 1) := by decide +kernel
theorem dX4_add_22 : decode cX4_add 22 = .ok (.dup, 1) := by decide +kernel
theorem dX4_add_23 : decode cX4_add 23 = .ok (.getfield 19, 3) := by decide +kernel
theorem dX4_add_26 : decode cX4_add 26 = .ok (.iconst 1, 1) := by decide +kernel
theorem dX4_add_27 : decode cX4_add 27 = .ok (.iload_n 1, 1) := by decide +kernel
theorem dX4_add_28 : decode cX4_add 28 = .ok (.ishl, 1) := by decide +kernel
theorem dX4_add_29 : decode cX4_add 29 = .ok (.iconst 1, 1) := by decide +kernel
theorem dX4_add_30 : decode cX4_add 30 = .ok (.isub, 1) := by decide +kernel
theorem dX4_add_31 : decode cX4_add 31 = .ok (.aload_n 0, 1) := by decide +kernel
theorem dX4_add_32 : decode cX4_add 32 = .ok (.getfield 15, 3) := by decide +kernel
theorem dX4_add_35 : decode cX4_add 35 = .ok (.iconst 5, 1) := by decide +kernel
theorem dX4_add_36 : decode cX4_add 36 = .ok (.imul, 1) := by decide +kernel
theorem dX4_add_37 : decode cX4_add 37 = .ok (.ishl, 1) := by decide +kernel
theorem dX4_add_38 : decode cX4_add 38 = .ok (.ior, 1) := by decide +kernel
theorem dX4_add_39 : decode cX4_add 39 = .ok (.putfield 19, 3) := by decide +kernel
theorem dX4_add_42 : decode cX4_add 42 = .ok (.aload_n 0, 1) := by decide +kernel
theorem dX4_add_43 : decode cX4_add 43 = .ok (.dup, 1) := by decide +kernel
theorem dX4_add_44 : decode cX4_add 44 = .ok (.getfield 15, 3) := by decide +kernel
theorem dX4_add_47 : decode cX4_add 47 = .ok (.iconst 1, 1) := by decide +kernel
theorem dX4_add_48 : decode cX4_add 48 = .ok (.iadd, 1) := by decide +kernel
theorem dX4_add_49 : decode cX4_add 49 = .ok (.putfield 15, 3) := by decide +kernel
theorem dX4_add_52 : decode cX4_add 52 = .ok (.iconst 1, 1) := by decide +kernel
theorem dX4_add_53 : decode cX4_add 53 = .ok (.ireturn, 1) := by decide +kernel
theorem dX4_has_0 : decode cX4_has 0 = .ok (.iload_n 1, 1) := by decide +kernel
theorem dX4_has_1 : decode cX4_has 1 = .ok (.ifCond .lt 15, 3) := by decide +kernel
theorem dX4_has_4 : decode cX4_has 4 = .ok (.iload_n 1, 1) := by decide +kernel
theorem dX4_has_5 : decode cX4_has 5 = .ok (.aload_n 0, 1) := by decide +kernel
theorem dX4_has_6 : decode cX4_has 6 = .ok (.getfield 15, 3) := by decide +kernel
theorem dX4_has_9 : decode cX4_has 9 = .ok (.if_icmp .ge 7, 3) := by decide +kernel
theorem dX4_has_12 : decode cX4_has 12 = .ok (.iconst 1, 1) := by decide +kernel
theorem dX4_has_13 : decode cX4_has 13 = .ok (.goto 4, 3) := by decide +kernel
theorem dX4_has_16 : decode cX4_has 16 = .ok (.iconst 0, 1) := by decide +kernel
theorem dX4_has_17 : decode cX4_has 17 = .ok (.ireturn, 1) := by decide +kernel
theorem dX5_init_0 : decode cX5_init 0 = .ok (.aload_n 0, 1) := by decide +kernel
theorem dX5_init_1 : decode cX5_init 1 = .ok (.invokespecial 3, 3) := by decide +kernel
theorem dX5_init_4 : decode cX5_init 4 = .ok (.aload_n 0, 1) := by decide +kernel
theorem dX5_init_5 : decode cX5_init 5 = .ok (.bipush 30, 2) := by decide +kernel
theorem dX5_init_7 : decode cX5_init 7 = .ok (.newarray .int, 2) := by decide +kernel
theorem dX5_init_9 : decode cX5_init 9 = .ok (.putfield 9, 3) := by decide +kernel
theorem dX5_init_12 : decode cX5_init 12 = .ok (.aload_n 0, 1) := by decide +kernel
theorem dX5_init_13 : decode cX5_init 13 = .ok (.invokevirtual 15, 3) := by decide +kernel
theorem dX5_init_16 : decode cX5_init 16 = .ok (.return_, 1) := by decide +kernel
theorem dX5_forget_0 : decode cX5_forget 0 = .ok (.ldc 18, 2) := by decide +kernel
theorem dX5_forget_2 : decode cX5_forget 2 = .ok (.istore_n 1, 1) := by decide +kernel
theorem dX5_forget_3 : decode cX5_forget 3 = .ok (.iconst 0, 1) := by decide +kernel
theorem dX5_forget_4 : decode cX5_forget 4 = .ok (.istore_n 2, 1) := by decide +kernel
theorem dX5_forget_5 : decode cX5_forget 5 = .ok (.iload_n 2, 1) := by decide +kernel
theorem dX5_forget_6 : decode cX5_forget 6 = .ok (.bipush 30, 2) := by decide +kernel
theorem dX5_forget_8 : decode cX5_forget 8 = .ok (.if_icmp .ge 25, 3) := by decide +kernel
theorem dX5_forget_11 : decode cX5_forget 11 = .ok (.aload_n 0, 1) := by decide +kernel
theorem dX5_forget_12 : decode cX5_forget 12 = .ok (.getfield 9, 3) := by decide +kernel
theorem dX5_forget_15 : decode cX5_forget 15 = .ok (.iload_n 2, 1) := by decide +kernel
theorem dX5_forget_16 : decode cX5_forget 16 = .ok (.iload_n 1, 1) := by decide +kernel
theorem dX5_forget_17 : decode cX5_forget 17 = .ok (.iload_n 2, 1) := by decide +kernel
theorem dX5_forget_18 : decode cX5_forget 18 = .ok (.iconst 5, 1) := by decide +kernel
theorem dX5_forget_19 : decode cX5_forget 19 = .ok (.idiv, 1) := by decide +kernel
theorem dX5_forget_20 : decode cX5_forget 20 = .ok (.iload_n 2, 1) := by decide +kernel
theorem dX5_forget_21 : decode cX5_forget 21 = .ok (.iconst 5, 1) := by decide +kernel
theorem dX5_forget_22 : decode cX5_forget 22 = .ok (.irem, 1) := by decide +kernel
theorem dX5_forget_23 : decode cX5_forget 23 = .ok (.invokestatic 19, 3) := by decide +kernel
theorem dX5_forget_26 : decode cX5_forget 26 = .ok (.iastore, 1) := by decide +kernel
theorem dX5_forget_27 : decode cX5_forget 27 = .ok (.iinc 2 1, 3) := by decide +kernel
theorem dX5_forget_30 : decode cX5_forget 30 = .ok (.goto (-25), 3) := by decide +kernel
theorem dX5_forget_33 : decode cX5_forget 33 = .ok (.return_, 1) := by decide +kernel
theorem dX5_keepOnly_0 : decode cX5_keepOnly 0 = .ok (.aload_n 0, 1) := by decide +kernel
theorem dX5_keepOnly_1 : decode cX5_keepOnly 1 = .ok (.invokevirtual 15, 3) := by decide +kernel
theorem dX5_keepOnly_4 : decode cX5_keepOnly 4 = .ok (.iconst 0, 1) := by decide +kernel
theorem dX5_keepOnly_5 : decode cX5_keepOnly 5 = .ok (.istore_n 3, 1) := by decide +kernel
theorem dX5_keepOnly_6 : decode cX5_keepOnly 6 = .ok (.iload_n 3, 1) := by decide +kernel
theorem dX5_keepOnly_7 : decode cX5_keepOnly 7 = .ok (.aload_n 1, 1) := by decide +kernel
theorem dX5_keepOnly_8 : decode cX5_keepOnly 8 = .ok (.getfield 23, 3) := by decide +kernel
theorem dX5_keepOnly_11 : decode cX5_keepOnly 11 = .ok (.if_icmp .ge 39, 3) := by decide +kernel
theorem dX5_keepOnly_14 : decode cX5_keepOnly 14 = .ok (.iload_n 2, 1) := by decide +kernel
theorem dX5_keepOnly_15 : decode cX5_keepOnly 15 = .ok (.iload_n 3, 1) := by decide +kernel
theorem dX5_keepOnly_16 : decode cX5_keepOnly 16 = .ok (.invokestatic 29, 3) := by decide +kernel
theorem dX5_keepOnly_19 : decode cX5_keepOnly 19 = .ok (.ifCond .eq 25, 3) := by decide +kernel
theorem dX5_keepOnly_22 : decode cX5_keepOnly 22 = .ok (.aload_n 0, 1) := by decide +kernel
theorem dX5_keepOnly_23 : decode cX5_keepOnly 23 = .ok (.aload_n 1, 1) := by decide +kernel
theorem dX5_keepOnly_24 : decode cX5_keepOnly 24 = .ok (.getfield 33, 3) := by decide +kernel
theorem dX5_keepOnly_27 : decode cX5_keepOnly 27 = .ok (.iload_n 3, 1) := by decide +kernel
theorem dX5_keepOnly_28 : decode cX5_keepOnly 28 = .ok (.iaload, 1) := by decide +kernel
theorem dX5_keepOnly_29 : decode cX5_keepOnly 29 = .ok (.aload_n 1, 1) := by decide +kernel
theorem dX5_keepOnly_30 : decode cX5_keepOnly 30 = .ok (.getfield 36, 3) := by decide +kernel
theorem dX5_keepOnly_33 : decode cX5_keepOnly 33 = .ok (.iload_n 3, 1) := by decide +kernel
theorem dX5_keepOnly_34 : decode cX5_keepOnly 34 = .ok (.iaload, 1) := by decide +kernel
theorem dX5_keepOnly_35 : decode cX5_keepOnly 35 = .ok (.aload_n 1, 1) := by decide +kernel
theorem dX5_keepOnly_36 : decode cX5_keepOnly 36 = .ok (.getfield 39, 3) := by decide +kernel
theorem dX5_keepOnly_39 : decode cX5_keepOnly 39 = .ok (.iload_n 3, 1) := by decide +kernel
theorem dX5_keepOnly_40 : decode cX5_keepOnly 40 = .ok (.iaload, 1) := by decide +kernel
theorem dX5_keepOnly_41 : decode cX5_keepOnly 41 = .ok (.invokevirtual 42, 3) := by decide +kernel
theorem dX5_keepOnly_44 : decode cX5_keepOnly 44 = .ok (.iinc 3 1, 3) := by decide +kernel
theorem dX5_keepOnly_47 : decode cX5_keepOnly 47 = .ok (.goto (-41), 3) := by decide +kernel
theorem dX5_keepOnly_50 : decode cX5_keepOnly 50 = .ok (.return_, 1) := by decide +kernel
theorem dX5_keep_0 : decode cX5_keep 0 = .ok (.iload_n 1, 1) := by decide +kernel
theorem dX5_keep_1 : decode cX5_keep 1 = .ok (.ifCond .ne 10, 3) := by decide +kernel
theorem dX5_keep_4 : decode cX5_keep 4 = .ok (.aload_n 0, 1) := by decide +kernel
theorem dX5_keep_5 : decode cX5_keep 5 = .ok (.iload_n 2, 1) := by decide +kernel
theorem dX5_keep_6 : decode cX5_keep 6 = .ok (.iload_n 3, 1) := by decide +kernel
theorem dX5_keep_7 : decode cX5_keep 7 = .ok (.invokevirtual 46, 3) := by decide +kernel
theorem dX5_keep_10 : decode cX5_keep 10 = .ok (.return_, 1) := by decide +kernel
theorem dX5_keep_11 : decode cX5_keep 11 = .ok (.aload_n 0, 1) := by decide +kernel
theorem dX5_keep_12 : decode cX5_keep 12 = .ok (.iload_n 2, 1) := by decide +kernel
theorem dX5_keep_13 : decode cX5_keep 13 = .ok (.iload_n 3, 1) := by decide +kernel
theorem dX5_keep_14 : decode cX5_keep 14 = .ok (.invokevirtual 50, 3) := by decide +kernel
theorem dX5_keep_17 : decode cX5_keep 17 = .ok (.iload_n 1, 1) := by decide +kernel
theorem dX5_keep_18 : decode cX5_keep 18 = .ok (.iconst 2, 1) := by decide +kernel
theorem dX5_keep_19 : decode cX5_keep 19 = .ok (.if_icmp .ne 9, 3) := by decide +kernel
theorem dX5_keep_22 : decode cX5_keep 22 = .ok (.aload_n 0, 1) := by decide +kernel
theorem dX5_keep_23 : decode cX5_keep 23 = .ok (.iload_n 3, 1) := by decide +kernel
theorem dX5_keep_24 : decode cX5_keep 24 = .ok (.iload_n 2, 1) := by decide +kernel
theorem dX5_keep_25 : decode cX5_keep 25 = .ok (.invokevirtual 50, 3) := by decide +kernel
theorem dX5_keep_28 : decode cX5_keep 28 = .ok (.return_, 1) := by decide +kernel
theorem dX5_part_0 : decode cX5_part 0 = .ok (.aload_n 0, 1) := by decide +kernel
theorem dX5_part_1 : decode cX5_part 1 = .ok (.getfield 9, 3) := by decide +kernel
theorem dX5_part_4 : decode cX5_part 4 = .ok (.iload_n 1, 1) := by decide +kernel
theorem dX5_part_5 : decode cX5_part 5 = .ok (.dup2, 1) := by decide +kernel
theorem dX5_part_6 : decode cX5_part 6 = .ok (.iaload, 1) := by decide +kernel
theorem dX5_part_7 : decode cX5_part 7 = .ok (.iconst 1, 1) := by decide +kernel
theorem dX5_part_8 : decode cX5_part 8 = .ok (.iload_n 2, 1) := by decide +kernel
theorem dX5_part_9 : decode cX5_part 9 = .ok (.ishl, 1) := by decide +kernel
theorem dX5_part_10 : decode cX5_part 10 = .ok (.iconst (-1), 1) := by decide +kernel
theorem dX5_part_11 : decode cX5_part 11 = .ok (.ixor, 1) := by decide +kernel
theorem dX5_part_12 : decode cX5_part 12 = .ok (.iand, 1) := by decide +kernel
theorem dX5_part_13 : decode cX5_part 13 = .ok (.iastore, 1) := by decide +kernel
theorem dX5_part_14 : decode cX5_part 14 = .ok (.aload_n 0, 1) := by decide +kernel
theorem dX5_part_15 : decode cX5_part 15 = .ok (.getfield 9, 3) := by decide +kernel
theorem dX5_part_18 : decode cX5_part 18 = .ok (.iload_n 2, 1) := by decide +kernel
theorem dX5_part_19 : decode cX5_part 19 = .ok (.dup2, 1) := by decide +kernel
theorem dX5_part_20 : decode cX5_part 20 = .ok (.iaload, 1) := by decide +kernel
theorem dX5_part_21 : decode cX5_part 21 = .ok (.iconst 1, 1) := by decide +kernel
theorem dX5_part_22 : decode cX5_part 22 = .ok (.iload_n 1, 1) := by decide +kernel
theorem dX5_part_23 : decode cX5_part 23 = .ok (.ishl, 1) := by decide +kernel
theorem dX5_part_24 : decode cX5_part 24 = .ok (.iconst (-1), 1) := by decide +kernel
theorem dX5_part_25 : decode cX5_part 25 = .ok (.ixor, 1) := by decide +kernel
theorem dX5_part_26 : decode cX5_part 26 = .ok (.iand, 1) := by decide +kernel
theorem dX5_part_27 : decode cX5_part 27 = .ok (.iastore, 1) := by decide +kernel
theorem dX5_part_28 : decode cX5_part 28 = .ok (.return_, 1) := by decide +kernel
theorem dX5_partFromAllBut_0 : decode cX5_partFromAllBut 0 = .ok (.iload_n 2, 1) := by decide +kernel
theorem dX5_partFromAllBut_1 : decode cX5_partFromAllBut 1 = .ok (.iload_n 2, 1) := by decide +kernel
theorem dX5_partFromAllBut_2 : decode cX5_partFromAllBut 2 = .ok (.iconst 5, 1) := by decide +kernel
theorem dX5_partFromAllBut_3 : decode cX5_partFromAllBut 3 = .ok (.irem, 1) := by decide +kernel
theorem dX5_partFromAllBut_4 : decode cX5_partFromAllBut 4 = .ok (.isub, 1) := by decide +kernel
theorem dX5_partFromAllBut_5 : decode cX5_partFromAllBut 5 = .ok (.istore_n 3, 1) := by decide +kernel
theorem dX5_partFromAllBut_6 : decode cX5_partFromAllBut 6 = .ok (.iload_n 3, 1) := by decide +kernel
theorem dX5_partFromAllBut_7 : decode cX5_partFromAllBut 7 = .ok (.istore 4, 2) := by decide +kernel
theorem dX5_partFromAllBut_9 : decode cX5_partFromAllBut 9 = .ok (.iload 4, 2) := by decide +kernel
theorem dX5_partFromAllBut_11 : decode cX5_partFromAllBut 11 = .ok (.iload_n 3, 1) := by decide +kernel
theorem dX5_partFromAllBut_12 : decode cX5_partFromAllBut 12 = .ok (.iconst 5, 1) := by decide +kernel
theorem dX5_partFromAllBut_13 : decode cX5_partFromAllBut 13 = .ok (.iadd, 1) := by decide +kernel
theorem dX5_partFromAllBut_14 : decode cX5_partFromAllBut 14 = .ok (.if_icmp .ge 22, 3) := by decide +kernel
theorem dX5_partFromAllBut_17 : decode cX5_partFromAllBut 17 = .ok (.iload 4, 2) := by decide +kernel
theorem dX5_partFromAllBut_19 : decode cX5_partFromAllBut 19 = .ok (.iload_n 2, 1) := by decide +kernel
theorem dX5_partFromAllBut_20 : decode cX5_partFromAllBut 20 = .ok (.if_icmp .eq 10, 3) := by decide +kernel
theorem dX5_partFromAllBut_23 : decode cX5_partFromAllBut 23 = .ok (.aload_n 0, 1) := by decide +kernel
theorem dX5_partFromAllBut_24 : decode cX5_partFromAllBut 24 = .ok (.iload_n 1, 1) := by decide +kernel
theorem dX5_partFromAllBut_25 : decode cX5_partFromAllBut 25 = .ok (.iload 4, 2) := by decide +kernel
theorem dX5_partFromAllBut_27 : decode cX5_partFromAllBut 27 = .ok (.invokevirtual 46, 3) := by decide +kernel
theorem dX5_partFromAllBut_30 : decode cX5_partFromAllBut 30 = .ok (.iinc 4 1, 3) := by decide +kernel
theorem dX5_partFromAllBut_33 : decode cX5_partFromAllBut 33 = .ok (.goto (-24), 3) := by decide +kernel
theorem dX5_partFromAllBut_36 : decode cX5_partFromAllBut 36 = .ok (.return_, 1) := by decide +kernel
theorem dX5_leaveSome_0 : decode cX5_leaveSome 0 = .ok (.aload_n 0, 1) := by decide +kernel
theorem dX5_leaveSome_1 : decode cX5_leaveSome 1 = .ok (.getfield 9, 3) := by decide +kernel
theorem dX5_leaveSome_4 : decode cX5_leaveSome 4 = .ok (.iload_n 2, 1) := by decide +kernel
theorem dX5_leaveSome_5 : decode cX5_leaveSome 5 = .ok (.iconst 0, 1) := by decide +kernel
theorem dX5_leaveSome_6 : decode cX5_leaveSome 6 = .ok (.iload_n 1, 1) := by decide +kernel
theorem dX5_leaveSome_7 : decode cX5_leaveSome 7 = .ok (.invokestatic 53, 3) := by decide +kernel
theorem dX5_leaveSome_10 : decode cX5_leaveSome 10 = .ok (.ireturn, 1) := by decide +kernel
theorem dX5_leaveSomeFrom_0 : decode cX5_leaveSomeFrom 0 = .ok (.iload_n 2, 1) := by decide +kernel
theorem dX5_leaveSomeFrom_1 : decode cX5_leaveSomeFrom 1 = .ok (.iload_n 1, 1) := by decide +kernel
theorem dX5_leaveSomeFrom_2 : decode cX5_leaveSomeFrom 2 = .ok (.if_icmp .lt 5, 3) := by decide +kernel
theorem dX5_leaveSomeFrom_5 : decode cX5_leaveSomeFrom 5 = .ok (.iconst 1, 1) := by decide +kernel
theorem dX5_leaveSomeFrom_6 : decode cX5_leaveSomeFrom 6 = .ok (.ireturn, 1) := by decide +kernel
theorem dX5_leaveSomeFrom_7 : decode cX5_leaveSomeFrom 7 = .ok (.iconst 0, 1) := by decide +kernel
theorem dX5_leaveSomeFrom_8 : decode cX5_leaveSomeFrom 8 = .ok (.istore 4, 2) := by decide +kernel
theorem dX5_leaveSomeFrom_10 : decode cX5_leaveSomeFrom 10 = .ok (.iload 4, 2) := by decide +kernel
theorem dX5_leaveSomeFrom_12 : decode cX5_leaveSomeFrom 12 = .ok (.iconst 5, 1) := by decide +kernel
theorem dX5_leaveSomeFrom_13 : decode cX5_leaveSomeFrom 13 = .ok (.if_icmp .ge 61, 3) := by decide +kernel
theorem dX5_leaveSomeFrom_16 : decode cX5_leaveSomeFrom 16 = .ok (.iload_n 2, 1) := by decide +kernel
theorem dX5_leaveSomeFrom_17 : decode cX5_leaveSomeFrom 17 = .ok (.iload 4, 2) := by decide +kernel
theorem dX5_leaveSomeFrom_19 : decode cX5_leaveSomeFrom 19 = .ok (.invokestatic 57, 3) := by decide +kernel
theorem dX5_leaveSomeFrom_22 : decode cX5_leaveSomeFrom 22 = .ok (.istore 5, 2) := by decide +kernel
theorem dX5_leaveSomeFrom_24 : decode cX5_leaveSomeFrom 24 = .ok (.iload_n 3, 1) := by decide +kernel
theorem dX5_leaveSomeFrom_25 : decode cX5_leaveSomeFrom 25 = .ok (.iload 5, 2) := by decide +kernel
theorem dX5_leaveSomeFrom_27 : decode cX5_leaveSomeFrom 27 = .ok (.invokestatic 29, 3) := by decide +kernel
theorem dX5_leaveSomeFrom_30 : decode cX5_leaveSomeFrom 30 = .ok (.ifCond .eq 38, 3) := by decide +kernel
theorem dX5_leaveSomeFrom_33 : decode cX5_leaveSomeFrom 33 = .ok (.iload_n 3, 1) := by decide +kernel
theorem dX5_leaveSomeFrom_34 : decode cX5_leaveSomeFrom 34 = .ok (.aload_n 0, 1) := by decide +kernel
theorem dX5_leaveSomeFrom_35 : decode cX5_leaveSomeFrom 35 = .ok (.iload 5, 2) := by decide +kernel
theorem dX5_leaveSomeFrom_37 : decode cX5_leaveSomeFrom 37 = .ok (.iaload, 1) := by decide +kernel
theorem dX5_leaveSomeFrom_38 : decode cX5_leaveSomeFrom 38 = .ok (.iand, 1) := by decide +kernel
theorem dX5_leaveSomeFrom_39 : decode cX5_leaveSomeFrom 39 = .ok (.istore 6, 2) := by decide +kernel
theorem dX5_leaveSomeFrom_41 : decode cX5_leaveSomeFrom 41 = .ok (.iload_n 2, 1) := by decide +kernel
theorem dX5_leaveSomeFrom_42 : decode cX5_leaveSomeFrom 42 = .ok (.iconst 1, 1) := by decide +kernel
theorem dX5_leaveSomeFrom_43 : decode cX5_leaveSomeFrom 43 = .ok (.iadd, 1) := by decide +kernel
theorem dX5_leaveSomeFrom_44 : decode cX5_leaveSomeFrom 44 = .ok (.iload_n 1, 1) := by decide +kernel
theorem dX5_leaveSomeFrom_45 : decode cX5_leaveSomeFrom 45 = .ok (.iload 6, 2) := by decide +kernel
theorem dX5_leaveSomeFrom_47 : decode cX5_leaveSomeFrom 47 = .ok (.invokestatic 61, 3) := by decide +kernel
theorem dX5_leaveSomeFrom_50 : decode cX5_leaveSomeFrom 50 = .ok (.ifCond .eq 18, 3) := by decide +kernel
theorem dX5_leaveSomeFrom_53 : decode cX5_leaveSomeFrom 53 = .ok (.aload_n 0, 1) := by decide +kernel
theorem dX5_leaveSomeFrom_54 : decode cX5_leaveSomeFrom 54 = .ok (.iload_n 1, 1) := by decide +kernel
theorem dX5_leaveSomeFrom_55 : decode cX5_leaveSomeFrom 55 = .ok (.iload_n 2, 1) := by decide +kernel
theorem dX5_leaveSomeFrom_56 : decode cX5_leaveSomeFrom 56 = .ok (.iconst 1, 1) := by decide +kernel
theorem dX5_leaveSomeFrom_57 : decode cX5_leaveSomeFrom 57 = .ok (.iadd, 1) := by decide +kernel
theorem dX5_leaveSomeFrom_58 : decode cX5_leaveSomeFrom 58 = .ok (.iload 6, 2) := by decide +kernel
theorem dX5_leaveSomeFrom_60 : decode cX5_leaveSomeFrom 60 = .ok (.invokestatic 53, 3) := by decide +kernel
theorem dX5_leaveSomeFrom_63 : decode cX5_leaveSomeFrom 63 = .ok (.ifCond .eq 5, 3) := by decide +kernel
theorem dX5_leaveSomeFrom_66 : decode cX5_leaveSomeFrom 66 = .ok (.iconst 1, 1) := by decide +kernel
theorem dX5_leaveSomeFrom_67 : decode cX5_leaveSomeFrom 67 = .ok (.ireturn, 1) := by decide +kernel
theorem dX5_leaveSomeFrom_68 : decode cX5_leaveSomeFrom 68 = .ok (.iinc 4 1, 3) := by decide +kernel
theorem dX5_leaveSomeFrom_71 : decode cX5_leaveSomeFrom 71 = .ok (.goto (-61), 3) := by decide +kernel
theorem dX5_leaveSomeFrom_74 : decode cX5_leaveSomeFrom 74 = .ok (.iconst 0, 1) := by decide +kernel
theorem dX5_leaveSomeFrom_75 : decode cX5_leaveSomeFrom 75 = .ok (.ireturn, 1) := by decide +kernel
theorem dX5_narrow_0 : decode cX5_narrow 0 = .ok (.iload_n 1, 1) := by decide +kernel
theorem dX5_narrow_1 : decode cX5_narrow 1 = .ok (.istore_n 3, 1) := by decide +kernel
theorem dX5_narrow_2 : decode cX5_narrow 2 = .ok (.iconst 0, 1) := by decide +kernel
theorem dX5_narrow_3 : decode cX5_narrow 3 = .ok (.istore 4, 2) := by decide +kernel
theorem dX5_narrow_5 : decode cX5_narrow 5 = .ok (.iload 4, 2) := by decide +kernel
theorem dX5_narrow_7 : decode cX5_narrow 7 = .ok (.bipush 30, 2) := by decide +kernel
theorem dX5_narrow_9 : decode cX5_narrow 9 = .ok (.if_icmp .ge 71, 3) := by decide +kernel
theorem dX5_narrow_12 : decode cX5_narrow 12 = .ok (.iload_n 3, 1) := by decide +kernel
theorem dX5_narrow_13 : decode cX5_narrow 13 = .ok (.istore 5, 2) := by decide +kernel
theorem dX5_narrow_15 : decode cX5_narrow 15 = .ok (.iconst 0, 1) := by decide +kernel
theorem dX5_narrow_16 : decode cX5_narrow 16 = .ok (.istore 6, 2) := by decide +kernel
theorem dX5_narrow_18 : decode cX5_narrow 18 = .ok (.iload 6, 2) := by decide +kernel
theorem dX5_narrow_20 : decode cX5_narrow 20 = .ok (.bipush 30, 2) := by decide +kernel
theorem dX5_narrow_22 : decode cX5_narrow 22 = .ok (.if_icmp .ge 44, 3) := by decide +kernel
theorem dX5_narrow_25 : decode cX5_narrow 25 = .ok (.iload_n 3, 1) := by decide +kernel
theorem dX5_narrow_26 : decode cX5_narrow 26 = .ok (.iload 6, 2) := by decide +kernel
theorem dX5_narrow_28 : decode cX5_narrow 28 = .ok (.invokestatic 29, 3) := by decide +kernel
theorem dX5_narrow_31 : decode cX5_narrow 31 = .ok (.ifCond .eq 29, 3) := by decide +kernel
theorem dX5_narrow_34 : decode cX5_narrow 34 = .ok (.iconst 0, 1) := by decide +kernel
theorem dX5_narrow_35 : decode cX5_narrow 35 = .ok (.iload_n 2, 1) := by decide +kernel
theorem dX5_narrow_36 : decode cX5_narrow 36 = .ok (.iload_n 3, 1) := by decide +kernel
theorem dX5_narrow_37 : decode cX5_narrow 37 = .ok (.aload_n 0, 1) := by decide +kernel
theorem dX5_narrow_38 : decode cX5_narrow 38 = .ok (.getfield 9, 3) := by decide +kernel
theorem dX5_narrow_41 : decode cX5_narrow 41 = .ok (.iload 6, 2) := by decide +kernel
theorem dX5_narrow_43 : decode cX5_narrow 43 = .ok (.iaload, 1) := by decide +kernel
theorem dX5_narrow_44 : decode cX5_narrow 44 = .ok (.iand, 1) := by decide +kernel
theorem dX5_narrow_45 : decode cX5_narrow 45 = .ok (.invokestatic 61, 3) := by decide +kernel
theorem dX5_narrow_48 : decode cX5_narrow 48 = .ok (.ifCond .ne 12, 3) := by decide +kernel
theorem dX5_narrow_51 : decode cX5_narrow 51 = .ok (.iload_n 3, 1) := by decide +kernel
theorem dX5_narrow_52 : decode cX5_narrow 52 = .ok (.iconst 1, 1) := by decide +kernel
theorem dX5_narrow_53 : decode cX5_narrow 53 = .ok (.iload 6, 2) := by decide +kernel
theorem dX5_narrow_55 : decode cX5_narrow 55 = .ok (.ishl, 1) := by decide +kernel
theorem dX5_narrow_56 : decode cX5_narrow 56 = .ok (.iconst (-1), 1) := by decide +kernel
theorem dX5_narrow_57 : decode cX5_narrow 57 = .ok (.ixor, 1) := by decide +kernel
theorem dX5_narrow_58 : decode cX5_narrow 58 = .ok (.iand, 1) := by decide +kernel
theorem dX5_narrow_59 : decode cX5_narrow 59 = .ok (.istore_n 3, 1) := by decide +kernel
theorem dX5_narrow_60 : decode cX5_narrow 60 = .ok (.iinc 6 1, 3) := by decide +kernel
theorem dX5_narrow_63 : decode cX5_narrow 63 = .ok (.goto (-45), 3) := by decide +kernel
theorem dX5_narrow_66 : decode cX5_narrow 66 = .ok (.iload_n 3, 1) := by decide +kernel
theorem dX5_narrow_67 : decode cX5_narrow 67 = .ok (.iload 5, 2) := by decide +kernel
theorem dX5_narrow_69 : decode cX5_narrow 69 = .ok (.if_icmp .ne 5, 3) := by decide +kernel
theorem dX5_narrow_72 : decode cX5_narrow 72 = .ok (.iload_n 3, 1) := by decide +kernel
theorem dX5_narrow_73 : decode cX5_narrow 73 = .ok (.ireturn, 1) := by decide +kernel
theorem dX5_narrow_74 : decode cX5_narrow 74 = .ok (.iinc 4 1, 3) := by decide +kernel
theorem dX5_narrow_77 : decode cX5_narrow 77 = .ok (.goto (-72), 3) := by decide +kernel
theorem dX5_narrow_80 : decode cX5_narrow 80 = .ok (.iload_n 3, 1) := by decide +kernel
theorem dX5_narrow_81 : decode cX5_narrow 81 = .ok (.ireturn, 1) := by decide +kernel
theorem dX6_init_0 : decode cX6_init 0 = .ok (.aload_n 0, 1) := by decide +kernel
theorem dX6_init_1 : decode cX6_init 1 = .ok (.invokespecial 3, 3) := by decide +kernel
theorem dX6_init_4 : decode cX6_init 4 = .ok (.return_, 1) := by decide +kernel
theorem dX6_least_0 : decode cX6_least 0 = .ok (.aload_n 0, 1) := by decide +kernel
theorem dX6_least_1 : decode cX6_least 1 = .ok (.iconst 1, 1) := by decide +kernel
theorem dX6_least_2 : decode cX6_least 2 = .ok (.invokevirtual 9, 3) := by decide +kernel
theorem dX6_least_5 : decode cX6_least 5 = .ok (.aload_n 0, 1) := by decide +kernel
theorem dX6_least_6 : decode cX6_least 6 = .ok (.aload_n 1, 1) := by decide +kernel
theorem dX6_least_7 : decode cX6_least 7 = .ok (.aload_n 2, 1) := by decide +kernel
theorem dX6_least_8 : decode cX6_least 8 = .ok (.iload_n 3, 1) := by decide +kernel
theorem dX6_least_9 : decode cX6_least 9 = .ok (.iconst 0, 1) := by decide +kernel
theorem dX6_least_10 : decode cX6_least 10 = .ok (.iload 4, 2) := by decide +kernel
theorem dX6_least_12 : decode cX6_least 12 = .ok (.iconst 0, 1) := by decide +kernel
theorem dX6_least_13 : decode cX6_least 13 = .ok (.invokestatic 15, 3) := by decide +kernel
theorem dX6_least_16 : decode cX6_least 16 = .ok (.aload_n 0, 1) := by decide +kernel
theorem dX6_least_17 : decode cX6_least 17 = .ok (.getfield 19, 3) := by decide +kernel
theorem dX6_least_20 : decode cX6_least 20 = .ok (.ireturn, 1) := by decide +kernel
theorem dX6_greatest_0 : decode cX6_greatest 0 = .ok (.aload_n 0, 1) := by decide +kernel
theorem dX6_greatest_1 : decode cX6_greatest 1 = .ok (.iconst (-1), 1) := by decide +kernel
theorem dX6_greatest_2 : decode cX6_greatest 2 = .ok (.invokevirtual 9, 3) := by decide +kernel
theorem dX6_greatest_5 : decode cX6_greatest 5 = .ok (.aload_n 0, 1) := by decide +kernel
theorem dX6_greatest_6 : decode cX6_greatest 6 = .ok (.aload_n 1, 1) := by decide +kernel
theorem dX6_greatest_7 : decode cX6_greatest 7 = .ok (.aload_n 2, 1) := by decide +kernel
theorem dX6_greatest_8 : decode cX6_greatest 8 = .ok (.iload_n 3, 1) := by decide +kernel
theorem dX6_greatest_9 : decode cX6_greatest 9 = .ok (.iconst 0, 1) := by decide +kernel
theorem dX6_greatest_10 : decode cX6_greatest 10 = .ok (.iload 4, 2) := by decide +kernel
theorem dX6_greatest_12 : decode cX6_greatest 12 = .ok (.iconst 0, 1) := by decide +kernel
theorem dX6_greatest_13 : decode cX6_greatest 13 = .ok (.invokestatic 15, 3) := by decide +kernel
theorem dX6_greatest_16 : decode cX6_greatest 16 = .ok (.aload_n 0, 1) := by decide +kernel
theorem dX6_greatest_17 : decode cX6_greatest 17 = .ok (.getfield 19, 3) := by decide +kernel
theorem dX6_greatest_20 : decode cX6_greatest 20 = .ok (.ireturn, 1) := by decide +kernel
theorem dX6_start_0 : decode cX6_start 0 = .ok (.aload_n 0, 1) := by decide +kernel
theorem dX6_start_1 : decode cX6_start 1 = .ok (.iload_n 1, 1) := by decide +kernel
theorem dX6_start_2 : decode cX6_start 2 = .ok (.putfield 23, 3) := by decide +kernel
theorem dX6_start_5 : decode cX6_start 5 = .ok (.aload_n 0, 1) := by decide +kernel
theorem dX6_start_6 : decode cX6_start 6 = .ok (.iconst 0, 1) := by decide +kernel
theorem dX6_start_7 : decode cX6_start 7 = .ok (.putfield 26, 3) := by decide +kernel
theorem dX6_start_10 : decode cX6_start 10 = .ok (.return_, 1) := by decide +kernel
theorem dX6_meet_0 : decode cX6_meet 0 = .ok (.aload_n 0, 1) := by decide +kernel
theorem dX6_meet_1 : decode cX6_meet 1 = .ok (.getfield 26, 3) := by decide +kernel
theorem dX6_meet_4 : decode cX6_meet 4 = .ok (.ifCond .eq 21, 3) := by decide +kernel
theorem dX6_meet_7 : decode cX6_meet 7 = .ok (.aload_n 0, 1) := by decide +kernel
theorem dX6_meet_8 : decode cX6_meet 8 = .ok (.getfield 23, 3) := by decide +kernel
theorem dX6_meet_11 : decode cX6_meet 11 = .ok (.iload_n 2, 1) := by decide +kernel
theorem dX6_meet_12 : decode cX6_meet 12 = .ok (.imul, 1) := by decide +kernel
theorem dX6_meet_13 : decode cX6_meet 13 = .ok (.aload_n 0, 1) := by decide +kernel
theorem dX6_meet_14 : decode cX6_meet 14 = .ok (.getfield 23, 3) := by decide +kernel
theorem dX6_meet_17 : decode cX6_meet 17 = .ok (.aload_n 0, 1) := by decide +kernel
theorem dX6_meet_18 : decode cX6_meet 18 = .ok (.getfield 19, 3) := by decide +kernel
theorem dX6_meet_21 : decode cX6_meet 21 = .ok (.imul, 1) := by decide +kernel
theorem dX6_meet_22 : decode cX6_meet 22 = .ok (.if_icmp .ge 18, 3) := by decide +kernel
theorem dX6_meet_25 : decode cX6_meet 25 = .ok (.aload_n 0, 1) := by decide +kernel
theorem dX6_meet_26 : decode cX6_meet 26 = .ok (.iconst 1, 1) := by decide +kernel
theorem dX6_meet_27 : decode cX6_meet 27 = .ok (.putfield 26, 3) := by decide +kernel
theorem dX6_meet_30 : decode cX6_meet 30 = .ok (.aload_n 0, 1) := by decide +kernel
theorem dX6_meet_31 : decode cX6_meet 31 = .ok (.iload_n 2, 1) := by decide +kernel
theorem dX6_meet_32 : decode cX6_meet 32 = .ok (.putfield 19, 3) := by decide +kernel
theorem dX6_meet_35 : decode cX6_meet 35 = .ok (.aload_n 0, 1) := by decide +kernel
theorem dX6_meet_36 : decode cX6_meet 36 = .ok (.iload_n 1, 1) := by decide +kernel
theorem dX6_meet_37 : decode cX6_meet 37 = .ok (.putfield 30, 3) := by decide +kernel
theorem dX6_meet_40 : decode cX6_meet 40 = .ok (.return_, 1) := by decide +kernel
theorem dX6_lookFrom_0 : decode cX6_lookFrom 0 = .ok (.iload 4, 2) := by decide +kernel
theorem dX6_lookFrom_2 : decode cX6_lookFrom 2 = .ok (.iload_n 3, 1) := by decide +kernel
theorem dX6_lookFrom_3 : decode cX6_lookFrom 3 = .ok (.if_icmp .lt 19, 3) := by decide +kernel
theorem dX6_lookFrom_6 : decode cX6_lookFrom 6 = .ok (.aload_n 0, 1) := by decide +kernel
theorem dX6_lookFrom_7 : decode cX6_lookFrom 7 = .ok (.iload 5, 2) := by decide +kernel
theorem dX6_lookFrom_9 : decode cX6_lookFrom 9 = .ok (.iload 6, 2) := by decide +kernel
theorem dX6_lookFrom_11 : decode cX6_lookFrom 11 = .ok (.aload_n 2, 1) := by decide +kernel
theorem dX6_lookFrom_12 : decode cX6_lookFrom 12 = .ok (.iload 5, 2) := by decide +kernel
theorem dX6_lookFrom_14 : decode cX6_lookFrom 14 = .ok (.invokevirtual 33, 3) := by decide +kernel
theorem dX6_lookFrom_17 : decode cX6_lookFrom 17 = .ok (.iadd, 1) := by decide +kernel
theorem dX6_lookFrom_18 : decode cX6_lookFrom 18 = .ok (.invokevirtual 39, 3) := by decide +kernel
theorem dX6_lookFrom_21 : decode cX6_lookFrom 21 = .ok (.return_, 1) := by decide +kernel
theorem dX6_lookFrom_22 : decode cX6_lookFrom 22 = .ok (.iconst 0, 1) := by decide +kernel
theorem dX6_lookFrom_23 : decode cX6_lookFrom 23 = .ok (.istore 7, 2) := by decide +kernel
theorem dX6_lookFrom_25 : decode cX6_lookFrom 25 = .ok (.iload 7, 2) := by decide +kernel
theorem dX6_lookFrom_27 : decode cX6_lookFrom 27 = .ok (.iconst 5, 1) := by decide +kernel
theorem dX6_lookFrom_28 : decode cX6_lookFrom 28 = .ok (.if_icmp .ge 76, 3) := by decide +kernel
theorem dX6_lookFrom_31 : decode cX6_lookFrom 31 = .ok (.iload 4, 2) := by decide +kernel
theorem dX6_lookFrom_33 : decode cX6_lookFrom 33 = .ok (.iload 7, 2) := by decide +kernel
theorem dX6_lookFrom_35 : decode cX6_lookFrom 35 = .ok (.invokestatic 43, 3) := by decide +kernel
theorem dX6_lookFrom_38 : decode cX6_lookFrom 38 = .ok (.istore 8, 2) := by decide +kernel
theorem dX6_lookFrom_40 : decode cX6_lookFrom 40 = .ok (.iload 5, 2) := by decide +kernel
theorem dX6_lookFrom_42 : decode cX6_lookFrom 42 = .ok (.iload 8, 2) := by decide +kernel
theorem dX6_lookFrom_44 : decode cX6_lookFrom 44 = .ok (.invokestatic 47, 3) := by decide +kernel
theorem dX6_lookFrom_47 : decode cX6_lookFrom 47 = .ok (.ifCond .eq 51, 3) := by decide +kernel
theorem dX6_lookFrom_50 : decode cX6_lookFrom 50 = .ok (.iload 5, 2) := by decide +kernel
theorem dX6_lookFrom_52 : decode cX6_lookFrom 52 = .ok (.aload_n 1, 1) := by decide +kernel
theorem dX6_lookFrom_53 : decode cX6_lookFrom 53 = .ok (.getfield 51, 3) := by decide +kernel
theorem dX6_lookFrom_56 : decode cX6_lookFrom 56 = .ok (.iload 8, 2) := by decide +kernel
theorem dX6_lookFrom_58 : decode cX6_lookFrom 58 = .ok (.iaload, 1) := by decide +kernel
theorem dX6_lookFrom_59 : decode cX6_lookFrom 59 = .ok (.iand, 1) := by decide +kernel
theorem dX6_lookFrom_60 : decode cX6_lookFrom 60 = .ok (.istore 9, 2) := by decide +kernel
theorem dX6_lookFrom_62 : decode cX6_lookFrom 62 = .ok (.iload 4, 2) := by decide +kernel
theorem dX6_lookFrom_64 : decode cX6_lookFrom 64 = .ok (.iconst 1, 1) := by decide +kernel
theorem dX6_lookFrom_65 : decode cX6_lookFrom 65 = .ok (.iadd, 1) := by decide +kernel
theorem dX6_lookFrom_66 : decode cX6_lookFrom 66 = .ok (.iload_n 3, 1) := by decide +kernel
theorem dX6_lookFrom_67 : decode cX6_lookFrom 67 = .ok (.iload 9, 2) := by decide +kernel
theorem dX6_lookFrom_69 : decode cX6_lookFrom 69 = .ok (.invokestatic 57, 3) := by decide +kernel
theorem dX6_lookFrom_72 : decode cX6_lookFrom 72 = .ok (.ifCond .eq 26, 3) := by decide +kernel
theorem dX6_lookFrom_75 : decode cX6_lookFrom 75 = .ok (.aload_n 0, 1) := by decide +kernel
theorem dX6_lookFrom_76 : decode cX6_lookFrom 76 = .ok (.aload_n 1, 1) := by decide +kernel
theorem dX6_lookFrom_77 : decode cX6_lookFrom 77 = .ok (.aload_n 2, 1) := by decide +kernel
theorem dX6_lookFrom_78 : decode cX6_lookFrom 78 = .ok (.iload_n 3, 1) := by decide +kernel
theorem dX6_lookFrom_79 : decode cX6_lookFrom 79 = .ok (.iload 4, 2) := by decide +kernel
theorem dX6_lookFrom_81 : decode cX6_lookFrom 81 = .ok (.iconst 1, 1) := by decide +kernel
theorem dX6_lookFrom_82 : decode cX6_lookFrom 82 = .ok (.iadd, 1) := by decide +kernel
theorem dX6_lookFrom_83 : decode cX6_lookFrom 83 = .ok (.iload 9, 2) := by decide +kernel
theorem dX6_lookFrom_85 : decode cX6_lookFrom 85 = .ok (.iload 6, 2) := by decide +kernel
theorem dX6_lookFrom_87 : decode cX6_lookFrom 87 = .ok (.aload_n 2, 1) := by decide +kernel
theorem dX6_lookFrom_88 : decode cX6_lookFrom 88 = .ok (.getfield 61, 3) := by decide +kernel
theorem dX6_lookFrom_91 : decode cX6_lookFrom 91 = .ok (.iload 8, 2) := by decide +kernel
theorem dX6_lookFrom_93 : decode cX6_lookFrom 93 = .ok (.iaload, 1) := by decide +kernel
theorem dX6_lookFrom_94 : decode cX6_lookFrom 94 = .ok (.iadd, 1) := by decide +kernel
theorem dX6_lookFrom_95 : decode cX6_lookFrom 95 = .ok (.invokestatic 15, 3) := by decide +kernel
theorem dX6_lookFrom_98 : decode cX6_lookFrom 98 = .ok (.iinc 7 1, 3) := by decide +kernel
theorem dX6_lookFrom_101 : decode cX6_lookFrom 101 = .ok (.goto (-76), 3) := by decide +kernel
theorem dX6_lookFrom_104 : decode cX6_lookFrom 104 = .ok (.return_, 1) := by decide +kernel
theorem dX7_init_0 : decode cX7_init 0 = .ok (.aload_n 0, 1) := by decide +kernel
theorem dX7_init_1 : decode cX7_init 1 = .ok (.invokespecial 3, 3) := by decide +kernel
theorem dX7_init_4 : decode cX7_init 4 = .ok (.aload_n 0, 1) := by decide +kernel
theorem dX7_init_5 : decode cX7_init 5 = .ok (.bipush 30, 2) := by decide +kernel
theorem dX7_init_7 : decode cX7_init 7 = .ok (.newarray .int, 2) := by decide +kernel
theorem dX7_init_9 : decode cX7_init 9 = .ok (.putfield 9, 3) := by decide +kernel
theorem dX7_init_12 : decode cX7_init 12 = .ok (.aload_n 0, 1) := by decide +kernel
theorem dX7_init_13 : decode cX7_init 13 = .ok (.bipush 10, 2) := by decide +kernel
theorem dX7_init_15 : decode cX7_init 15 = .ok (.newarray .int, 2) := by decide +kernel
theorem dX7_init_17 : decode cX7_init 17 = .ok (.putfield 15, 3) := by decide +kernel
theorem dX7_init_20 : decode cX7_init 20 = .ok (.aload_n 0, 1) := by decide +kernel
theorem dX7_init_21 : decode cX7_init 21 = .ok (.bipush 10, 2) := by decide +kernel
theorem dX7_init_23 : decode cX7_init 23 = .ok (.newarray .int, 2) := by decide +kernel
theorem dX7_init_25 : decode cX7_init 25 = .ok (.putfield 18, 3) := by decide +kernel
theorem dX7_init_28 : decode cX7_init 28 = .ok (.return_, 1) := by decide +kernel
theorem dX7_add_0 : decode cX7_add 0 = .ok (.aload_n 0, 1) := by decide +kernel
theorem dX7_add_1 : decode cX7_add 1 = .ok (.getfield 21, 3) := by decide +kernel
theorem dX7_add_4 : decode cX7_add 4 = .ok (.bipush 10, 2) := by decide +kernel
theorem dX7_add_6 : decode cX7_add 6 = .ok (.if_icmp .lt 5, 3) := by decide +kernel
theorem dX7_add_9 : decode cX7_add 9 = .ok (.iconst 0, 1) := by decide +kernel
theorem dX7_add_10 : decode cX7_add 10 = .ok (.ireturn, 1) := by decide +kernel
theorem dX7_add_11 : decode cX7_add 11 = .ok (.aload_n 0, 1) := by decide +kernel
theorem dX7_add_12 : decode cX7_add 12 = .ok (.getfield 15, 3) := by decide +kernel
theorem dX7_add_15 : decode cX7_add 15 = .ok (.aload_n 0, 1) := by decide +kernel
theorem dX7_add_16 : decode cX7_add 16 = .ok (.getfield 21, 3) := by decide +kernel
theorem dX7_add_19 : decode cX7_add 19 = .ok (.iload_n 1, 1) := by decide +kernel
theorem dX7_add_20 : decode cX7_add 20 = .ok (.iastore, 1) := by decide +kernel
theorem dX7_add_21 : decode cX7_add 21 = .ok (.aload_n 0, 1) := by decide +kernel
theorem dX7_add_22 : decode cX7_add 22 = .ok (.getfield 18, 3) := by decide +kernel
theorem dX7_add_25 : decode cX7_add 25 = .ok (.aload_n 0, 1) := by decide +kernel
theorem dX7_add_26 : decode cX7_add 26 = .ok (.getfield 21, 3) := by decide +kernel
theorem dX7_add_29 : decode cX7_add 29 = .ok (.iload_n 2, 1) := by decide +kernel
theorem dX7_add_30 : decode cX7_add 30 = .ok (.iastore, 1) := by decide +kernel
theorem dX7_add_31 : decode cX7_add 31 = .ok (.aload_n 0, 1) := by decide +kernel
theorem dX7_add_32 : decode cX7_add 32 = .ok (.dup, 1) := by decide +kernel
theorem dX7_add_33 : decode cX7_add 33 = .ok (.getfield 21, 3) := by decide +kernel
theorem dX7_add_36 : decode cX7_add 36 = .ok (.iconst 1, 1) := by decide +kernel
theorem dX7_add_37 : decode cX7_add 37 = .ok (.iadd, 1) := by decide +kernel
theorem dX7_add_38 : decode cX7_add 38 = .ok (.putfield 21, 3) := by decide +kernel
theorem dX7_add_41 : decode cX7_add 41 = .ok (.iconst 1, 1) := by decide +kernel
theorem dX7_add_42 : decode cX7_add 42 = .ok (.ireturn, 1) := by decide +kernel
theorem dX7_surchargesOf_0 : decode cX7_surchargesOf 0 = .ok (.iconst 0, 1) := by decide +kernel
theorem dX7_surchargesOf_1 : decode cX7_surchargesOf 1 = .ok (.istore_n 2, 1) := by decide +kernel
theorem dX7_surchargesOf_2 : decode cX7_surchargesOf 2 = .ok (.iconst 0, 1) := by decide +kernel
theorem dX7_surchargesOf_3 : decode cX7_surchargesOf 3 = .ok (.istore_n 3, 1) := by decide +kernel
theorem dX7_surchargesOf_4 : decode cX7_surchargesOf 4 = .ok (.iload_n 3, 1) := by decide +kernel
theorem dX7_surchargesOf_5 : decode cX7_surchargesOf 5 = .ok (.aload_n 0, 1) := by decide +kernel
theorem dX7_surchargesOf_6 : decode cX7_surchargesOf 6 = .ok (.getfield 21, 3) := by decide +kernel
theorem dX7_surchargesOf_9 : decode cX7_surchargesOf 9 = .ok (.if_icmp .ge 35, 3) := by decide +kernel
theorem dX7_surchargesOf_12 : decode cX7_surchargesOf 12 = .ok (.iload_n 1, 1) := by decide +kernel
theorem dX7_surchargesOf_13 : decode cX7_surchargesOf 13 = .ok (.aload_n 0, 1) := by decide +kernel
theorem dX7_surchargesOf_14 : decode cX7_surchargesOf 14 = .ok (.getfield 15, 3) := by decide +kernel
theorem dX7_surchargesOf_17 : decode cX7_surchargesOf 17 = .ok (.iload_n 3, 1) := by decide +kernel
theorem dX7_surchargesOf_18 : decode cX7_surchargesOf 18 = .ok (.iaload, 1) := by decide +kernel
theorem dX7_surchargesOf_19 : decode cX7_surchargesOf 19 = .ok (.iand, 1) := by decide +kernel
theorem dX7_surchargesOf_20 : decode cX7_surchargesOf 20 = .ok (.aload_n 0, 1) := by decide +kernel
theorem dX7_surchargesOf_21 : decode cX7_surchargesOf 21 = .ok (.getfield 15, 3) := by decide +kernel
theorem dX7_surchargesOf_24 : decode cX7_surchargesOf 24 = .ok (.iload_n 3, 1) := by decide +kernel
theorem dX7_surchargesOf_25 : decode cX7_surchargesOf 25 = .ok (.iaload, 1) := by decide +kernel
theorem dX7_surchargesOf_26 : decode cX7_surchargesOf 26 = .ok (.if_icmp .ne 12, 3) := by decide +kernel
theorem dX7_surchargesOf_29 : decode cX7_surchargesOf 29 = .ok (.iload_n 2, 1) := by decide +kernel
theorem dX7_surchargesOf_30 : decode cX7_surchargesOf 30 = .ok (.aload_n 0, 1) := by decide +kernel
theorem dX7_surchargesOf_31 : decode cX7_surchargesOf 31 = .ok (.getfield 18, 3) := by decide +kernel
theorem dX7_surchargesOf_34 : decode cX7_surchargesOf 34 = .ok (.iload_n 3, 1) := by decide +kernel
theorem dX7_surchargesOf_35 : decode cX7_surchargesOf 35 = .ok (.iaload, 1) := by decide +kernel
theorem dX7_surchargesOf_36 : decode cX7_surchargesOf 36 = .ok (.iadd, 1) := by decide +kernel
theorem dX7_surchargesOf_37 : decode cX7_surchargesOf 37 = .ok (.istore_n 2, 1) := by decide +kernel
theorem dX7_surchargesOf_38 : decode cX7_surchargesOf 38 = .ok (.iinc 3 1, 3) := by decide +kernel
theorem dX7_surchargesOf_41 : decode cX7_surchargesOf 41 = .ok (.goto (-37), 3) := by decide +kernel
theorem dX7_surchargesOf_44 : decode cX7_surchargesOf 44 = .ok (.iload_n 2, 1) := by decide +kernel
theorem dX7_surchargesOf_45 : decode cX7_surchargesOf 45 = .ok (.ireturn, 1) := by decide +kernel
theorem dX8_init_0 : decode cX8_init 0 = .ok (.aload_n 0, 1) := by decide +kernel
theorem dX8_init_1 : decode cX8_init 1 = .ok (.invokespecial 3, 3) := by decide +kernel
theorem dX8_init_4 : decode cX8_init 4 = .ok (.aload_n 0, 1) := by decide +kernel
theorem dX8_init_5 : decode cX8_init 5 = .ok (.bipush 20, 2) := by decide +kernel
theorem dX8_init_7 : decode cX8_init 7 = .ok (.newarray .int, 2) := by decide +kernel
theorem dX8_init_9 : decode cX8_init 9 = .ok (.putfield 9, 3) := by decide +kernel
theorem dX8_init_12 : decode cX8_init 12 = .ok (.aload_n 0, 1) := by decide +kernel
theorem dX8_init_13 : decode cX8_init 13 = .ok (.bipush 20, 2) := by decide +kernel
theorem dX8_init_15 : decode cX8_init 15 = .ok (.newarray .int, 2) := by decide +kernel
theorem dX8_init_17 : decode cX8_init 17 = .ok (.putfield 15, 3) := by decide +kernel
theorem dX8_init_20 : decode cX8_init 20 = .ok (.aload_n 0, 1) := by decide +kernel
theorem dX8_init_21 : decode cX8_init 21 = .ok (.bipush 20, 2) := by decide +kernel
theorem dX8_init_23 : decode cX8_init 23 = .ok (.newarray .int, 2) := by decide +kernel
theorem dX8_init_25 : decode cX8_init 25 = .ok (.putfield 18, 3) := by decide +kernel
theorem dX8_init_28 : decode cX8_init 28 = .ok (.return_, 1) := by decide +kernel
theorem dX8_add_0 : decode cX8_add 0 = .ok (.aload_n 0, 1) := by decide +kernel
theorem dX8_add_1 : decode cX8_add 1 = .ok (.getfield 21, 3) := by decide +kernel
theorem dX8_add_4 : decode cX8_add 4 = .ok (.bipush 20, 2) := by decide +kernel
theorem dX8_add_6 : decode cX8_add 6 = .ok (.if_icmp .lt 5, 3) := by decide +kernel
theorem dX8_add_9 : decode cX8_add 9 = .ok (.iconst 0, 1) := by decide +kernel
theorem dX8_add_10 : decode cX8_add 10 = .ok (.ireturn, 1) := by decide +kernel
theorem dX8_add_11 : decode cX8_add 11 = .ok (.aload_n 0, 1) := by decide +kernel
theorem dX8_add_12 : decode cX8_add 12 = .ok (.getfield 9, 3) := by decide +kernel
theorem dX8_add_15 : decode cX8_add 15 = .ok (.aload_n 0, 1) := by decide +kernel
theorem dX8_add_16 : decode cX8_add 16 = .ok (.getfield 21, 3) := by decide +kernel
theorem dX8_add_19 : decode cX8_add 19 = .ok (.iload_n 1, 1) := by decide +kernel
theorem dX8_add_20 : decode cX8_add 20 = .ok (.iastore, 1) := by decide +kernel
theorem dX8_add_21 : decode cX8_add 21 = .ok (.aload_n 0, 1) := by decide +kernel
theorem dX8_add_22 : decode cX8_add 22 = .ok (.getfield 15, 3) := by decide +kernel
theorem dX8_add_25 : decode cX8_add 25 = .ok (.aload_n 0, 1) := by decide +kernel
theorem dX8_add_26 : decode cX8_add 26 = .ok (.getfield 21, 3) := by decide +kernel
theorem dX8_add_29 : decode cX8_add 29 = .ok (.iload_n 2, 1) := by decide +kernel
theorem dX8_add_30 : decode cX8_add 30 = .ok (.iastore, 1) := by decide +kernel
theorem dX8_add_31 : decode cX8_add 31 = .ok (.aload_n 0, 1) := by decide +kernel
theorem dX8_add_32 : decode cX8_add 32 = .ok (.getfield 18, 3) := by decide +kernel
theorem dX8_add_35 : decode cX8_add 35 = .ok (.aload_n 0, 1) := by decide +kernel
theorem dX8_add_36 : decode cX8_add 36 = .ok (.getfield 21, 3) := by decide +kernel
theorem dX8_add_39 : decode cX8_add 39 = .ok (.iload_n 3, 1) := by decide +kernel
theorem dX8_add_40 : decode cX8_add 40 = .ok (.iastore, 1) := by decide +kernel
theorem dX8_add_41 : decode cX8_add 41 = .ok (.aload_n 0, 1) := by decide +kernel
theorem dX8_add_42 : decode cX8_add 42 = .ok (.dup, 1) := by decide +kernel
theorem dX8_add_43 : decode cX8_add 43 = .ok (.getfield 25, 3) := by decide +kernel
theorem dX8_add_46 : decode cX8_add 46 = .ok (.iconst 1, 1) := by decide +kernel
theorem dX8_add_47 : decode cX8_add 47 = .ok (.aload_n 0, 1) := by decide +kernel
theorem dX8_add_48 : decode cX8_add 48 = .ok (.getfield 21, 3) := by decide +kernel
theorem dX8_add_51 : decode cX8_add 51 = .ok (.ishl, 1) := by decide +kernel
theorem dX8_add_52 : decode cX8_add 52 = .ok (.ior, 1) := by decide +kernel
theorem dX8_add_53 : decode cX8_add 53 = .ok (.putfield 25, 3) := by decide +kernel
theorem dX8_add_56 : decode cX8_add 56 = .ok (.aload_n 0, 1) := by decide +kernel
theorem dX8_add_57 : decode cX8_add 57 = .ok (.dup, 1) := by decide +kernel
theorem dX8_add_58 : decode cX8_add 58 = .ok (.getfield 21, 3) := by decide +kernel
theorem dX8_add_61 : decode cX8_add 61 = .ok (.iconst 1, 1) := by decide +kernel
theorem dX8_add_62 : decode cX8_add 62 = .ok (.iadd, 1) := by decide +kernel
theorem dX8_add_63 : decode cX8_add 63 = .ok (.putfield 21, 3) := by decide +kernel
theorem dX8_add_66 : decode cX8_add 66 = .ok (.iconst 1, 1) := by decide +kernel
theorem dX8_add_67 : decode cX8_add 67 = .ok (.ireturn, 1) := by decide +kernel
theorem dX8_areKeptBy_0 : decode cX8_areKeptBy 0 = .ok (.iconst 0, 1) := by decide +kernel
theorem dX8_areKeptBy_1 : decode cX8_areKeptBy 1 = .ok (.istore_n 2, 1) := by decide +kernel
theorem dX8_areKeptBy_2 : decode cX8_areKeptBy 2 = .ok (.iload_n 2, 1) := by decide +kernel
theorem dX8_areKeptBy_3 : decode cX8_areKeptBy 3 = .ok (.aload_n 0, 1) := by decide +kernel
theorem dX8_areKeptBy_4 : decode cX8_areKeptBy 4 = .ok (.getfield 21, 3) := by decide +kernel
theorem dX8_areKeptBy_7 : decode cX8_areKeptBy 7 = .ok (.if_icmp .ge 54, 3) := by decide +kernel
theorem dX8_areKeptBy_10 : decode cX8_areKeptBy 10 = .ok (.aload_n 0, 1) := by decide +kernel
theorem dX8_areKeptBy_11 : decode cX8_areKeptBy 11 = .ok (.getfield 25, 3) := by decide +kernel
theorem dX8_areKeptBy_14 : decode cX8_areKeptBy 14 = .ok (.iload_n 2, 1) := by decide +kernel
theorem dX8_areKeptBy_15 : decode cX8_areKeptBy 15 = .ok (.invokestatic 28, 3) := by decide +kernel
theorem dX8_areKeptBy_18 : decode cX8_areKeptBy 18 = .ok (.ifCond .eq 37, 3) := by decide +kernel
theorem dX8_areKeptBy_21 : decode cX8_areKeptBy 21 = .ok (.aload_n 0, 1) := by decide +kernel
theorem dX8_areKeptBy_22 : decode cX8_areKeptBy 22 = .ok (.getfield 9, 3) := by decide +kernel
theorem dX8_areKeptBy_25 : decode cX8_areKeptBy 25 = .ok (.iload_n 2, 1) := by decide +kernel
theorem dX8_areKeptBy_26 : decode cX8_areKeptBy 26 = .ok (.iaload, 1) := by decide +kernel
theorem dX8_areKeptBy_27 : decode cX8_areKeptBy 27 = .ok (.iload_n 1, 1) := by decide +kernel
theorem dX8_areKeptBy_28 : decode cX8_areKeptBy 28 = .ok (.aload_n 0, 1) := by decide +kernel
theorem dX8_areKeptBy_29 : decode cX8_areKeptBy 29 = .ok (.getfield 15, 3) := by decide +kernel
theorem dX8_areKeptBy_32 : decode cX8_areKeptBy 32 = .ok (.iload_n 2, 1) := by decide +kernel
theorem dX8_areKeptBy_33 : decode cX8_areKeptBy 33 = .ok (.iaload, 1) := by decide +kernel
theorem dX8_areKeptBy_34 : decode cX8_areKeptBy 34 = .ok (.invokestatic 28, 3) := by decide +kernel
theorem dX8_areKeptBy_37 : decode cX8_areKeptBy 37 = .ok (.iload_n 1, 1) := by decide +kernel
theorem dX8_areKeptBy_38 : decode cX8_areKeptBy 38 = .ok (.aload_n 0, 1) := by decide +kernel
theorem dX8_areKeptBy_39 : decode cX8_areKeptBy 39 = .ok (.getfield 18, 3) := by decide +kernel
theorem dX8_areKeptBy_42 : decode cX8_areKeptBy 42 = .ok (.iload_n 2, 1) := by decide +kernel
theorem dX8_areKeptBy_43 : decode cX8_areKeptBy 43 = .ok (.iaload, 1) := by decide +kernel
theorem dX8_areKeptBy_44 : decode cX8_areKeptBy 44 = .ok (.invokestatic 28, 3) := by decide +kernel
theorem dX8_areKeptBy_47 : decode cX8_areKeptBy 47 = .ok (.invokestatic 32, 3) := by decide +kernel
theorem dX8_areKeptBy_50 : decode cX8_areKeptBy 50 = .ok (.ifCond .ne 5, 3) := by decide +kernel
theorem dX8_areKeptBy_53 : decode cX8_areKeptBy 53 = .ok (.iconst 0, 1) := by decide +kernel
theorem dX8_areKeptBy_54 : decode cX8_areKeptBy 54 = .ok (.ireturn, 1) := by decide +kernel
theorem dX8_areKeptBy_55 : decode cX8_areKeptBy 55 = .ok (.iinc 2 1, 3) := by decide +kernel
theorem dX8_areKeptBy_58 : decode cX8_areKeptBy 58 = .ok (.goto (-56), 3) := by decide +kernel
theorem dX8_areKeptBy_61 : decode cX8_areKeptBy 61 = .ok (.iconst 1, 1) := by decide +kernel
theorem dX8_areKeptBy_62 : decode cX8_areKeptBy 62 = .ok (.ireturn, 1) := by decide +kernel
theorem dX8_isKept_0 : decode cX8_isKept 0 = .ok (.iload_n 0, 1) := by decide +kernel
theorem dX8_isKept_1 : decode cX8_isKept 1 = .ok (.lookupswitch 55 #[(0, 27), (1, 41)], 27) := by decide +kernel
theorem dX8_isKept_28 : decode cX8_isKept 28 = .ok (.iload_n 1, 1) := by decide +kernel
theorem dX8_isKept_29 : decode cX8_isKept 29 = .ok (.ifCond .eq 7, 3) := by decide +kernel
theorem dX8_isKept_32 : decode cX8_isKept 32 = .ok (.iload_n 2, 1) := by decide +kernel
theorem dX8_isKept_33 : decode cX8_isKept 33 = .ok (.ifCond .ne 7, 3) := by decide +kernel
theorem dX8_isKept_36 : decode cX8_isKept 36 = .ok (.iconst 1, 1) := by decide +kernel
theorem dX8_isKept_37 : decode cX8_isKept 37 = .ok (.goto 4, 3) := by decide +kernel
theorem dX8_isKept_40 : decode cX8_isKept 40 = .ok (.iconst 0, 1) := by decide +kernel
theorem dX8_isKept_41 : decode cX8_isKept 41 = .ok (.ireturn, 1) := by decide +kernel
theorem dX8_isKept_42 : decode cX8_isKept 42 = .ok (.iload_n 1, 1) := by decide +kernel
theorem dX8_isKept_43 : decode cX8_isKept 43 = .ok (.ifCond .eq 7, 3) := by decide +kernel
theorem dX8_isKept_46 : decode cX8_isKept 46 = .ok (.iload_n 2, 1) := by decide +kernel
theorem dX8_isKept_47 : decode cX8_isKept 47 = .ok (.ifCond .eq 7, 3) := by decide +kernel
theorem dX8_isKept_50 : decode cX8_isKept 50 = .ok (.iconst 1, 1) := by decide +kernel
theorem dX8_isKept_51 : decode cX8_isKept 51 = .ok (.goto 4, 3) := by decide +kernel
theorem dX8_isKept_54 : decode cX8_isKept 54 = .ok (.iconst 0, 1) := by decide +kernel
theorem dX8_isKept_55 : decode cX8_isKept 55 = .ok (.ireturn, 1) := by decide +kernel
theorem dX8_isKept_56 : decode cX8_isKept 56 = .ok (.iload_n 1, 1) := by decide +kernel
theorem dX8_isKept_57 : decode cX8_isKept 57 = .ok (.iload_n 2, 1) := by decide +kernel
theorem dX8_isKept_58 : decode cX8_isKept 58 = .ok (.if_icmp .ne 7, 3) := by decide +kernel
theorem dX8_isKept_61 : decode cX8_isKept 61 = .ok (.iconst 1, 1) := by decide +kernel
theorem dX8_isKept_62 : decode cX8_isKept 62 = .ok (.goto 4, 3) := by decide +kernel
theorem dX8_isKept_65 : decode cX8_isKept 65 = .ok (.iconst 0, 1) := by decide +kernel
theorem dX8_isKept_66 : decode cX8_isKept 66 = .ok (.ireturn, 1) := by decide +kernel
theorem dX9_init_0 : decode cX9_init 0 = .ok (.aload_n 0, 1) := by decide +kernel
theorem dX9_init_1 : decode cX9_init 1 = .ok (.invokespecial 1, 3) := by decide +kernel
theorem dX9_init_4 : decode cX9_init 4 = .ok (.aload_n 0, 1) := by decide +kernel
theorem dX9_init_5 : decode cX9_init 5 = .ok (.new 7, 3) := by decide +kernel
theorem dX9_init_8 : decode cX9_init 8 = .ok (.dup, 1) := by decide +kernel
theorem dX9_init_9 : decode cX9_init 9 = .ok (.invokespecial 9, 3) := by decide +kernel
theorem dX9_init_12 : decode cX9_init 12 = .ok (.putfield 10, 3) := by decide +kernel
theorem dX9_init_15 : decode cX9_init 15 = .ok (.aload_n 0, 1) := by decide +kernel
theorem dX9_init_16 : decode cX9_init 16 = .ok (.new 16, 3) := by decide +kernel
theorem dX9_init_19 : decode cX9_init 19 = .ok (.dup, 1) := by decide +kernel
theorem dX9_init_20 : decode cX9_init 20 = .ok (.invokespecial 18, 3) := by decide +kernel
theorem dX9_init_23 : decode cX9_init 23 = .ok (.putfield 19, 3) := by decide +kernel
theorem dX9_init_26 : decode cX9_init 26 = .ok (.aload_n 0, 1) := by decide +kernel
theorem dX9_init_27 : decode cX9_init 27 = .ok (.new 23, 3) := by decide +kernel
theorem dX9_init_30 : decode cX9_init 30 = .ok (.dup, 1) := by decide +kernel
theorem dX9_init_31 : decode cX9_init 31 = .ok (.invokespecial 25, 3) := by decide +kernel
theorem dX9_init_34 : decode cX9_init 34 = .ok (.putfield 26, 3) := by decide +kernel
theorem dX9_init_37 : decode cX9_init 37 = .ok (.aload_n 0, 1) := by decide +kernel
theorem dX9_init_38 : decode cX9_init 38 = .ok (.new 30, 3) := by decide +kernel
theorem dX9_init_41 : decode cX9_init 41 = .ok (.dup, 1) := by decide +kernel
theorem dX9_init_42 : decode cX9_init 42 = .ok (.invokespecial 32, 3) := by decide +kernel
theorem dX9_init_45 : decode cX9_init 45 = .ok (.putfield 33, 3) := by decide +kernel
theorem dX9_init_48 : decode cX9_init 48 = .ok (.aload_n 0, 1) := by decide +kernel
theorem dX9_init_49 : decode cX9_init 49 = .ok (.new 37, 3) := by decide +kernel
theorem dX9_init_52 : decode cX9_init 52 = .ok (.dup, 1) := by decide +kernel
theorem dX9_init_53 : decode cX9_init 53 = .ok (.invokespecial 39, 3) := by decide +kernel
theorem dX9_init_56 : decode cX9_init 56 = .ok (.putfield 40, 3) := by decide +kernel
theorem dX9_init_59 : decode cX9_init 59 = .ok (.aload_n 0, 1) := by decide +kernel
theorem dX9_init_60 : decode cX9_init 60 = .ok (.new 44, 3) := by decide +kernel
theorem dX9_init_63 : decode cX9_init 63 = .ok (.dup, 1) := by decide +kernel
theorem dX9_init_64 : decode cX9_init 64 = .ok (.invokespecial 46, 3) := by decide +kernel
theorem dX9_init_67 : decode cX9_init 67 = .ok (.putfield 47, 3) := by decide +kernel
theorem dX9_init_70 : decode cX9_init 70 = .ok (.aload_n 0, 1) := by decide +kernel
theorem dX9_init_71 : decode cX9_init 71 = .ok (.new 44, 3) := by decide +kernel
theorem dX9_init_74 : decode cX9_init 74 = .ok (.dup, 1) := by decide +kernel
theorem dX9_init_75 : decode cX9_init 75 = .ok (.invokespecial 46, 3) := by decide +kernel
theorem dX9_init_78 : decode cX9_init 78 = .ok (.putfield 51, 3) := by decide +kernel
theorem dX9_init_81 : decode cX9_init 81 = .ok (.aload_n 0, 1) := by decide +kernel
theorem dX9_init_82 : decode cX9_init 82 = .ok (.new 54, 3) := by decide +kernel
theorem dX9_init_85 : decode cX9_init 85 = .ok (.dup, 1) := by decide +kernel
theorem dX9_init_86 : decode cX9_init 86 = .ok (.invokespecial 56, 3) := by decide +kernel
theorem dX9_init_89 : decode cX9_init 89 = .ok (.putfield 57, 3) := by decide +kernel
theorem dX9_init_92 : decode cX9_init 92 = .ok (.aload_n 0, 1) := by decide +kernel
theorem dX9_init_93 : decode cX9_init 93 = .ok (.new 61, 3) := by decide +kernel
theorem dX9_init_96 : decode cX9_init 96 = .ok (.dup, 1) := by decide +kernel
theorem dX9_init_97 : decode cX9_init 97 = .ok (.invokespecial 63, 3) := by decide +kernel
theorem dX9_init_100 : decode cX9_init 100 = .ok (.putfield 64, 3) := by decide +kernel
theorem dX9_init_103 : decode cX9_init 103 = .ok (.aload_n 0, 1) := by decide +kernel
theorem dX9_init_104 : decode cX9_init 104 = .ok (.new 68, 3) := by decide +kernel
theorem dX9_init_107 : decode cX9_init 107 = .ok (.dup, 1) := by decide +kernel
theorem dX9_init_108 : decode cX9_init 108 = .ok (.invokespecial 70, 3) := by decide +kernel
theorem dX9_init_111 : decode cX9_init 111 = .ok (.putfield 71, 3) := by decide +kernel
theorem dX9_init_114 : decode cX9_init 114 = .ok (.return_, 1) := by decide +kernel
theorem dX9_addFeature_0 : decode cX9_addFeature 0 = .ok (.iload_n 1, 1) := by decide +kernel
theorem dX9_addFeature_1 : decode cX9_addFeature 1 = .ok (.iconst 2, 1) := by decide +kernel
theorem dX9_addFeature_2 : decode cX9_addFeature 2 = .ok (.if_icmp .lt 8, 3) := by decide +kernel
theorem dX9_addFeature_5 : decode cX9_addFeature 5 = .ok (.iload_n 1, 1) := by decide +kernel
theorem dX9_addFeature_6 : decode cX9_addFeature 6 = .ok (.iconst 5, 1) := by decide +kernel
theorem dX9_addFeature_7 : decode cX9_addFeature 7 = .ok (.if_icmp .le 13, 3) := by decide +kernel
theorem dX9_addFeature_10 : decode cX9_addFeature 10 = .ok (.new 75, 3) := by decide +kernel
theorem dX9_addFeature_13 : decode cX9_addFeature 13 = .ok (.dup, 1) := by decide +kernel
theorem dX9_addFeature_14 : decode cX9_addFeature 14 = .ok (.ldc 77, 2) := by decide +kernel
theorem dX9_addFeature_16 : decode cX9_addFeature 16 = .ok (.invokespecial 79, 3) := by decide +kernel
theorem dX9_addFeature_19 : decode cX9_addFeature 19 = .ok (.athrow, 1) := by decide +kernel
theorem dX9_addFeature_20 : decode cX9_addFeature 20 = .ok (.aload_n 0, 1) := by decide +kernel
theorem dX9_addFeature_21 : decode cX9_addFeature 21 = .ok (.getfield 10, 3) := by decide +kernel
theorem dX9_addFeature_24 : decode cX9_addFeature 24 = .ok (.iload_n 1, 1) := by decide +kernel
theorem dX9_addFeature_25 : decode cX9_addFeature 25 = .ok (.invokevirtual 82, 3) := by decide +kernel
theorem dX9_addFeature_28 : decode cX9_addFeature 28 = .ok (.ifCond .ne 13, 3) := by decide +kernel
theorem dX9_addFeature_31 : decode cX9_addFeature 31 = .ok (.new 86, 3) := by decide +kernel
theorem dX9_addFeature_34 : decode cX9_addFeature 34 = .ok (.dup, 1) := by decide +kernel
theorem dX9_addFeature_35 : decode cX9_addFeature 35 = .ok (.ldc 88, 2) := by decide +kernel
theorem dX9_addFeature_37 : decode cX9_addFeature 37 = .ok (.invokespecial 90, 3) := by decide +kernel
theorem dX9_addFeature_40 : decode cX9_addFeature 40 = .ok (.athrow, 1) := by decide +kernel
theorem dX9_addFeature_41 : decode cX9_addFeature 41 = .ok (.aload_n 0, 1) := by decide +kernel
theorem dX9_addFeature_42 : decode cX9_addFeature 42 = .ok (.getfield 10, 3) := by decide +kernel
theorem dX9_addFeature_45 : decode cX9_addFeature 45 = .ok (.getfield 91, 3) := by decide +kernel
theorem dX9_addFeature_48 : decode cX9_addFeature 48 = .ok (.iconst 1, 1) := by decide +kernel
theorem dX9_addFeature_49 : decode cX9_addFeature 49 = .ok (.isub, 1) := by decide +kernel
theorem dX9_addFeature_50 : decode cX9_addFeature 50 = .ok (.ireturn, 1) := by decide +kernel
theorem dX9_addRule_0 : decode cX9_addRule 0 = .ok (.aload_n 0, 1) := by decide +kernel
theorem dX9_addRule_1 : decode cX9_addRule 1 = .ok (.iload_n 2, 1) := by decide +kernel
theorem dX9_addRule_2 : decode cX9_addRule 2 = .ok (.iload_n 3, 1) := by decide +kernel
theorem dX9_addRule_3 : decode cX9_addRule 3 = .ok (.invokevirtual 95, 3) := by decide +kernel
theorem dX9_addRule_6 : decode cX9_addRule 6 = .ok (.aload_n 0, 1) := by decide +kernel
theorem dX9_addRule_7 : decode cX9_addRule 7 = .ok (.iload 4, 2) := by decide +kernel
theorem dX9_addRule_9 : decode cX9_addRule 9 = .ok (.iload 5, 2) := by decide +kernel
theorem dX9_addRule_11 : decode cX9_addRule 11 = .ok (.invokevirtual 95, 3) := by decide +kernel
theorem dX9_addRule_14 : decode cX9_addRule 14 = .ok (.iload_n 1, 1) := by decide +kernel
theorem dX9_addRule_15 : decode cX9_addRule 15 = .ok (.ifCond .lt 8, 3) := by decide +kernel
theorem dX9_addRule_18 : decode cX9_addRule 18 = .ok (.iload_n 1, 1) := by decide +kernel
theorem dX9_addRule_19 : decode cX9_addRule 19 = .ok (.iconst 2, 1) := by decide +kernel
theorem dX9_addRule_20 : decode cX9_addRule 20 = .ok (.if_icmp .le 13, 3) := by decide +kernel
theorem dX9_addRule_23 : decode cX9_addRule 23 = .ok (.new 75, 3) := by decide +kernel
theorem dX9_addRule_26 : decode cX9_addRule 26 = .ok (.dup, 1) := by decide +kernel
theorem dX9_addRule_27 : decode cX9_addRule 27 = .ok (.ldc 99, 2) := by decide +kernel
theorem dX9_addRule_29 : decode cX9_addRule 29 = .ok (.invokespecial 79, 3) := by decide +kernel
theorem dX9_addRule_32 : decode cX9_addRule 32 = .ok (.athrow, 1) := by decide +kernel
theorem dX9_addRule_33 : decode cX9_addRule 33 = .ok (.aload_n 0, 1) := by decide +kernel
theorem dX9_addRule_34 : decode cX9_addRule 34 = .ok (.iload_n 2, 1) := by decide +kernel
theorem dX9_addRule_35 : decode cX9_addRule 35 = .ok (.iload 4, 2) := by decide +kernel
theorem dX9_addRule_37 : decode cX9_addRule 37 = .ok (.invokevirtual 101, 3) := by decide +kernel
theorem dX9_addRule_40 : decode cX9_addRule 40 = .ok (.iload_n 2, 1) := by decide +kernel
theorem dX9_addRule_41 : decode cX9_addRule 41 = .ok (.iload_n 3, 1) := by decide +kernel
theorem dX9_addRule_42 : decode cX9_addRule 42 = .ok (.invokestatic 104, 3) := by decide +kernel
theorem dX9_addRule_45 : decode cX9_addRule 45 = .ok (.istore 6, 2) := by decide +kernel
theorem dX9_addRule_47 : decode cX9_addRule 47 = .ok (.iload 4, 2) := by decide +kernel
theorem dX9_addRule_49 : decode cX9_addRule 49 = .ok (.iload 5, 2) := by decide +kernel
theorem dX9_addRule_51 : decode cX9_addRule 51 = .ok (.invokestatic 104, 3) := by decide +kernel
theorem dX9_addRule_54 : decode cX9_addRule 54 = .ok (.istore 7, 2) := by decide +kernel
theorem dX9_addRule_56 : decode cX9_addRule 56 = .ok (.aload_n 0, 1) := by decide +kernel
theorem dX9_addRule_57 : decode cX9_addRule 57 = .ok (.getfield 51, 3) := by decide +kernel
theorem dX9_addRule_60 : decode cX9_addRule 60 = .ok (.aload_n 0, 1) := by decide +kernel
theorem dX9_addRule_61 : decode cX9_addRule 61 = .ok (.getfield 19, 3) := by decide +kernel
theorem dX9_addRule_64 : decode cX9_addRule 64 = .ok (.aload_n 0, 1) := by decide +kernel
theorem dX9_addRule_65 : decode cX9_addRule 65 = .ok (.getfield 19, 3) := by decide +kernel
theorem dX9_addRule_68 : decode cX9_addRule 68 = .ok (.getfield 108, 3) := by decide +kernel
theorem dX9_addRule_71 : decode cX9_addRule 71 = .ok (.invokevirtual 111, 3) := by decide +kernel
theorem dX9_addRule_74 : decode cX9_addRule 74 = .ok (.aload_n 0, 1) := by decide +kernel
theorem dX9_addRule_75 : decode cX9_addRule 75 = .ok (.getfield 51, 3) := by decide +kernel
theorem dX9_addRule_78 : decode cX9_addRule 78 = .ok (.iload_n 1, 1) := by decide +kernel
theorem dX9_addRule_79 : decode cX9_addRule 79 = .ok (.iload 6, 2) := by decide +kernel
theorem dX9_addRule_81 : decode cX9_addRule 81 = .ok (.iload 7, 2) := by decide +kernel
theorem dX9_addRule_83 : decode cX9_addRule 83 = .ok (.invokevirtual 115, 3) := by decide +kernel
theorem dX9_addRule_86 : decode cX9_addRule 86 = .ok (.aload_n 0, 1) := by decide +kernel
theorem dX9_addRule_87 : decode cX9_addRule 87 = .ok (.aload_n 0, 1) := by decide +kernel
theorem dX9_addRule_88 : decode cX9_addRule 88 = .ok (.getfield 51, 3) := by decide +kernel
theorem dX9_addRule_91 : decode cX9_addRule 91 = .ok (.invokevirtual 119, 3) := by decide +kernel
theorem dX9_addRule_94 : decode cX9_addRule 94 = .ok (.aload_n 0, 1) := by decide +kernel
theorem dX9_addRule_95 : decode cX9_addRule 95 = .ok (.getfield 19, 3) := by decide +kernel
theorem dX9_addRule_98 : decode cX9_addRule 98 = .ok (.iload_n 1, 1) := by decide +kernel
theorem dX9_addRule_99 : decode cX9_addRule 99 = .ok (.iload 6, 2) := by decide +kernel
theorem dX9_addRule_101 : decode cX9_addRule 101 = .ok (.iload 7, 2) := by decide +kernel
theorem dX9_addRule_103 : decode cX9_addRule 103 = .ok (.invokevirtual 123, 3) := by decide +kernel
theorem dX9_addRule_106 : decode cX9_addRule 106 = .ok (.ifCond .ne 13, 3) := by decide +kernel
theorem dX9_addRule_109 : decode cX9_addRule 109 = .ok (.new 86, 3) := by decide +kernel
theorem dX9_addRule_112 : decode cX9_addRule 112 = .ok (.dup, 1) := by decide +kernel
theorem dX9_addRule_113 : decode cX9_addRule 113 = .ok (.ldc 126, 2) := by decide +kernel
theorem dX9_addRule_115 : decode cX9_addRule 115 = .ok (.invokespecial 90, 3) := by decide +kernel
theorem dX9_addRule_118 : decode cX9_addRule 118 = .ok (.athrow, 1) := by decide +kernel
theorem dX9_addRule_119 : decode cX9_addRule 119 = .ok (.aload_n 0, 1) := by decide +kernel
theorem dX9_addRule_120 : decode cX9_addRule 120 = .ok (.getfield 47, 3) := by decide +kernel
theorem dX9_addRule_123 : decode cX9_addRule 123 = .ok (.aload_n 0, 1) := by decide +kernel
theorem dX9_addRule_124 : decode cX9_addRule 124 = .ok (.getfield 19, 3) := by decide +kernel
theorem dX9_addRule_127 : decode cX9_addRule 127 = .ok (.aload_n 0, 1) := by decide +kernel
theorem dX9_addRule_128 : decode cX9_addRule 128 = .ok (.getfield 19, 3) := by decide +kernel
theorem dX9_addRule_131 : decode cX9_addRule 131 = .ok (.getfield 108, 3) := by decide +kernel
theorem dX9_addRule_134 : decode cX9_addRule 134 = .ok (.invokevirtual 111, 3) := by decide +kernel
theorem dX9_addRule_137 : decode cX9_addRule 137 = .ok (.aload_n 0, 1) := by decide +kernel
theorem dX9_addRule_138 : decode cX9_addRule 138 = .ok (.getfield 19, 3) := by decide +kernel
theorem dX9_addRule_141 : decode cX9_addRule 141 = .ok (.getfield 128, 3) := by decide +kernel
theorem dX9_addRule_144 : decode cX9_addRule 144 = .ok (.iconst 1, 1) := by decide +kernel
theorem dX9_addRule_145 : decode cX9_addRule 145 = .ok (.isub, 1) := by decide +kernel
theorem dX9_addRule_146 : decode cX9_addRule 146 = .ok (.ireturn, 1) := by decide +kernel
theorem dX9_switchRule_0 : decode cX9_switchRule 0 = .ok (.aload_n 0, 1) := by decide +kernel
theorem dX9_switchRule_1 : decode cX9_switchRule 1 = .ok (.iload_n 1, 1) := by decide +kernel
theorem dX9_switchRule_2 : decode cX9_switchRule 2 = .ok (.invokevirtual 129, 3) := by decide +kernel
theorem dX9_switchRule_5 : decode cX9_switchRule 5 = .ok (.aload_n 0, 1) := by decide +kernel
theorem dX9_switchRule_6 : decode cX9_switchRule 6 = .ok (.getfield 19, 3) := by decide +kernel
theorem dX9_switchRule_9 : decode cX9_switchRule 9 = .ok (.getfield 108, 3) := by decide +kernel
theorem dX9_switchRule_12 : decode cX9_switchRule 12 = .ok (.iload_n 1, 1) := by decide +kernel
theorem dX9_switchRule_13 : decode cX9_switchRule 13 = .ok (.invokestatic 133, 3) := by decide +kernel
theorem dX9_switchRule_16 : decode cX9_switchRule 16 = .ok (.istore_n 3, 1) := by decide +kernel
theorem dX9_switchRule_17 : decode cX9_switchRule 17 = .ok (.iload_n 2, 1) := by decide +kernel
theorem dX9_switchRule_18 : decode cX9_switchRule 18 = .ok (.ifCond .eq 17, 3) := by decide +kernel
theorem dX9_switchRule_21 : decode cX9_switchRule 21 = .ok (.aload_n 0, 1) := by decide +kernel
theorem dX9_switchRule_22 : decode cX9_switchRule 22 = .ok (.getfield 19, 3) := by decide +kernel
theorem dX9_switchRule_25 : decode cX9_switchRule 25 = .ok (.getfield 108, 3) := by decide +kernel
theorem dX9_switchRule_28 : decode cX9_switchRule 28 = .ok (.iconst 1, 1) := by decide +kernel
theorem dX9_switchRule_29 : decode cX9_switchRule 29 = .ok (.iload_n 1, 1) := by decide +kernel
theorem dX9_switchRule_30 : decode cX9_switchRule 30 = .ok (.ishl, 1) := by decide +kernel
theorem dX9_switchRule_31 : decode cX9_switchRule 31 = .ok (.ior, 1) := by decide +kernel
theorem dX9_switchRule_32 : decode cX9_switchRule 32 = .ok (.goto 16, 3) := by decide +kernel
theorem dX9_switchRule_35 : decode cX9_switchRule 35 = .ok (.aload_n 0, 1) := by decide +kernel
theorem dX9_switchRule_36 : decode cX9_switchRule 36 = .ok (.getfield 19, 3) := by decide +kernel
theorem dX9_switchRule_39 : decode cX9_switchRule 39 = .ok (.getfield 108, 3) := by decide +kernel
theorem dX9_switchRule_42 : decode cX9_switchRule 42 = .ok (.iconst 1, 1) := by decide +kernel
theorem dX9_switchRule_43 : decode cX9_switchRule 43 = .ok (.iload_n 1, 1) := by decide +kernel
theorem dX9_switchRule_44 : decode cX9_switchRule 44 = .ok (.ishl, 1) := by decide +kernel
theorem dX9_switchRule_45 : decode cX9_switchRule 45 = .ok (.iconst (-1), 1) := by decide +kernel
theorem dX9_switchRule_46 : decode cX9_switchRule 46 = .ok (.ixor, 1) := by decide +kernel
theorem dX9_switchRule_47 : decode cX9_switchRule 47 = .ok (.iand, 1) := by decide +kernel
theorem dX9_switchRule_48 : decode cX9_switchRule 48 = .ok (.istore 4, 2) := by decide +kernel
theorem dX9_switchRule_50 : decode cX9_switchRule 50 = .ok (.aload_n 0, 1) := by decide +kernel
theorem dX9_switchRule_51 : decode cX9_switchRule 51 = .ok (.getfield 51, 3) := by decide +kernel
theorem dX9_switchRule_54 : decode cX9_switchRule 54 = .ok (.aload_n 0, 1) := by decide +kernel
theorem dX9_switchRule_55 : decode cX9_switchRule 55 = .ok (.getfield 19, 3) := by decide +kernel
theorem dX9_switchRule_58 : decode cX9_switchRule 58 = .ok (.iload 4, 2) := by decide +kernel
theorem dX9_switchRule_60 : decode cX9_switchRule 60 = .ok (.invokevirtual 111, 3) := by decide +kernel
theorem dX9_switchRule_63 : decode cX9_switchRule 63 = .ok (.aload_n 0, 1) := by decide +kernel
theorem dX9_switchRule_64 : decode cX9_switchRule 64 = .ok (.aload_n 0, 1) := by decide +kernel
theorem dX9_switchRule_65 : decode cX9_switchRule 65 = .ok (.getfield 51, 3) := by decide +kernel
theorem dX9_switchRule_68 : decode cX9_switchRule 68 = .ok (.invokevirtual 119, 3) := by decide +kernel
theorem dX9_switchRule_71 : decode cX9_switchRule 71 = .ok (.aload_n 0, 1) := by decide +kernel
theorem dX9_switchRule_72 : decode cX9_switchRule 72 = .ok (.getfield 19, 3) := by decide +kernel
theorem dX9_switchRule_75 : decode cX9_switchRule 75 = .ok (.iload 4, 2) := by decide +kernel
theorem dX9_switchRule_77 : decode cX9_switchRule 77 = .ok (.putfield 108, 3) := by decide +kernel
theorem dX9_switchRule_80 : decode cX9_switchRule 80 = .ok (.aload_n 0, 1) := by decide +kernel
theorem dX9_switchRule_81 : decode cX9_switchRule 81 = .ok (.getfield 47, 3) := by decide +kernel
theorem dX9_switchRule_84 : decode cX9_switchRule 84 = .ok (.aload_n 0, 1) := by decide +kernel
theorem dX9_switchRule_85 : decode cX9_switchRule 85 = .ok (.getfield 19, 3) := by decide +kernel
theorem dX9_switchRule_88 : decode cX9_switchRule 88 = .ok (.iload 4, 2) := by decide +kernel
theorem dX9_switchRule_90 : decode cX9_switchRule 90 = .ok (.invokevirtual 111, 3) := by decide +kernel
theorem dX9_switchRule_93 : decode cX9_switchRule 93 = .ok (.iload_n 3, 1) := by decide +kernel
theorem dX9_switchRule_94 : decode cX9_switchRule 94 = .ok (.ireturn, 1) := by decide +kernel
theorem dX9_setPrice_0 : decode cX9_setPrice 0 = .ok (.aload_n 0, 1) := by decide +kernel
theorem dX9_setPrice_1 : decode cX9_setPrice 1 = .ok (.iload_n 1, 1) := by decide +kernel
theorem dX9_setPrice_2 : decode cX9_setPrice 2 = .ok (.iload_n 2, 1) := by decide +kernel
theorem dX9_setPrice_3 : decode cX9_setPrice 3 = .ok (.invokevirtual 95, 3) := by decide +kernel
theorem dX9_setPrice_6 : decode cX9_setPrice 6 = .ok (.iload_n 3, 1) := by decide +kernel
theorem dX9_setPrice_7 : decode cX9_setPrice 7 = .ok (.ifCond .lt 10, 3) := by decide +kernel
theorem dX9_setPrice_10 : decode cX9_setPrice 10 = .ok (.iload_n 3, 1) := by decide +kernel
theorem dX9_setPrice_11 : decode cX9_setPrice 11 = .ok (.sipush 1000, 3) := by decide +kernel
theorem dX9_setPrice_14 : decode cX9_setPrice 14 = .ok (.if_icmp .le 13, 3) := by decide +kernel
theorem dX9_setPrice_17 : decode cX9_setPrice 17 = .ok (.new 75, 3) := by decide +kernel
theorem dX9_setPrice_20 : decode cX9_setPrice 20 = .ok (.dup, 1) := by decide +kernel
theorem dX9_setPrice_21 : decode cX9_setPrice 21 = .ok (.ldc 137, 2) := by decide +kernel
theorem dX9_setPrice_23 : decode cX9_setPrice 23 = .ok (.invokespecial 79, 3) := by decide +kernel
theorem dX9_setPrice_26 : decode cX9_setPrice 26 = .ok (.athrow, 1) := by decide +kernel
theorem dX9_setPrice_27 : decode cX9_setPrice 27 = .ok (.iload_n 1, 1) := by decide +kernel
theorem dX9_setPrice_28 : decode cX9_setPrice 28 = .ok (.iload_n 2, 1) := by decide +kernel
theorem dX9_setPrice_29 : decode cX9_setPrice 29 = .ok (.invokestatic 104, 3) := by decide +kernel
theorem dX9_setPrice_32 : decode cX9_setPrice 32 = .ok (.istore 4, 2) := by decide +kernel
theorem dX9_setPrice_34 : decode cX9_setPrice 34 = .ok (.aload_n 0, 1) := by decide +kernel
theorem dX9_setPrice_35 : decode cX9_setPrice 35 = .ok (.getfield 26, 3) := by decide +kernel
theorem dX9_setPrice_38 : decode cX9_setPrice 38 = .ok (.getfield 139, 3) := by decide +kernel
theorem dX9_setPrice_41 : decode cX9_setPrice 41 = .ok (.iload 4, 2) := by decide +kernel
theorem dX9_setPrice_43 : decode cX9_setPrice 43 = .ok (.iaload, 1) := by decide +kernel
theorem dX9_setPrice_44 : decode cX9_setPrice 44 = .ok (.istore 5, 2) := by decide +kernel
theorem dX9_setPrice_46 : decode cX9_setPrice 46 = .ok (.aload_n 0, 1) := by decide +kernel
theorem dX9_setPrice_47 : decode cX9_setPrice 47 = .ok (.getfield 26, 3) := by decide +kernel
theorem dX9_setPrice_50 : decode cX9_setPrice 50 = .ok (.getfield 139, 3) := by decide +kernel
theorem dX9_setPrice_53 : decode cX9_setPrice 53 = .ok (.iload 4, 2) := by decide +kernel
theorem dX9_setPrice_55 : decode cX9_setPrice 55 = .ok (.iload_n 3, 1) := by decide +kernel
theorem dX9_setPrice_56 : decode cX9_setPrice 56 = .ok (.iastore, 1) := by decide +kernel
theorem dX9_setPrice_57 : decode cX9_setPrice 57 = .ok (.iload 5, 2) := by decide +kernel
theorem dX9_setPrice_59 : decode cX9_setPrice 59 = .ok (.ireturn, 1) := by decide +kernel
theorem dX9_addSurcharge_0 : decode cX9_addSurcharge 0 = .ok (.aload_n 0, 1) := by decide +kernel
theorem dX9_addSurcharge_1 : decode cX9_addSurcharge 1 = .ok (.iload_n 1, 1) := by decide +kernel
theorem dX9_addSurcharge_2 : decode cX9_addSurcharge 2 = .ok (.iload_n 2, 1) := by decide +kernel
theorem dX9_addSurcharge_3 : decode cX9_addSurcharge 3 = .ok (.invokevirtual 95, 3) := by decide +kernel
theorem dX9_addSurcharge_6 : decode cX9_addSurcharge 6 = .ok (.aload_n 0, 1) := by decide +kernel
theorem dX9_addSurcharge_7 : decode cX9_addSurcharge 7 = .ok (.iload_n 3, 1) := by decide +kernel
theorem dX9_addSurcharge_8 : decode cX9_addSurcharge 8 = .ok (.iload 4, 2) := by decide +kernel
theorem dX9_addSurcharge_10 : decode cX9_addSurcharge 10 = .ok (.invokevirtual 95, 3) := by decide +kernel
theorem dX9_addSurcharge_13 : decode cX9_addSurcharge 13 = .ok (.aload_n 0, 1) := by decide +kernel
theorem dX9_addSurcharge_14 : decode cX9_addSurcharge 14 = .ok (.iload_n 1, 1) := by decide +kernel
theorem dX9_addSurcharge_15 : decode cX9_addSurcharge 15 = .ok (.iload_n 3, 1) := by decide +kernel
theorem dX9_addSurcharge_16 : decode cX9_addSurcharge 16 = .ok (.invokevirtual 101, 3) := by decide +kernel
theorem dX9_addSurcharge_19 : decode cX9_addSurcharge 19 = .ok (.iload 5, 2) := by decide +kernel
theorem dX9_addSurcharge_21 : decode cX9_addSurcharge 21 = .ok (.sipush (-500), 3) := by decide +kernel
theorem dX9_addSurcharge_24 : decode cX9_addSurcharge 24 = .ok (.if_icmp .lt 11, 3) := by decide +kernel
theorem dX9_addSurcharge_27 : decode cX9_addSurcharge 27 = .ok (.iload 5, 2) := by decide +kernel
theorem dX9_addSurcharge_29 : decode cX9_addSurcharge 29 = .ok (.sipush 500, 3) := by decide +kernel
theorem dX9_addSurcharge_32 : decode cX9_addSurcharge 32 = .ok (.if_icmp .le 13, 3) := by decide +kernel
theorem dX9_addSurcharge_35 : decode cX9_addSurcharge 35 = .ok (.new 75, 3) := by decide +kernel
theorem dX9_addSurcharge_38 : decode cX9_addSurcharge 38 = .ok (.dup, 1) := by decide +kernel
theorem dX9_addSurcharge_39 : decode cX9_addSurcharge 39 = .ok (.ldc 143, 2) := by decide +kernel
theorem dX9_addSurcharge_41 : decode cX9_addSurcharge 41 = .ok (.invokespecial 79, 3) := by decide +kernel
theorem dX9_addSurcharge_44 : decode cX9_addSurcharge 44 = .ok (.athrow, 1) := by decide +kernel
theorem dX9_addSurcharge_45 : decode cX9_addSurcharge 45 = .ok (.iconst 1, 1) := by decide +kernel
theorem dX9_addSurcharge_46 : decode cX9_addSurcharge 46 = .ok (.iload_n 1, 1) := by decide +kernel
theorem dX9_addSurcharge_47 : decode cX9_addSurcharge 47 = .ok (.iload_n 2, 1) := by decide +kernel
theorem dX9_addSurcharge_48 : decode cX9_addSurcharge 48 = .ok (.invokestatic 104, 3) := by decide +kernel
theorem dX9_addSurcharge_51 : decode cX9_addSurcharge 51 = .ok (.ishl, 1) := by decide +kernel
theorem dX9_addSurcharge_52 : decode cX9_addSurcharge 52 = .ok (.iconst 1, 1) := by decide +kernel
theorem dX9_addSurcharge_53 : decode cX9_addSurcharge 53 = .ok (.iload_n 3, 1) := by decide +kernel
theorem dX9_addSurcharge_54 : decode cX9_addSurcharge 54 = .ok (.iload 4, 2) := by decide +kernel
theorem dX9_addSurcharge_56 : decode cX9_addSurcharge 56 = .ok (.invokestatic 104, 3) := by decide +kernel
theorem dX9_addSurcharge_59 : decode cX9_addSurcharge 59 = .ok (.ishl, 1) := by decide +kernel
theorem dX9_addSurcharge_60 : decode cX9_addSurcharge 60 = .ok (.ior, 1) := by decide +kernel
theorem dX9_addSurcharge_61 : decode cX9_addSurcharge 61 = .ok (.istore 6, 2) := by decide +kernel
theorem dX9_addSurcharge_63 : decode cX9_addSurcharge 63 = .ok (.aload_n 0, 1) := by decide +kernel
theorem dX9_addSurcharge_64 : decode cX9_addSurcharge 64 = .ok (.getfield 26, 3) := by decide +kernel
theorem dX9_addSurcharge_67 : decode cX9_addSurcharge 67 = .ok (.iload 6, 2) := by decide +kernel
theorem dX9_addSurcharge_69 : decode cX9_addSurcharge 69 = .ok (.iload 5, 2) := by decide +kernel
theorem dX9_addSurcharge_71 : decode cX9_addSurcharge 71 = .ok (.invokevirtual 145, 3) := by decide +kernel
theorem dX9_addSurcharge_74 : decode cX9_addSurcharge 74 = .ok (.ifCond .ne 13, 3) := by decide +kernel
theorem dX9_addSurcharge_77 : decode cX9_addSurcharge 77 = .ok (.new 86, 3) := by decide +kernel
theorem dX9_addSurcharge_80 : decode cX9_addSurcharge 80 = .ok (.dup, 1) := by decide +kernel
theorem dX9_addSurcharge_81 : decode cX9_addSurcharge 81 = .ok (.ldc 147, 2) := by decide +kernel
theorem dX9_addSurcharge_83 : decode cX9_addSurcharge 83 = .ok (.invokespecial 90, 3) := by decide +kernel
theorem dX9_addSurcharge_86 : decode cX9_addSurcharge 86 = .ok (.athrow, 1) := by decide +kernel
theorem dX9_addSurcharge_87 : decode cX9_addSurcharge 87 = .ok (.aload_n 0, 1) := by decide +kernel
theorem dX9_addSurcharge_88 : decode cX9_addSurcharge 88 = .ok (.getfield 26, 3) := by decide +kernel
theorem dX9_addSurcharge_91 : decode cX9_addSurcharge 91 = .ok (.getfield 149, 3) := by decide +kernel
theorem dX9_addSurcharge_94 : decode cX9_addSurcharge 94 = .ok (.ireturn, 1) := by decide +kernel
theorem dX9_addDefault_0 : decode cX9_addDefault 0 = .ok (.aload_n 0, 1) := by decide +kernel
theorem dX9_addDefault_1 : decode cX9_addDefault 1 = .ok (.iload_n 1, 1) := by decide +kernel
theorem dX9_addDefault_2 : decode cX9_addDefault 2 = .ok (.iload_n 2, 1) := by decide +kernel
theorem dX9_addDefault_3 : decode cX9_addDefault 3 = .ok (.invokevirtual 95, 3) := by decide +kernel
theorem dX9_addDefault_6 : decode cX9_addDefault 6 = .ok (.aload_n 0, 1) := by decide +kernel
theorem dX9_addDefault_7 : decode cX9_addDefault 7 = .ok (.getfield 33, 3) := by decide +kernel
theorem dX9_addDefault_10 : decode cX9_addDefault 10 = .ok (.iload_n 1, 1) := by decide +kernel
theorem dX9_addDefault_11 : decode cX9_addDefault 11 = .ok (.iload_n 2, 1) := by decide +kernel
theorem dX9_addDefault_12 : decode cX9_addDefault 12 = .ok (.invokestatic 104, 3) := by decide +kernel
theorem dX9_addDefault_15 : decode cX9_addDefault 15 = .ok (.invokevirtual 152, 3) := by decide +kernel
theorem dX9_addDefault_18 : decode cX9_addDefault 18 = .ok (.ifCond .ne 13, 3) := by decide +kernel
theorem dX9_addDefault_21 : decode cX9_addDefault 21 = .ok (.new 86, 3) := by decide +kernel
theorem dX9_addDefault_24 : decode cX9_addDefault 24 = .ok (.dup, 1) := by decide +kernel
theorem dX9_addDefault_25 : decode cX9_addDefault 25 = .ok (.ldc 153, 2) := by decide +kernel
theorem dX9_addDefault_27 : decode cX9_addDefault 27 = .ok (.invokespecial 90, 3) := by decide +kernel
theorem dX9_addDefault_30 : decode cX9_addDefault 30 = .ok (.athrow, 1) := by decide +kernel
theorem dX9_addDefault_31 : decode cX9_addDefault 31 = .ok (.aload_n 0, 1) := by decide +kernel
theorem dX9_addDefault_32 : decode cX9_addDefault 32 = .ok (.getfield 33, 3) := by decide +kernel
theorem dX9_addDefault_35 : decode cX9_addDefault 35 = .ok (.getfield 155, 3) := by decide +kernel
theorem dX9_addDefault_38 : decode cX9_addDefault 38 = .ok (.ireturn, 1) := by decide +kernel
theorem dX9_dropDefaults_0 : decode cX9_dropDefaults 0 = .ok (.aload_n 0, 1) := by decide +kernel
theorem dX9_dropDefaults_1 : decode cX9_dropDefaults 1 = .ok (.getfield 33, 3) := by decide +kernel
theorem dX9_dropDefaults_4 : decode cX9_dropDefaults 4 = .ok (.getfield 155, 3) := by decide +kernel
theorem dX9_dropDefaults_7 : decode cX9_dropDefaults 7 = .ok (.istore_n 1, 1) := by decide +kernel
theorem dX9_dropDefaults_8 : decode cX9_dropDefaults 8 = .ok (.aload_n 0, 1) := by decide +kernel
theorem dX9_dropDefaults_9 : decode cX9_dropDefaults 9 = .ok (.getfield 33, 3) := by decide +kernel
theorem dX9_dropDefaults_12 : decode cX9_dropDefaults 12 = .ok (.iconst 0, 1) := by decide +kernel
theorem dX9_dropDefaults_13 : decode cX9_dropDefaults 13 = .ok (.putfield 155, 3) := by decide +kernel
theorem dX9_dropDefaults_16 : decode cX9_dropDefaults 16 = .ok (.iload_n 1, 1) := by decide +kernel
theorem dX9_dropDefaults_17 : decode cX9_dropDefaults 17 = .ok (.ireturn, 1) := by decide +kernel
theorem dX9_choose_0 : decode cX9_choose 0 = .ok (.aload_n 0, 1) := by decide +kernel
theorem dX9_choose_1 : decode cX9_choose 1 = .ok (.iload_n 1, 1) := by decide +kernel
theorem dX9_choose_2 : decode cX9_choose 2 = .ok (.iload_n 2, 1) := by decide +kernel
theorem dX9_choose_3 : decode cX9_choose 3 = .ok (.invokevirtual 95, 3) := by decide +kernel
theorem dX9_choose_6 : decode cX9_choose 6 = .ok (.aload_n 0, 1) := by decide +kernel
theorem dX9_choose_7 : decode cX9_choose 7 = .ok (.getfield 40, 3) := by decide +kernel
theorem dX9_choose_10 : decode cX9_choose 10 = .ok (.iload_n 1, 1) := by decide +kernel
theorem dX9_choose_11 : decode cX9_choose 11 = .ok (.invokevirtual 156, 3) := by decide +kernel
theorem dX9_choose_14 : decode cX9_choose 14 = .ok (.ifCond .eq 13, 3) := by decide +kernel
theorem dX9_choose_17 : decode cX9_choose 17 = .ok (.new 86, 3) := by decide +kernel
theorem dX9_choose_20 : decode cX9_choose 20 = .ok (.dup, 1) := by decide +kernel
theorem dX9_choose_21 : decode cX9_choose 21 = .ok (.ldc 159, 2) := by decide +kernel
theorem dX9_choose_23 : decode cX9_choose 23 = .ok (.invokespecial 90, 3) := by decide +kernel
theorem dX9_choose_26 : decode cX9_choose 26 = .ok (.athrow, 1) := by decide +kernel
theorem dX9_choose_27 : decode cX9_choose 27 = .ok (.aload_n 0, 1) := by decide +kernel
theorem dX9_choose_28 : decode cX9_choose 28 = .ok (.iload_n 1, 1) := by decide +kernel
theorem dX9_choose_29 : decode cX9_choose 29 = .ok (.iload_n 2, 1) := by decide +kernel
theorem dX9_choose_30 : decode cX9_choose 30 = .ok (.invokevirtual 161, 3) := by decide +kernel
theorem dX9_choose_33 : decode cX9_choose 33 = .ok (.aload_n 0, 1) := by decide +kernel
theorem dX9_choose_34 : decode cX9_choose 34 = .ok (.getfield 40, 3) := by decide +kernel
theorem dX9_choose_37 : decode cX9_choose 37 = .ok (.iload_n 1, 1) := by decide +kernel
theorem dX9_choose_38 : decode cX9_choose 38 = .ok (.iload_n 2, 1) := by decide +kernel
theorem dX9_choose_39 : decode cX9_choose 39 = .ok (.invokevirtual 164, 3) := by decide +kernel
theorem dX9_choose_42 : decode cX9_choose 42 = .ok (.aload_n 0, 1) := by decide +kernel
theorem dX9_choose_43 : decode cX9_choose 43 = .ok (.getfield 40, 3) := by decide +kernel
theorem dX9_choose_46 : decode cX9_choose 46 = .ok (.getfield 166, 3) := by decide +kernel
theorem dX9_choose_49 : decode cX9_choose 49 = .ok (.ireturn, 1) := by decide +kernel
theorem dX9_withdraw_0 : decode cX9_withdraw 0 = .ok (.aload_n 0, 1) := by decide +kernel
theorem dX9_withdraw_1 : decode cX9_withdraw 1 = .ok (.iload_n 1, 1) := by decide +kernel
theorem dX9_withdraw_2 : decode cX9_withdraw 2 = .ok (.invokevirtual 167, 3) := by decide +kernel
theorem dX9_withdraw_5 : decode cX9_withdraw 5 = .ok (.aload_n 0, 1) := by decide +kernel
theorem dX9_withdraw_6 : decode cX9_withdraw 6 = .ok (.getfield 40, 3) := by decide +kernel
theorem dX9_withdraw_9 : decode cX9_withdraw 9 = .ok (.iload_n 1, 1) := by decide +kernel
theorem dX9_withdraw_10 : decode cX9_withdraw 10 = .ok (.invokevirtual 156, 3) := by decide +kernel
theorem dX9_withdraw_13 : decode cX9_withdraw 13 = .ok (.ifCond .ne 13, 3) := by decide +kernel
theorem dX9_withdraw_16 : decode cX9_withdraw 16 = .ok (.new 86, 3) := by decide +kernel
theorem dX9_withdraw_19 : decode cX9_withdraw 19 = .ok (.dup, 1) := by decide +kernel
theorem dX9_withdraw_20 : decode cX9_withdraw 20 = .ok (.ldc 170, 2) := by decide +kernel
theorem dX9_withdraw_22 : decode cX9_withdraw 22 = .ok (.invokespecial 90, 3) := by decide +kernel
theorem dX9_withdraw_25 : decode cX9_withdraw 25 = .ok (.athrow, 1) := by decide +kernel
theorem dX9_withdraw_26 : decode cX9_withdraw 26 = .ok (.aload_n 0, 1) := by decide +kernel
theorem dX9_withdraw_27 : decode cX9_withdraw 27 = .ok (.getfield 40, 3) := by decide +kernel
theorem dX9_withdraw_30 : decode cX9_withdraw 30 = .ok (.iload_n 1, 1) := by decide +kernel
theorem dX9_withdraw_31 : decode cX9_withdraw 31 = .ok (.invokevirtual 172, 3) := by decide +kernel
theorem dX9_withdraw_34 : decode cX9_withdraw 34 = .ok (.istore_n 2, 1) := by decide +kernel
theorem dX9_withdraw_35 : decode cX9_withdraw 35 = .ok (.aload_n 0, 1) := by decide +kernel
theorem dX9_withdraw_36 : decode cX9_withdraw 36 = .ok (.getfield 40, 3) := by decide +kernel
theorem dX9_withdraw_39 : decode cX9_withdraw 39 = .ok (.iload_n 1, 1) := by decide +kernel
theorem dX9_withdraw_40 : decode cX9_withdraw 40 = .ok (.invokevirtual 176, 3) := by decide +kernel
theorem dX9_withdraw_43 : decode cX9_withdraw 43 = .ok (.iload_n 2, 1) := by decide +kernel
theorem dX9_withdraw_44 : decode cX9_withdraw 44 = .ok (.ireturn, 1) := by decide +kernel
theorem dX9_force_0 : decode cX9_force 0 = .ok (.aload_n 0, 1) := by decide +kernel
theorem dX9_force_1 : decode cX9_force 1 = .ok (.iload_n 1, 1) := by decide +kernel
theorem dX9_force_2 : decode cX9_force 2 = .ok (.iload_n 2, 1) := by decide +kernel
theorem dX9_force_3 : decode cX9_force 3 = .ok (.invokevirtual 95, 3) := by decide +kernel
theorem dX9_force_6 : decode cX9_force 6 = .ok (.aload_n 0, 1) := by decide +kernel
theorem dX9_force_7 : decode cX9_force 7 = .ok (.getfield 47, 3) := by decide +kernel
theorem dX9_force_10 : decode cX9_force 10 = .ok (.aload_n 0, 1) := by decide +kernel
theorem dX9_force_11 : decode cX9_force 11 = .ok (.getfield 10, 3) := by decide +kernel
theorem dX9_force_14 : decode cX9_force 14 = .ok (.getfield 179, 3) := by decide +kernel
theorem dX9_force_17 : decode cX9_force 17 = .ok (.iload_n 1, 1) := by decide +kernel
theorem dX9_force_18 : decode cX9_force 18 = .ok (.iload_n 2, 1) := by decide +kernel
theorem dX9_force_19 : decode cX9_force 19 = .ok (.invokestatic 182, 3) := by decide +kernel
theorem dX9_force_22 : decode cX9_force 22 = .ok (.aload_n 0, 1) := by decide +kernel
theorem dX9_force_23 : decode cX9_force 23 = .ok (.getfield 10, 3) := by decide +kernel
theorem dX9_force_26 : decode cX9_force 26 = .ok (.getfield 91, 3) := by decide +kernel
theorem dX9_force_29 : decode cX9_force 29 = .ok (.invokevirtual 186, 3) := by decide +kernel
theorem dX9_force_32 : decode cX9_force 32 = .ok (.ifCond .ne 13, 3) := by decide +kernel
theorem dX9_force_35 : decode cX9_force 35 = .ok (.new 86, 3) := by decide +kernel
theorem dX9_force_38 : decode cX9_force 38 = .ok (.dup, 1) := by decide +kernel
theorem dX9_force_39 : decode cX9_force 39 = .ok (.ldc 189, 2) := by decide +kernel
theorem dX9_force_41 : decode cX9_force 41 = .ok (.invokespecial 90, 3) := by decide +kernel
theorem dX9_force_44 : decode cX9_force 44 = .ok (.athrow, 1) := by decide +kernel
theorem dX9_force_45 : decode cX9_force 45 = .ok (.aload_n 0, 1) := by decide +kernel
theorem dX9_force_46 : decode cX9_force 46 = .ok (.getfield 40, 3) := by decide +kernel
theorem dX9_force_49 : decode cX9_force 49 = .ok (.iload_n 1, 1) := by decide +kernel
theorem dX9_force_50 : decode cX9_force 50 = .ok (.invokevirtual 172, 3) := by decide +kernel
theorem dX9_force_53 : decode cX9_force 53 = .ok (.iload_n 2, 1) := by decide +kernel
theorem dX9_force_54 : decode cX9_force 54 = .ok (.if_icmp .ne 5, 3) := by decide +kernel
theorem dX9_force_57 : decode cX9_force 57 = .ok (.iconst 0, 1) := by decide +kernel
theorem dX9_force_58 : decode cX9_force 58 = .ok (.ireturn, 1) := by decide +kernel
theorem dX9_force_59 : decode cX9_force 59 = .ok (.aload_n 0, 1) := by decide +kernel
theorem dX9_force_60 : decode cX9_force 60 = .ok (.getfield 40, 3) := by decide +kernel
theorem dX9_force_63 : decode cX9_force 63 = .ok (.getfield 166, 3) := by decide +kernel
theorem dX9_force_66 : decode cX9_force 66 = .ok (.istore_n 3, 1) := by decide +kernel
theorem dX9_force_67 : decode cX9_force 67 = .ok (.aload_n 0, 1) := by decide +kernel
theorem dX9_force_68 : decode cX9_force 68 = .ok (.getfield 40, 3) := by decide +kernel
theorem dX9_force_71 : decode cX9_force 71 = .ok (.iload_n 1, 1) := by decide +kernel
theorem dX9_force_72 : decode cX9_force 72 = .ok (.invokevirtual 176, 3) := by decide +kernel
theorem dX9_force_75 : decode cX9_force 75 = .ok (.iconst 0, 1) := by decide +kernel
theorem dX9_force_76 : decode cX9_force 76 = .ok (.istore 4, 2) := by decide +kernel
theorem dX9_force_78 : decode cX9_force 78 = .ok (.iload 4, 2) := by decide +kernel
theorem dX9_force_80 : decode cX9_force 80 = .ok (.bipush 6, 2) := by decide +kernel
theorem dX9_force_82 : decode cX9_force 82 = .ok (.if_icmp .ge 39, 3) := by decide +kernel
theorem dX9_force_85 : decode cX9_force 85 = .ok (.aload_n 0, 1) := by decide +kernel
theorem dX9_force_86 : decode cX9_force 86 = .ok (.iload_n 1, 1) := by decide +kernel
theorem dX9_force_87 : decode cX9_force 87 = .ok (.iload_n 2, 1) := by decide +kernel
theorem dX9_force_88 : decode cX9_force 88 = .ok (.invokevirtual 191, 3) := by decide +kernel
theorem dX9_force_91 : decode cX9_force 91 = .ok (.ifCond .eq 30, 3) := by decide +kernel
theorem dX9_force_94 : decode cX9_force 94 = .ok (.aload_n 0, 1) := by decide +kernel
theorem dX9_force_95 : decode cX9_force 95 = .ok (.getfield 40, 3) := by decide +kernel
theorem dX9_force_98 : decode cX9_force 98 = .ok (.aload_n 0, 1) := by decide +kernel
theorem dX9_force_99 : decode cX9_force 99 = .ok (.getfield 40, 3) := by decide +kernel
theorem dX9_force_102 : decode cX9_force 102 = .ok (.aload_n 0, 1) := by decide +kernel
theorem dX9_force_103 : decode cX9_force 103 = .ok (.getfield 64, 3) := by decide +kernel
theorem dX9_force_106 : decode cX9_force 106 = .ok (.getfield 194, 3) := by decide +kernel
theorem dX9_force_109 : decode cX9_force 109 = .ok (.invokevirtual 197, 3) := by decide +kernel
theorem dX9_force_112 : decode cX9_force 112 = .ok (.invokevirtual 176, 3) := by decide +kernel
theorem dX9_force_115 : decode cX9_force 115 = .ok (.iinc 4 1, 3) := by decide +kernel
theorem dX9_force_118 : decode cX9_force 118 = .ok (.goto (-40), 3) := by decide +kernel
theorem dX9_force_121 : decode cX9_force 121 = .ok (.iload_n 3, 1) := by decide +kernel
theorem dX9_force_122 : decode cX9_force 122 = .ok (.aload_n 0, 1) := by decide +kernel
theorem dX9_force_123 : decode cX9_force 123 = .ok (.getfield 40, 3) := by decide +kernel
theorem dX9_force_126 : decode cX9_force 126 = .ok (.getfield 166, 3) := by decide +kernel
theorem dX9_force_129 : decode cX9_force 129 = .ok (.isub, 1) := by decide +kernel
theorem dX9_force_130 : decode cX9_force 130 = .ok (.istore 4, 2) := by decide +kernel
theorem dX9_force_132 : decode cX9_force 132 = .ok (.aload_n 0, 1) := by decide +kernel
theorem dX9_force_133 : decode cX9_force 133 = .ok (.getfield 40, 3) := by decide +kernel
theorem dX9_force_136 : decode cX9_force 136 = .ok (.iload_n 1, 1) := by decide +kernel
theorem dX9_force_137 : decode cX9_force 137 = .ok (.iload_n 2, 1) := by decide +kernel
theorem dX9_force_138 : decode cX9_force 138 = .ok (.invokevirtual 164, 3) := by decide +kernel
theorem dX9_force_141 : decode cX9_force 141 = .ok (.iload 4, 2) := by decide +kernel
theorem dX9_force_143 : decode cX9_force 143 = .ok (.ireturn, 1) := by decide +kernel
theorem dX9_takeDefaults_0 : decode cX9_takeDefaults 0 = .ok (.aload_n 0, 1) := by decide +kernel
theorem dX9_takeDefaults_1 : decode cX9_takeDefaults 1 = .ok (.getfield 40, 3) := by decide +kernel
theorem dX9_takeDefaults_4 : decode cX9_takeDefaults 4 = .ok (.getfield 166, 3) := by decide +kernel
theorem dX9_takeDefaults_7 : decode cX9_takeDefaults 7 = .ok (.istore_n 1, 1) := by decide +kernel
theorem dX9_takeDefaults_8 : decode cX9_takeDefaults 8 = .ok (.iconst 0, 1) := by decide +kernel
theorem dX9_takeDefaults_9 : decode cX9_takeDefaults 9 = .ok (.istore_n 2, 1) := by decide +kernel
theorem dX9_takeDefaults_10 : decode cX9_takeDefaults 10 = .ok (.iload_n 2, 1) := by decide +kernel
theorem dX9_takeDefaults_11 : decode cX9_takeDefaults 11 = .ok (.aload_n 0, 1) := by decide +kernel
theorem dX9_takeDefaults_12 : decode cX9_takeDefaults 12 = .ok (.getfield 33, 3) := by decide +kernel
theorem dX9_takeDefaults_15 : decode cX9_takeDefaults 15 = .ok (.getfield 155, 3) := by decide +kernel
theorem dX9_takeDefaults_18 : decode cX9_takeDefaults 18 = .ok (.if_icmp .ge 65, 3) := by decide +kernel
theorem dX9_takeDefaults_21 : decode cX9_takeDefaults 21 = .ok (.aload_n 0, 1) := by decide +kernel
theorem dX9_takeDefaults_22 : decode cX9_takeDefaults 22 = .ok (.getfield 33, 3) := by decide +kernel
theorem dX9_takeDefaults_25 : decode cX9_takeDefaults 25 = .ok (.getfield 200, 3) := by decide +kernel
theorem dX9_takeDefaults_28 : decode cX9_takeDefaults 28 = .ok (.iload_n 2, 1) := by decide +kernel
theorem dX9_takeDefaults_29 : decode cX9_takeDefaults 29 = .ok (.iaload, 1) := by decide +kernel
theorem dX9_takeDefaults_30 : decode cX9_takeDefaults 30 = .ok (.iconst 5, 1) := by decide +kernel
theorem dX9_takeDefaults_31 : decode cX9_takeDefaults 31 = .ok (.idiv, 1) := by decide +kernel
theorem dX9_takeDefaults_32 : decode cX9_takeDefaults 32 = .ok (.istore_n 3, 1) := by decide +kernel
theorem dX9_takeDefaults_33 : decode cX9_takeDefaults 33 = .ok (.aload_n 0, 1) := by decide +kernel
theorem dX9_takeDefaults_34 : decode cX9_takeDefaults 34 = .ok (.getfield 33, 3) := by decide +kernel
theorem dX9_takeDefaults_37 : decode cX9_takeDefaults 37 = .ok (.getfield 200, 3) := by decide +kernel
theorem dX9_takeDefaults_40 : decode cX9_takeDefaults 40 = .ok (.iload_n 2, 1) := by decide +kernel
theorem dX9_takeDefaults_41 : decode cX9_takeDefaults 41 = .ok (.iaload, 1) := by decide +kernel
theorem dX9_takeDefaults_42 : decode cX9_takeDefaults 42 = .ok (.iconst 5, 1) := by decide +kernel
theorem dX9_takeDefaults_43 : decode cX9_takeDefaults 43 = .ok (.irem, 1) := by decide +kernel
theorem dX9_takeDefaults_44 : decode cX9_takeDefaults 44 = .ok (.istore 4, 2) := by decide +kernel
theorem dX9_takeDefaults_46 : decode cX9_takeDefaults 46 = .ok (.aload_n 0, 1) := by decide +kernel
theorem dX9_takeDefaults_47 : decode cX9_takeDefaults 47 = .ok (.getfield 40, 3) := by decide +kernel
theorem dX9_takeDefaults_50 : decode cX9_takeDefaults 50 = .ok (.iload_n 3, 1) := by decide +kernel
theorem dX9_takeDefaults_51 : decode cX9_takeDefaults 51 = .ok (.invokevirtual 156, 3) := by decide +kernel
theorem dX9_takeDefaults_54 : decode cX9_takeDefaults 54 = .ok (.ifCond .ne 23, 3) := by decide +kernel
theorem dX9_takeDefaults_57 : decode cX9_takeDefaults 57 = .ok (.aload_n 0, 1) := by decide +kernel
theorem dX9_takeDefaults_58 : decode cX9_takeDefaults 58 = .ok (.iload_n 3, 1) := by decide +kernel
theorem dX9_takeDefaults_59 : decode cX9_takeDefaults 59 = .ok (.iload 4, 2) := by decide +kernel
theorem dX9_takeDefaults_61 : decode cX9_takeDefaults 61 = .ok (.invokevirtual 203, 3) := by decide +kernel
theorem dX9_takeDefaults_64 : decode cX9_takeDefaults 64 = .ok (.ifCond .eq 13, 3) := by decide +kernel
theorem dX9_takeDefaults_67 : decode cX9_takeDefaults 67 = .ok (.aload_n 0, 1) := by decide +kernel
theorem dX9_takeDefaults_68 : decode cX9_takeDefaults 68 = .ok (.getfield 40, 3) := by decide +kernel
theorem dX9_takeDefaults_71 : decode cX9_takeDefaults 71 = .ok (.iload_n 3, 1) := by decide +kernel
theorem dX9_takeDefaults_72 : decode cX9_takeDefaults 72 = .ok (.iload 4, 2) := by decide +kernel
theorem dX9_takeDefaults_74 : decode cX9_takeDefaults 74 = .ok (.invokevirtual 164, 3) := by decide +kernel
theorem dX9_takeDefaults_77 : decode cX9_takeDefaults 77 = .ok (.iinc 2 1, 3) := by decide +kernel
theorem dX9_takeDefaults_80 : decode cX9_takeDefaults 80 = .ok (.goto (-70), 3) := by decide +kernel
theorem dX9_takeDefaults_83 : decode cX9_takeDefaults 83 = .ok (.aload_n 0, 1) := by decide +kernel
theorem dX9_takeDefaults_84 : decode cX9_takeDefaults 84 = .ok (.getfield 40, 3) := by decide +kernel
theorem dX9_takeDefaults_87 : decode cX9_takeDefaults 87 = .ok (.getfield 166, 3) := by decide +kernel
theorem dX9_takeDefaults_90 : decode cX9_takeDefaults 90 = .ok (.iload_n 1, 1) := by decide +kernel
theorem dX9_takeDefaults_91 : decode cX9_takeDefaults 91 = .ok (.isub, 1) := by decide +kernel
theorem dX9_takeDefaults_92 : decode cX9_takeDefaults 92 = .ok (.ireturn, 1) := by decide +kernel
theorem dX9_finish_0 : decode cX9_finish 0 = .ok (.aload_n 0, 1) := by decide +kernel
theorem dX9_finish_1 : decode cX9_finish 1 = .ok (.getfield 40, 3) := by decide +kernel
theorem dX9_finish_4 : decode cX9_finish 4 = .ok (.getfield 166, 3) := by decide +kernel
theorem dX9_finish_7 : decode cX9_finish 7 = .ok (.istore_n 1, 1) := by decide +kernel
theorem dX9_finish_8 : decode cX9_finish 8 = .ok (.iconst 0, 1) := by decide +kernel
theorem dX9_finish_9 : decode cX9_finish 9 = .ok (.istore_n 2, 1) := by decide +kernel
theorem dX9_finish_10 : decode cX9_finish 10 = .ok (.iload_n 2, 1) := by decide +kernel
theorem dX9_finish_11 : decode cX9_finish 11 = .ok (.aload_n 0, 1) := by decide +kernel
theorem dX9_finish_12 : decode cX9_finish 12 = .ok (.getfield 10, 3) := by decide +kernel
theorem dX9_finish_15 : decode cX9_finish 15 = .ok (.getfield 91, 3) := by decide +kernel
theorem dX9_finish_18 : decode cX9_finish 18 = .ok (.if_icmp .ge 47, 3) := by decide +kernel
theorem dX9_finish_21 : decode cX9_finish 21 = .ok (.aload_n 0, 1) := by decide +kernel
theorem dX9_finish_22 : decode cX9_finish 22 = .ok (.getfield 40, 3) := by decide +kernel
theorem dX9_finish_25 : decode cX9_finish 25 = .ok (.iload_n 2, 1) := by decide +kernel
theorem dX9_finish_26 : decode cX9_finish 26 = .ok (.invokevirtual 156, 3) := by decide +kernel
theorem dX9_finish_29 : decode cX9_finish 29 = .ok (.ifCond .eq 7, 3) := by decide +kernel
theorem dX9_finish_32 : decode cX9_finish 32 = .ok (.iconst (-1), 1) := by decide +kernel
theorem dX9_finish_33 : decode cX9_finish 33 = .ok (.goto 11, 3) := by decide +kernel
theorem dX9_finish_36 : decode cX9_finish 36 = .ok (.aload_n 0, 1) := by decide +kernel
theorem dX9_finish_37 : decode cX9_finish 37 = .ok (.iload_n 2, 1) := by decide +kernel
theorem dX9_finish_38 : decode cX9_finish 38 = .ok (.invokevirtual 206, 3) := by decide +kernel
theorem dX9_finish_41 : decode cX9_finish 41 = .ok (.invokestatic 209, 3) := by decide +kernel
theorem dX9_finish_44 : decode cX9_finish 44 = .ok (.istore_n 3, 1) := by decide +kernel
theorem dX9_finish_45 : decode cX9_finish 45 = .ok (.iload_n 3, 1) := by decide +kernel
theorem dX9_finish_46 : decode cX9_finish 46 = .ok (.iconst (-1), 1) := by decide +kernel
theorem dX9_finish_47 : decode cX9_finish 47 = .ok (.if_icmp .eq 12, 3) := by decide +kernel
theorem dX9_finish_50 : decode cX9_finish 50 = .ok (.aload_n 0, 1) := by decide +kernel
theorem dX9_finish_51 : decode cX9_finish 51 = .ok (.getfield 40, 3) := by decide +kernel
theorem dX9_finish_54 : decode cX9_finish 54 = .ok (.iload_n 2, 1) := by decide +kernel
theorem dX9_finish_55 : decode cX9_finish 55 = .ok (.iload_n 3, 1) := by decide +kernel
theorem dX9_finish_56 : decode cX9_finish 56 = .ok (.invokevirtual 164, 3) := by decide +kernel
theorem dX9_finish_59 : decode cX9_finish 59 = .ok (.iinc 2 1, 3) := by decide +kernel
theorem dX9_finish_62 : decode cX9_finish 62 = .ok (.goto (-52), 3) := by decide +kernel
theorem dX9_finish_65 : decode cX9_finish 65 = .ok (.aload_n 0, 1) := by decide +kernel
theorem dX9_finish_66 : decode cX9_finish 66 = .ok (.getfield 40, 3) := by decide +kernel
theorem dX9_finish_69 : decode cX9_finish 69 = .ok (.getfield 166, 3) := by decide +kernel
theorem dX9_finish_72 : decode cX9_finish 72 = .ok (.iload_n 1, 1) := by decide +kernel
theorem dX9_finish_73 : decode cX9_finish 73 = .ok (.isub, 1) := by decide +kernel
theorem dX9_finish_74 : decode cX9_finish 74 = .ok (.ireturn, 1) := by decide +kernel
theorem dX9_reset_0 : decode cX9_reset 0 = .ok (.aload_n 0, 1) := by decide +kernel
theorem dX9_reset_1 : decode cX9_reset 1 = .ok (.getfield 40, 3) := by decide +kernel
theorem dX9_reset_4 : decode cX9_reset 4 = .ok (.getfield 166, 3) := by decide +kernel
theorem dX9_reset_7 : decode cX9_reset 7 = .ok (.istore_n 1, 1) := by decide +kernel
theorem dX9_reset_8 : decode cX9_reset 8 = .ok (.aload_n 0, 1) := by decide +kernel
theorem dX9_reset_9 : decode cX9_reset 9 = .ok (.getfield 40, 3) := by decide +kernel
theorem dX9_reset_12 : decode cX9_reset 12 = .ok (.invokevirtual 212, 3) := by decide +kernel
theorem dX9_reset_15 : decode cX9_reset 15 = .ok (.iload_n 1, 1) := by decide +kernel
theorem dX9_reset_16 : decode cX9_reset 16 = .ok (.ireturn, 1) := by decide +kernel
theorem dX9_features_0 : decode cX9_features 0 = .ok (.aload_n 0, 1) := by decide +kernel
theorem dX9_features_1 : decode cX9_features 1 = .ok (.getfield 10, 3) := by decide +kernel
theorem dX9_features_4 : decode cX9_features 4 = .ok (.getfield 91, 3) := by decide +kernel
theorem dX9_features_7 : decode cX9_features 7 = .ok (.ireturn, 1) := by decide +kernel
theorem dX9_options_0 : decode cX9_options 0 = .ok (.aload_n 0, 1) := by decide +kernel
theorem dX9_options_1 : decode cX9_options 1 = .ok (.iload_n 1, 1) := by decide +kernel
theorem dX9_options_2 : decode cX9_options 2 = .ok (.invokevirtual 167, 3) := by decide +kernel
theorem dX9_options_5 : decode cX9_options 5 = .ok (.aload_n 0, 1) := by decide +kernel
theorem dX9_options_6 : decode cX9_options 6 = .ok (.getfield 10, 3) := by decide +kernel
theorem dX9_options_9 : decode cX9_options 9 = .ok (.getfield 215, 3) := by decide +kernel
theorem dX9_options_12 : decode cX9_options 12 = .ok (.iload_n 1, 1) := by decide +kernel
theorem dX9_options_13 : decode cX9_options 13 = .ok (.iaload, 1) := by decide +kernel
theorem dX9_options_14 : decode cX9_options 14 = .ok (.ireturn, 1) := by decide +kernel
theorem dX9_rules_0 : decode cX9_rules 0 = .ok (.aload_n 0, 1) := by decide +kernel
theorem dX9_rules_1 : decode cX9_rules 1 = .ok (.getfield 19, 3) := by decide +kernel
theorem dX9_rules_4 : decode cX9_rules 4 = .ok (.getfield 128, 3) := by decide +kernel
theorem dX9_rules_7 : decode cX9_rules 7 = .ok (.ireturn, 1) := by decide +kernel
theorem dX9_isOn_0 : decode cX9_isOn 0 = .ok (.aload_n 0, 1) := by decide +kernel
theorem dX9_isOn_1 : decode cX9_isOn 1 = .ok (.iload_n 1, 1) := by decide +kernel
theorem dX9_isOn_2 : decode cX9_isOn 2 = .ok (.invokevirtual 129, 3) := by decide +kernel
theorem dX9_isOn_5 : decode cX9_isOn 5 = .ok (.aload_n 0, 1) := by decide +kernel
theorem dX9_isOn_6 : decode cX9_isOn 6 = .ok (.getfield 19, 3) := by decide +kernel
theorem dX9_isOn_9 : decode cX9_isOn 9 = .ok (.getfield 108, 3) := by decide +kernel
theorem dX9_isOn_12 : decode cX9_isOn 12 = .ok (.iload_n 1, 1) := by decide +kernel
theorem dX9_isOn_13 : decode cX9_isOn 13 = .ok (.invokestatic 133, 3) := by decide +kernel
theorem dX9_isOn_16 : decode cX9_isOn 16 = .ok (.ireturn, 1) := by decide +kernel
theorem dX9_choices_0 : decode cX9_choices 0 = .ok (.aload_n 0, 1) := by decide +kernel
theorem dX9_choices_1 : decode cX9_choices 1 = .ok (.getfield 40, 3) := by decide +kernel
theorem dX9_choices_4 : decode cX9_choices 4 = .ok (.getfield 166, 3) := by decide +kernel
theorem dX9_choices_7 : decode cX9_choices 7 = .ok (.ireturn, 1) := by decide +kernel
theorem dX9_choiceAt_0 : decode cX9_choiceAt 0 = .ok (.iload_n 1, 1) := by decide +kernel
theorem dX9_choiceAt_1 : decode cX9_choiceAt 1 = .ok (.ifCond .lt 14, 3) := by decide +kernel
theorem dX9_choiceAt_4 : decode cX9_choiceAt 4 = .ok (.iload_n 1, 1) := by decide +kernel
theorem dX9_choiceAt_5 : decode cX9_choiceAt 5 = .ok (.aload_n 0, 1) := by decide +kernel
theorem dX9_choiceAt_6 : decode cX9_choiceAt 6 = .ok (.getfield 40, 3) := by decide +kernel
theorem dX9_choiceAt_9 : decode cX9_choiceAt 9 = .ok (.getfield 166, 3) := by decide +kernel
theorem dX9_choiceAt_12 : decode cX9_choiceAt 12 = .ok (.if_icmp .lt 13, 3) := by decide +kernel
theorem dX9_choiceAt_15 : decode cX9_choiceAt 15 = .ok (.new 218, 3) := by decide +kernel
theorem dX9_choiceAt_18 : decode cX9_choiceAt 18 = .ok (.dup, 1) := by decide +kernel
theorem dX9_choiceAt_19 : decode cX9_choiceAt 19 = .ok (.ldc 220, 2) := by decide +kernel
theorem dX9_choiceAt_21 : decode cX9_choiceAt 21 = .ok (.invokespecial 222, 3) := by decide +kernel
theorem dX9_choiceAt_24 : decode cX9_choiceAt 24 = .ok (.athrow, 1) := by decide +kernel
theorem dX9_choiceAt_25 : decode cX9_choiceAt 25 = .ok (.aload_n 0, 1) := by decide +kernel
theorem dX9_choiceAt_26 : decode cX9_choiceAt 26 = .ok (.getfield 40, 3) := by decide +kernel
theorem dX9_choiceAt_29 : decode cX9_choiceAt 29 = .ok (.getfield 223, 3) := by decide +kernel
theorem dX9_choiceAt_32 : decode cX9_choiceAt 32 = .ok (.iload_n 1, 1) := by decide +kernel
theorem dX9_choiceAt_33 : decode cX9_choiceAt 33 = .ok (.iaload, 1) := by decide +kernel
theorem dX9_choiceAt_34 : decode cX9_choiceAt 34 = .ok (.ireturn, 1) := by decide +kernel
theorem dX9_chosen_0 : decode cX9_chosen 0 = .ok (.aload_n 0, 1) := by decide +kernel
theorem dX9_chosen_1 : decode cX9_chosen 1 = .ok (.iload_n 1, 1) := by decide +kernel
theorem dX9_chosen_2 : decode cX9_chosen 2 = .ok (.invokevirtual 167, 3) := by decide +kernel
theorem dX9_chosen_5 : decode cX9_chosen 5 = .ok (.aload_n 0, 1) := by decide +kernel
theorem dX9_chosen_6 : decode cX9_chosen 6 = .ok (.getfield 40, 3) := by decide +kernel
theorem dX9_chosen_9 : decode cX9_chosen 9 = .ok (.iload_n 1, 1) := by decide +kernel
theorem dX9_chosen_10 : decode cX9_chosen 10 = .ok (.invokevirtual 172, 3) := by decide +kernel
theorem dX9_chosen_13 : decode cX9_chosen 13 = .ok (.ireturn, 1) := by decide +kernel
theorem dX9_remaining_0 : decode cX9_remaining 0 = .ok (.aload_n 0, 1) := by decide +kernel
theorem dX9_remaining_1 : decode cX9_remaining 1 = .ok (.iload_n 1, 1) := by decide +kernel
theorem dX9_remaining_2 : decode cX9_remaining 2 = .ok (.invokevirtual 167, 3) := by decide +kernel
theorem dX9_remaining_5 : decode cX9_remaining 5 = .ok (.aload_n 0, 1) := by decide +kernel
theorem dX9_remaining_6 : decode cX9_remaining 6 = .ok (.getfield 47, 3) := by decide +kernel
theorem dX9_remaining_9 : decode cX9_remaining 9 = .ok (.aload_n 0, 1) := by decide +kernel
theorem dX9_remaining_10 : decode cX9_remaining 10 = .ok (.invokevirtual 226, 3) := by decide +kernel
theorem dX9_remaining_13 : decode cX9_remaining 13 = .ok (.aload_n 0, 1) := by decide +kernel
theorem dX9_remaining_14 : decode cX9_remaining 14 = .ok (.getfield 10, 3) := by decide +kernel
theorem dX9_remaining_17 : decode cX9_remaining 17 = .ok (.getfield 91, 3) := by decide +kernel
theorem dX9_remaining_20 : decode cX9_remaining 20 = .ok (.invokevirtual 230, 3) := by decide +kernel
theorem dX9_remaining_23 : decode cX9_remaining 23 = .ok (.iload_n 1, 1) := by decide +kernel
theorem dX9_remaining_24 : decode cX9_remaining 24 = .ok (.invokestatic 233, 3) := by decide +kernel
theorem dX9_remaining_27 : decode cX9_remaining 27 = .ok (.ireturn, 1) := by decide +kernel
theorem dX9_offered_0 : decode cX9_offered 0 = .ok (.aload_n 0, 1) := by decide +kernel
theorem dX9_offered_1 : decode cX9_offered 1 = .ok (.iload_n 1, 1) := by decide +kernel
theorem dX9_offered_2 : decode cX9_offered 2 = .ok (.invokevirtual 167, 3) := by decide +kernel
theorem dX9_offered_5 : decode cX9_offered 5 = .ok (.aload_n 0, 1) := by decide +kernel
theorem dX9_offered_6 : decode cX9_offered 6 = .ok (.iload_n 1, 1) := by decide +kernel
theorem dX9_offered_7 : decode cX9_offered 7 = .ok (.invokevirtual 206, 3) := by decide +kernel
theorem dX9_offered_10 : decode cX9_offered 10 = .ok (.ireturn, 1) := by decide +kernel
theorem dX9_count_0 : decode cX9_count 0 = .ok (.aload_n 0, 1) := by decide +kernel
theorem dX9_count_1 : decode cX9_count 1 = .ok (.getfield 57, 3) := by decide +kernel
theorem dX9_count_4 : decode cX9_count 4 = .ok (.aload_n 0, 1) := by decide +kernel
theorem dX9_count_5 : decode cX9_count 5 = .ok (.getfield 47, 3) := by decide +kernel
theorem dX9_count_8 : decode cX9_count 8 = .ok (.aload_n 0, 1) := by decide +kernel
theorem dX9_count_9 : decode cX9_count 9 = .ok (.getfield 10, 3) := by decide +kernel
theorem dX9_count_12 : decode cX9_count 12 = .ok (.getfield 91, 3) := by decide +kernel
theorem dX9_count_15 : decode cX9_count 15 = .ok (.aload_n 0, 1) := by decide +kernel
theorem dX9_count_16 : decode cX9_count 16 = .ok (.invokevirtual 226, 3) := by decide +kernel
theorem dX9_count_19 : decode cX9_count 19 = .ok (.invokevirtual 236, 3) := by decide +kernel
theorem dX9_count_22 : decode cX9_count 22 = .ok (.aload_n 0, 1) := by decide +kernel
theorem dX9_count_23 : decode cX9_count 23 = .ok (.getfield 57, 3) := by decide +kernel
theorem dX9_count_26 : decode cX9_count 26 = .ok (.invokevirtual 240, 3) := by decide +kernel
theorem dX9_count_29 : decode cX9_count 29 = .ok (.ireturn, 1) := by decide +kernel
theorem dX9_countByTrying_0 : decode cX9_countByTrying 0 = .ok (.aload_n 0, 1) := by decide +kernel
theorem dX9_countByTrying_1 : decode cX9_countByTrying 1 = .ok (.getfield 19, 3) := by decide +kernel
theorem dX9_countByTrying_4 : decode cX9_countByTrying 4 = .ok (.aload_n 0, 1) := by decide +kernel
theorem dX9_countByTrying_5 : decode cX9_countByTrying 5 = .ok (.getfield 10, 3) := by decide +kernel
theorem dX9_countByTrying_8 : decode cX9_countByTrying 8 = .ok (.getfield 91, 3) := by decide +kernel
theorem dX9_countByTrying_11 : decode cX9_countByTrying 11 = .ok (.iconst 0, 1) := by decide +kernel
theorem dX9_countByTrying_12 : decode cX9_countByTrying 12 = .ok (.aload_n 0, 1) := by decide +kernel
theorem dX9_countByTrying_13 : decode cX9_countByTrying 13 = .ok (.invokevirtual 226, 3) := by decide +kernel
theorem dX9_countByTrying_16 : decode cX9_countByTrying 16 = .ok (.iconst 0, 1) := by decide +kernel
theorem dX9_countByTrying_17 : decode cX9_countByTrying 17 = .ok (.invokestatic 243, 3) := by decide +kernel
theorem dX9_countByTrying_20 : decode cX9_countByTrying 20 = .ok (.ireturn, 1) := by decide +kernel
theorem dX9_nodes_0 : decode cX9_nodes 0 = .ok (.aload_n 0, 1) := by decide +kernel
theorem dX9_nodes_1 : decode cX9_nodes 1 = .ok (.getfield 57, 3) := by decide +kernel
theorem dX9_nodes_4 : decode cX9_nodes 4 = .ok (.aload_n 0, 1) := by decide +kernel
theorem dX9_nodes_5 : decode cX9_nodes 5 = .ok (.getfield 47, 3) := by decide +kernel
theorem dX9_nodes_8 : decode cX9_nodes 8 = .ok (.aload_n 0, 1) := by decide +kernel
theorem dX9_nodes_9 : decode cX9_nodes 9 = .ok (.getfield 10, 3) := by decide +kernel
theorem dX9_nodes_12 : decode cX9_nodes 12 = .ok (.getfield 91, 3) := by decide +kernel
theorem dX9_nodes_15 : decode cX9_nodes 15 = .ok (.aload_n 0, 1) := by decide +kernel
theorem dX9_nodes_16 : decode cX9_nodes 16 = .ok (.invokevirtual 226, 3) := by decide +kernel
theorem dX9_nodes_19 : decode cX9_nodes 19 = .ok (.invokevirtual 236, 3) := by decide +kernel
theorem dX9_nodes_22 : decode cX9_nodes 22 = .ok (.aload_n 0, 1) := by decide +kernel
theorem dX9_nodes_23 : decode cX9_nodes 23 = .ok (.getfield 57, 3) := by decide +kernel
theorem dX9_nodes_26 : decode cX9_nodes 26 = .ok (.getfield 247, 3) := by decide +kernel
theorem dX9_nodes_29 : decode cX9_nodes 29 = .ok (.ireturn, 1) := by decide +kernel
theorem dX9_whyByRules_0 : decode cX9_whyByRules 0 = .ok (.aload_n 0, 1) := by decide +kernel
theorem dX9_whyByRules_1 : decode cX9_whyByRules 1 = .ok (.iload_n 1, 1) := by decide +kernel
theorem dX9_whyByRules_2 : decode cX9_whyByRules 2 = .ok (.iload_n 2, 1) := by decide +kernel
theorem dX9_whyByRules_3 : decode cX9_whyByRules 3 = .ok (.invokevirtual 95, 3) := by decide +kernel
theorem dX9_whyByRules_6 : decode cX9_whyByRules 6 = .ok (.aload_n 0, 1) := by decide +kernel
theorem dX9_whyByRules_7 : decode cX9_whyByRules 7 = .ok (.iload_n 1, 1) := by decide +kernel
theorem dX9_whyByRules_8 : decode cX9_whyByRules 8 = .ok (.iload_n 2, 1) := by decide +kernel
theorem dX9_whyByRules_9 : decode cX9_whyByRules 9 = .ok (.invokevirtual 191, 3) := by decide +kernel
theorem dX9_whyByRules_12 : decode cX9_whyByRules 12 = .ok (.ifCond .ne 13, 3) := by decide +kernel
theorem dX9_whyByRules_15 : decode cX9_whyByRules 15 = .ok (.new 86, 3) := by decide +kernel
theorem dX9_whyByRules_18 : decode cX9_whyByRules 18 = .ok (.dup, 1) := by decide +kernel
theorem dX9_whyByRules_19 : decode cX9_whyByRules 19 = .ok (.ldc 250, 2) := by decide +kernel
theorem dX9_whyByRules_21 : decode cX9_whyByRules 21 = .ok (.invokespecial 90, 3) := by decide +kernel
theorem dX9_whyByRules_24 : decode cX9_whyByRules 24 = .ok (.athrow, 1) := by decide +kernel
theorem dX9_whyByRules_25 : decode cX9_whyByRules 25 = .ok (.aload_n 0, 1) := by decide +kernel
theorem dX9_whyByRules_26 : decode cX9_whyByRules 26 = .ok (.getfield 64, 3) := by decide +kernel
theorem dX9_whyByRules_29 : decode cX9_whyByRules 29 = .ok (.getfield 252, 3) := by decide +kernel
theorem dX9_whyByRules_32 : decode cX9_whyByRules 32 = .ok (.ireturn, 1) := by decide +kernel
theorem dX9_whyByChoices_0 : decode cX9_whyByChoices 0 = .ok (.aload_n 0, 1) := by decide +kernel
theorem dX9_whyByChoices_1 : decode cX9_whyByChoices 1 = .ok (.iload_n 1, 1) := by decide +kernel
theorem dX9_whyByChoices_2 : decode cX9_whyByChoices 2 = .ok (.iload_n 2, 1) := by decide +kernel
theorem dX9_whyByChoices_3 : decode cX9_whyByChoices 3 = .ok (.invokevirtual 95, 3) := by decide +kernel
theorem dX9_whyByChoices_6 : decode cX9_whyByChoices 6 = .ok (.aload_n 0, 1) := by decide +kernel
theorem dX9_whyByChoices_7 : decode cX9_whyByChoices 7 = .ok (.iload_n 1, 1) := by decide +kernel
theorem dX9_whyByChoices_8 : decode cX9_whyByChoices 8 = .ok (.iload_n 2, 1) := by decide +kernel
theorem dX9_whyByChoices_9 : decode cX9_whyByChoices 9 = .ok (.invokevirtual 191, 3) := by decide +kernel
theorem dX9_whyByChoices_12 : decode cX9_whyByChoices 12 = .ok (.ifCond .ne 13, 3) := by decide +kernel
theorem dX9_whyByChoices_15 : decode cX9_whyByChoices 15 = .ok (.new 86, 3) := by decide +kernel
theorem dX9_whyByChoices_18 : decode cX9_whyByChoices 18 = .ok (.dup, 1) := by decide +kernel
theorem dX9_whyByChoices_19 : decode cX9_whyByChoices 19 = .ok (.ldc 250, 2) := by decide +kernel
theorem dX9_whyByChoices_21 : decode cX9_whyByChoices 21 = .ok (.invokespecial 90, 3) := by decide +kernel
theorem dX9_whyByChoices_24 : decode cX9_whyByChoices 24 = .ok (.athrow, 1) := by decide +kernel
theorem dX9_whyByChoices_25 : decode cX9_whyByChoices 25 = .ok (.aload_n 0, 1) := by decide +kernel
theorem dX9_whyByChoices_26 : decode cX9_whyByChoices 26 = .ok (.getfield 64, 3) := by decide +kernel
theorem dX9_whyByChoices_29 : decode cX9_whyByChoices 29 = .ok (.getfield 194, 3) := by decide +kernel
theorem dX9_whyByChoices_32 : decode cX9_whyByChoices 32 = .ok (.ireturn, 1) := by decide +kernel
theorem dX9_price_0 : decode cX9_price 0 = .ok (.aload_n 0, 1) := by decide +kernel
theorem dX9_price_1 : decode cX9_price 1 = .ok (.getfield 40, 3) := by decide +kernel
theorem dX9_price_4 : decode cX9_price 4 = .ok (.getfield 166, 3) := by decide +kernel
theorem dX9_price_7 : decode cX9_price 7 = .ok (.aload_n 0, 1) := by decide +kernel
theorem dX9_price_8 : decode cX9_price 8 = .ok (.getfield 10, 3) := by decide +kernel
theorem dX9_price_11 : decode cX9_price 11 = .ok (.getfield 91, 3) := by decide +kernel
theorem dX9_price_14 : decode cX9_price 14 = .ok (.if_icmp .ge 13, 3) := by decide +kernel
theorem dX9_price_17 : decode cX9_price 17 = .ok (.new 86, 3) := by decide +kernel
theorem dX9_price_20 : decode cX9_price 20 = .ok (.dup, 1) := by decide +kernel
theorem dX9_price_21 : decode cX9_price 21 = .ok (.ldc 255, 2) := by decide +kernel
theorem dX9_price_23 : decode cX9_price 23 = .ok (.invokespecial 90, 3) := by decide +kernel
theorem dX9_price_26 : decode cX9_price 26 = .ok (.athrow, 1) := by decide +kernel
theorem dX9_price_27 : decode cX9_price 27 = .ok (.aload_n 0, 1) := by decide +kernel
theorem dX9_price_28 : decode cX9_price 28 = .ok (.getfield 71, 3) := by decide +kernel
theorem dX9_price_31 : decode cX9_price 31 = .ok (.aload_n 0, 1) := by decide +kernel
theorem dX9_price_32 : decode cX9_price 32 = .ok (.getfield 47, 3) := by decide +kernel
theorem dX9_price_35 : decode cX9_price 35 = .ok (.aload_n 0, 1) := by decide +kernel
theorem dX9_price_36 : decode cX9_price 36 = .ok (.getfield 26, 3) := by decide +kernel
theorem dX9_price_39 : decode cX9_price 39 = .ok (.aload_n 0, 1) := by decide +kernel
theorem dX9_price_40 : decode cX9_price 40 = .ok (.getfield 10, 3) := by decide +kernel
theorem dX9_price_43 : decode cX9_price 43 = .ok (.getfield 91, 3) := by decide +kernel
theorem dX9_price_46 : decode cX9_price 46 = .ok (.aload_n 0, 1) := by decide +kernel
theorem dX9_price_47 : decode cX9_price 47 = .ok (.invokevirtual 226, 3) := by decide +kernel
theorem dX9_price_50 : decode cX9_price 50 = .ok (.invokevirtual 257, 3) := by decide +kernel
theorem dX9_price_53 : decode cX9_price 53 = .ok (.ireturn, 1) := by decide +kernel
theorem dX9_leastPrice_0 : decode cX9_leastPrice 0 = .ok (.aload_n 0, 1) := by decide +kernel
theorem dX9_leastPrice_1 : decode cX9_leastPrice 1 = .ok (.getfield 71, 3) := by decide +kernel
theorem dX9_leastPrice_4 : decode cX9_leastPrice 4 = .ok (.aload_n 0, 1) := by decide +kernel
theorem dX9_leastPrice_5 : decode cX9_leastPrice 5 = .ok (.getfield 47, 3) := by decide +kernel
theorem dX9_leastPrice_8 : decode cX9_leastPrice 8 = .ok (.aload_n 0, 1) := by decide +kernel
theorem dX9_leastPrice_9 : decode cX9_leastPrice 9 = .ok (.getfield 26, 3) := by decide +kernel
theorem dX9_leastPrice_12 : decode cX9_leastPrice 12 = .ok (.aload_n 0, 1) := by decide +kernel
theorem dX9_leastPrice_13 : decode cX9_leastPrice 13 = .ok (.getfield 10, 3) := by decide +kernel
theorem dX9_leastPrice_16 : decode cX9_leastPrice 16 = .ok (.getfield 91, 3) := by decide +kernel
theorem dX9_leastPrice_19 : decode cX9_leastPrice 19 = .ok (.aload_n 0, 1) := by decide +kernel
theorem dX9_leastPrice_20 : decode cX9_leastPrice 20 = .ok (.invokevirtual 226, 3) := by decide +kernel
theorem dX9_leastPrice_23 : decode cX9_leastPrice 23 = .ok (.invokevirtual 257, 3) := by decide +kernel
theorem dX9_leastPrice_26 : decode cX9_leastPrice 26 = .ok (.ireturn, 1) := by decide +kernel
theorem dX9_greatestPrice_0 : decode cX9_greatestPrice 0 = .ok (.aload_n 0, 1) := by decide +kernel
theorem dX9_greatestPrice_1 : decode cX9_greatestPrice 1 = .ok (.getfield 71, 3) := by decide +kernel
theorem dX9_greatestPrice_4 : decode cX9_greatestPrice 4 = .ok (.aload_n 0, 1) := by decide +kernel
theorem dX9_greatestPrice_5 : decode cX9_greatestPrice 5 = .ok (.getfield 47, 3) := by decide +kernel
theorem dX9_greatestPrice_8 : decode cX9_greatestPrice 8 = .ok (.aload_n 0, 1) := by decide +kernel
theorem dX9_greatestPrice_9 : decode cX9_greatestPrice 9 = .ok (.getfield 26, 3) := by decide +kernel
theorem dX9_greatestPrice_12 : decode cX9_greatestPrice 12 = .ok (.aload_n 0, 1) := by decide +kernel
theorem dX9_greatestPrice_13 : decode cX9_greatestPrice 13 = .ok (.getfield 10, 3) := by decide +kernel
theorem dX9_greatestPrice_16 : decode cX9_greatestPrice 16 = .ok (.getfield 91, 3) := by decide +kernel
theorem dX9_greatestPrice_19 : decode cX9_greatestPrice 19 = .ok (.aload_n 0, 1) := by decide +kernel
theorem dX9_greatestPrice_20 : decode cX9_greatestPrice 20 = .ok (.invokevirtual 226, 3) := by decide +kernel
theorem dX9_greatestPrice_23 : decode cX9_greatestPrice 23 = .ok (.invokevirtual 261, 3) := by decide +kernel
theorem dX9_greatestPrice_26 : decode cX9_greatestPrice 26 = .ok (.ireturn, 1) := by decide +kernel
theorem dX9_cheapest_0 : decode cX9_cheapest 0 = .ok (.aload_n 0, 1) := by decide +kernel
theorem dX9_cheapest_1 : decode cX9_cheapest 1 = .ok (.iload_n 1, 1) := by decide +kernel
theorem dX9_cheapest_2 : decode cX9_cheapest 2 = .ok (.invokevirtual 167, 3) := by decide +kernel
theorem dX9_cheapest_5 : decode cX9_cheapest 5 = .ok (.aload_n 0, 1) := by decide +kernel
theorem dX9_cheapest_6 : decode cX9_cheapest 6 = .ok (.getfield 71, 3) := by decide +kernel
theorem dX9_cheapest_9 : decode cX9_cheapest 9 = .ok (.aload_n 0, 1) := by decide +kernel
theorem dX9_cheapest_10 : decode cX9_cheapest 10 = .ok (.getfield 47, 3) := by decide +kernel
theorem dX9_cheapest_13 : decode cX9_cheapest 13 = .ok (.aload_n 0, 1) := by decide +kernel
theorem dX9_cheapest_14 : decode cX9_cheapest 14 = .ok (.getfield 26, 3) := by decide +kernel
theorem dX9_cheapest_17 : decode cX9_cheapest 17 = .ok (.aload_n 0, 1) := by decide +kernel
theorem dX9_cheapest_18 : decode cX9_cheapest 18 = .ok (.getfield 10, 3) := by decide +kernel
theorem dX9_cheapest_21 : decode cX9_cheapest 21 = .ok (.getfield 91, 3) := by decide +kernel
theorem dX9_cheapest_24 : decode cX9_cheapest 24 = .ok (.aload_n 0, 1) := by decide +kernel
theorem dX9_cheapest_25 : decode cX9_cheapest 25 = .ok (.invokevirtual 226, 3) := by decide +kernel
theorem dX9_cheapest_28 : decode cX9_cheapest 28 = .ok (.invokevirtual 257, 3) := by decide +kernel
theorem dX9_cheapest_31 : decode cX9_cheapest 31 = .ok (.pop, 1) := by decide +kernel
theorem dX9_cheapest_32 : decode cX9_cheapest 32 = .ok (.aload_n 0, 1) := by decide +kernel
theorem dX9_cheapest_33 : decode cX9_cheapest 33 = .ok (.getfield 71, 3) := by decide +kernel
theorem dX9_cheapest_36 : decode cX9_cheapest 36 = .ok (.getfield 264, 3) := by decide +kernel
theorem dX9_cheapest_39 : decode cX9_cheapest 39 = .ok (.iload_n 1, 1) := by decide +kernel
theorem dX9_cheapest_40 : decode cX9_cheapest 40 = .ok (.invokestatic 233, 3) := by decide +kernel
theorem dX9_cheapest_43 : decode cX9_cheapest 43 = .ok (.invokestatic 209, 3) := by decide +kernel
theorem dX9_cheapest_46 : decode cX9_cheapest 46 = .ok (.ireturn, 1) := by decide +kernel
theorem dX9_leastWith_0 : decode cX9_leastWith 0 = .ok (.aload_n 0, 1) := by decide +kernel
theorem dX9_leastWith_1 : decode cX9_leastWith 1 = .ok (.iload_n 1, 1) := by decide +kernel
theorem dX9_leastWith_2 : decode cX9_leastWith 2 = .ok (.iload_n 2, 1) := by decide +kernel
theorem dX9_leastWith_3 : decode cX9_leastWith 3 = .ok (.invokevirtual 95, 3) := by decide +kernel
theorem dX9_leastWith_6 : decode cX9_leastWith 6 = .ok (.aload_n 0, 1) := by decide +kernel
theorem dX9_leastWith_7 : decode cX9_leastWith 7 = .ok (.iload_n 1, 1) := by decide +kernel
theorem dX9_leastWith_8 : decode cX9_leastWith 8 = .ok (.iload_n 2, 1) := by decide +kernel
theorem dX9_leastWith_9 : decode cX9_leastWith 9 = .ok (.invokevirtual 161, 3) := by decide +kernel
theorem dX9_leastWith_12 : decode cX9_leastWith 12 = .ok (.aload_n 0, 1) := by decide +kernel
theorem dX9_leastWith_13 : decode cX9_leastWith 13 = .ok (.getfield 71, 3) := by decide +kernel
theorem dX9_leastWith_16 : decode cX9_leastWith 16 = .ok (.aload_n 0, 1) := by decide +kernel
theorem dX9_leastWith_17 : decode cX9_leastWith 17 = .ok (.getfield 47, 3) := by decide +kernel
theorem dX9_leastWith_20 : decode cX9_leastWith 20 = .ok (.aload_n 0, 1) := by decide +kernel
theorem dX9_leastWith_21 : decode cX9_leastWith 21 = .ok (.getfield 26, 3) := by decide +kernel
theorem dX9_leastWith_24 : decode cX9_leastWith 24 = .ok (.aload_n 0, 1) := by decide +kernel
theorem dX9_leastWith_25 : decode cX9_leastWith 25 = .ok (.getfield 10, 3) := by decide +kernel
theorem dX9_leastWith_28 : decode cX9_leastWith 28 = .ok (.getfield 91, 3) := by decide +kernel
theorem dX9_leastWith_31 : decode cX9_leastWith 31 = .ok (.aload_n 0, 1) := by decide +kernel
theorem dX9_leastWith_32 : decode cX9_leastWith 32 = .ok (.invokevirtual 226, 3) := by decide +kernel
theorem dX9_leastWith_35 : decode cX9_leastWith 35 = .ok (.iload_n 1, 1) := by decide +kernel
theorem dX9_leastWith_36 : decode cX9_leastWith 36 = .ok (.iload_n 2, 1) := by decide +kernel
theorem dX9_leastWith_37 : decode cX9_leastWith 37 = .ok (.invokestatic 182, 3) := by decide +kernel
theorem dX9_leastWith_40 : decode cX9_leastWith 40 = .ok (.invokevirtual 257, 3) := by decide +kernel
theorem dX9_leastWith_43 : decode cX9_leastWith 43 = .ok (.ireturn, 1) := by decide +kernel
theorem dX9_checkFeature_0 : decode cX9_checkFeature 0 = .ok (.aload_n 0, 1) := by decide +kernel
theorem dX9_checkFeature_1 : decode cX9_checkFeature 1 = .ok (.getfield 10, 3) := by decide +kernel
theorem dX9_checkFeature_4 : decode cX9_checkFeature 4 = .ok (.iload_n 1, 1) := by decide +kernel
theorem dX9_checkFeature_5 : decode cX9_checkFeature 5 = .ok (.invokevirtual 267, 3) := by decide +kernel
theorem dX9_checkFeature_8 : decode cX9_checkFeature 8 = .ok (.ifCond .ne 14, 3) := by decide +kernel
theorem dX9_checkFeature_11 : decode cX9_checkFeature 11 = .ok (.new 218, 3) := by decide +kernel
theorem dX9_checkFeature_14 : decode cX9_checkFeature 14 = .ok (.dup, 1) := by decide +kernel
theorem dX9_checkFeature_15 : decode cX9_checkFeature 15 = .ok (.ldc_w 268, 3) := by decide +kernel
theorem dX9_checkFeature_18 : decode cX9_checkFeature 18 = .ok (.invokespecial 222, 3) := by decide +kernel
theorem dX9_checkFeature_21 : decode cX9_checkFeature 21 = .ok (.athrow, 1) := by decide +kernel
theorem dX9_checkFeature_22 : decode cX9_checkFeature 22 = .ok (.return_, 1) := by decide +kernel
theorem dX9_checkOption_0 : decode cX9_checkOption 0 = .ok (.aload_n 0, 1) := by decide +kernel
theorem dX9_checkOption_1 : decode cX9_checkOption 1 = .ok (.iload_n 1, 1) := by decide +kernel
theorem dX9_checkOption_2 : decode cX9_checkOption 2 = .ok (.invokevirtual 167, 3) := by decide +kernel
theorem dX9_checkOption_5 : decode cX9_checkOption 5 = .ok (.iload_n 2, 1) := by decide +kernel
theorem dX9_checkOption_6 : decode cX9_checkOption 6 = .ok (.ifCond .lt 16, 3) := by decide +kernel
theorem dX9_checkOption_9 : decode cX9_checkOption 9 = .ok (.iload_n 2, 1) := by decide +kernel
theorem dX9_checkOption_10 : decode cX9_checkOption 10 = .ok (.aload_n 0, 1) := by decide +kernel
theorem dX9_checkOption_11 : decode cX9_checkOption 11 = .ok (.getfield 10, 3) := by decide +kernel
theorem dX9_checkOption_14 : decode cX9_checkOption 14 = .ok (.getfield 215, 3) := by decide +kernel
theorem dX9_checkOption_17 : decode cX9_checkOption 17 = .ok (.iload_n 1, 1) := by decide +kernel
theorem dX9_checkOption_18 : decode cX9_checkOption 18 = .ok (.iaload, 1) := by decide +kernel
theorem dX9_checkOption_19 : decode cX9_checkOption 19 = .ok (.if_icmp .lt 14, 3) := by decide +kernel
theorem dX9_checkOption_22 : decode cX9_checkOption 22 = .ok (.new 218, 3) := by decide +kernel
theorem dX9_checkOption_25 : decode cX9_checkOption 25 = .ok (.dup, 1) := by decide +kernel
theorem dX9_checkOption_26 : decode cX9_checkOption 26 = .ok (.ldc_w 270, 3) := by decide +kernel
theorem dX9_checkOption_29 : decode cX9_checkOption 29 = .ok (.invokespecial 222, 3) := by decide +kernel
theorem dX9_checkOption_32 : decode cX9_checkOption 32 = .ok (.athrow, 1) := by decide +kernel
theorem dX9_checkOption_33 : decode cX9_checkOption 33 = .ok (.return_, 1) := by decide +kernel
theorem dX9_checkRule_0 : decode cX9_checkRule 0 = .ok (.iload_n 1, 1) := by decide +kernel
theorem dX9_checkRule_1 : decode cX9_checkRule 1 = .ok (.ifCond .lt 14, 3) := by decide +kernel
theorem dX9_checkRule_4 : decode cX9_checkRule 4 = .ok (.iload_n 1, 1) := by decide +kernel
theorem dX9_checkRule_5 : decode cX9_checkRule 5 = .ok (.aload_n 0, 1) := by decide +kernel
theorem dX9_checkRule_6 : decode cX9_checkRule 6 = .ok (.getfield 19, 3) := by decide +kernel
theorem dX9_checkRule_9 : decode cX9_checkRule 9 = .ok (.getfield 128, 3) := by decide +kernel
theorem dX9_checkRule_12 : decode cX9_checkRule 12 = .ok (.if_icmp .lt 14, 3) := by decide +kernel
theorem dX9_checkRule_15 : decode cX9_checkRule 15 = .ok (.new 218, 3) := by decide +kernel
theorem dX9_checkRule_18 : decode cX9_checkRule 18 = .ok (.dup, 1) := by decide +kernel
theorem dX9_checkRule_19 : decode cX9_checkRule 19 = .ok (.ldc_w 272, 3) := by decide +kernel
theorem dX9_checkRule_22 : decode cX9_checkRule 22 = .ok (.invokespecial 222, 3) := by decide +kernel
theorem dX9_checkRule_25 : decode cX9_checkRule 25 = .ok (.athrow, 1) := by decide +kernel
theorem dX9_checkRule_26 : decode cX9_checkRule 26 = .ok (.return_, 1) := by decide +kernel
theorem dX9_checkDifferent_0 : decode cX9_checkDifferent 0 = .ok (.iload_n 1, 1) := by decide +kernel
theorem dX9_checkDifferent_1 : decode cX9_checkDifferent 1 = .ok (.iload_n 2, 1) := by decide +kernel
theorem dX9_checkDifferent_2 : decode cX9_checkDifferent 2 = .ok (.if_icmp .ne 14, 3) := by decide +kernel
theorem dX9_checkDifferent_5 : decode cX9_checkDifferent 5 = .ok (.new 75, 3) := by decide +kernel
theorem dX9_checkDifferent_8 : decode cX9_checkDifferent 8 = .ok (.dup, 1) := by decide +kernel
theorem dX9_checkDifferent_9 : decode cX9_checkDifferent 9 = .ok (.ldc_w 274, 3) := by decide +kernel
theorem dX9_checkDifferent_12 : decode cX9_checkDifferent 12 = .ok (.invokespecial 79, 3) := by decide +kernel
theorem dX9_checkDifferent_15 : decode cX9_checkDifferent 15 = .ok (.athrow, 1) := by decide +kernel
theorem dX9_checkDifferent_16 : decode cX9_checkDifferent 16 = .ok (.return_, 1) := by decide +kernel
theorem dX9_checkPossible_0 : decode cX9_checkPossible 0 = .ok (.aload_n 1, 1) := by decide +kernel
theorem dX9_checkPossible_1 : decode cX9_checkPossible 1 = .ok (.aload_n 0, 1) := by decide +kernel
theorem dX9_checkPossible_2 : decode cX9_checkPossible 2 = .ok (.invokevirtual 226, 3) := by decide +kernel
theorem dX9_checkPossible_5 : decode cX9_checkPossible 5 = .ok (.aload_n 0, 1) := by decide +kernel
theorem dX9_checkPossible_6 : decode cX9_checkPossible 6 = .ok (.getfield 10, 3) := by decide +kernel
theorem dX9_checkPossible_9 : decode cX9_checkPossible 9 = .ok (.getfield 91, 3) := by decide +kernel
theorem dX9_checkPossible_12 : decode cX9_checkPossible 12 = .ok (.invokevirtual 186, 3) := by decide +kernel
theorem dX9_checkPossible_15 : decode cX9_checkPossible 15 = .ok (.ifCond .ne 14, 3) := by decide +kernel
theorem dX9_checkPossible_18 : decode cX9_checkPossible 18 = .ok (.new 86, 3) := by decide +kernel
theorem dX9_checkPossible_21 : decode cX9_checkPossible 21 = .ok (.dup, 1) := by decide +kernel
theorem dX9_checkPossible_22 : decode cX9_checkPossible 22 = .ok (.ldc_w 276, 3) := by decide +kernel
theorem dX9_checkPossible_25 : decode cX9_checkPossible 25 = .ok (.invokespecial 90, 3) := by decide +kernel
theorem dX9_checkPossible_28 : decode cX9_checkPossible 28 = .ok (.athrow, 1) := by decide +kernel
theorem dX9_checkPossible_29 : decode cX9_checkPossible 29 = .ok (.return_, 1) := by decide +kernel
theorem dX9_checkOffered_0 : decode cX9_checkOffered 0 = .ok (.aload_n 0, 1) := by decide +kernel
theorem dX9_checkOffered_1 : decode cX9_checkOffered 1 = .ok (.iload_n 1, 1) := by decide +kernel
theorem dX9_checkOffered_2 : decode cX9_checkOffered 2 = .ok (.iload_n 2, 1) := by decide +kernel
theorem dX9_checkOffered_3 : decode cX9_checkOffered 3 = .ok (.invokevirtual 203, 3) := by decide +kernel
theorem dX9_checkOffered_6 : decode cX9_checkOffered 6 = .ok (.ifCond .ne 14, 3) := by decide +kernel
theorem dX9_checkOffered_9 : decode cX9_checkOffered 9 = .ok (.new 86, 3) := by decide +kernel
theorem dX9_checkOffered_12 : decode cX9_checkOffered 12 = .ok (.dup, 1) := by decide +kernel
theorem dX9_checkOffered_13 : decode cX9_checkOffered 13 = .ok (.ldc_w 278, 3) := by decide +kernel
theorem dX9_checkOffered_16 : decode cX9_checkOffered 16 = .ok (.invokespecial 90, 3) := by decide +kernel
theorem dX9_checkOffered_19 : decode cX9_checkOffered 19 = .ok (.athrow, 1) := by decide +kernel
theorem dX9_checkOffered_20 : decode cX9_checkOffered 20 = .ok (.return_, 1) := by decide +kernel
theorem dX9_explain_0 : decode cX9_explain 0 = .ok (.aload_n 0, 1) := by decide +kernel
theorem dX9_explain_1 : decode cX9_explain 1 = .ok (.getfield 64, 3) := by decide +kernel
theorem dX9_explain_4 : decode cX9_explain 4 = .ok (.aload_n 0, 1) := by decide +kernel
theorem dX9_explain_5 : decode cX9_explain 5 = .ok (.getfield 19, 3) := by decide +kernel
theorem dX9_explain_8 : decode cX9_explain 8 = .ok (.aload_n 0, 1) := by decide +kernel
theorem dX9_explain_9 : decode cX9_explain 9 = .ok (.getfield 40, 3) := by decide +kernel
theorem dX9_explain_12 : decode cX9_explain 12 = .ok (.aload_n 0, 1) := by decide +kernel
theorem dX9_explain_13 : decode cX9_explain 13 = .ok (.getfield 10, 3) := by decide +kernel
theorem dX9_explain_16 : decode cX9_explain 16 = .ok (.getfield 91, 3) := by decide +kernel
theorem dX9_explain_19 : decode cX9_explain 19 = .ok (.aload_n 0, 1) := by decide +kernel
theorem dX9_explain_20 : decode cX9_explain 20 = .ok (.getfield 10, 3) := by decide +kernel
theorem dX9_explain_23 : decode cX9_explain 23 = .ok (.getfield 179, 3) := by decide +kernel
theorem dX9_explain_26 : decode cX9_explain 26 = .ok (.iload_n 1, 1) := by decide +kernel
theorem dX9_explain_27 : decode cX9_explain 27 = .ok (.iload_n 2, 1) := by decide +kernel
theorem dX9_explain_28 : decode cX9_explain 28 = .ok (.invokestatic 182, 3) := by decide +kernel
theorem dX9_explain_31 : decode cX9_explain 31 = .ok (.iload_n 1, 1) := by decide +kernel
theorem dX9_explain_32 : decode cX9_explain 32 = .ok (.invokevirtual 280, 3) := by decide +kernel
theorem dX9_explain_35 : decode cX9_explain 35 = .ok (.ireturn, 1) := by decide +kernel
theorem dX9_allowed_0 : decode cX9_allowed 0 = .ok (.aload_n 0, 1) := by decide +kernel
theorem dX9_allowed_1 : decode cX9_allowed 1 = .ok (.getfield 40, 3) := by decide +kernel
theorem dX9_allowed_4 : decode cX9_allowed 4 = .ok (.aload_n 0, 1) := by decide +kernel
theorem dX9_allowed_5 : decode cX9_allowed 5 = .ok (.getfield 10, 3) := by decide +kernel
theorem dX9_allowed_8 : decode cX9_allowed 8 = .ok (.getfield 179, 3) := by decide +kernel
theorem dX9_allowed_11 : decode cX9_allowed 11 = .ok (.aload_n 0, 1) := by decide +kernel
theorem dX9_allowed_12 : decode cX9_allowed 12 = .ok (.getfield 40, 3) := by decide +kernel
theorem dX9_allowed_15 : decode cX9_allowed 15 = .ok (.getfield 284, 3) := by decide +kernel
theorem dX9_allowed_18 : decode cX9_allowed 18 = .ok (.invokevirtual 287, 3) := by decide +kernel
theorem dX9_allowed_21 : decode cX9_allowed 21 = .ok (.ireturn, 1) := by decide +kernel
theorem dX9_isOffered_0 : decode cX9_isOffered 0 = .ok (.aload_n 0, 1) := by decide +kernel
theorem dX9_isOffered_1 : decode cX9_isOffered 1 = .ok (.invokevirtual 226, 3) := by decide +kernel
theorem dX9_isOffered_4 : decode cX9_isOffered 4 = .ok (.istore_n 3, 1) := by decide +kernel
theorem dX9_isOffered_5 : decode cX9_isOffered 5 = .ok (.iload_n 3, 1) := by decide +kernel
theorem dX9_isOffered_6 : decode cX9_isOffered 6 = .ok (.iload_n 1, 1) := by decide +kernel
theorem dX9_isOffered_7 : decode cX9_isOffered 7 = .ok (.iload_n 2, 1) := by decide +kernel
theorem dX9_isOffered_8 : decode cX9_isOffered 8 = .ok (.invokestatic 104, 3) := by decide +kernel
theorem dX9_isOffered_11 : decode cX9_isOffered 11 = .ok (.invokestatic 133, 3) := by decide +kernel
theorem dX9_isOffered_14 : decode cX9_isOffered 14 = .ok (.ifCond .eq 30, 3) := by decide +kernel
theorem dX9_isOffered_17 : decode cX9_isOffered 17 = .ok (.aload_n 0, 1) := by decide +kernel
theorem dX9_isOffered_18 : decode cX9_isOffered 18 = .ok (.getfield 47, 3) := by decide +kernel
theorem dX9_isOffered_21 : decode cX9_isOffered 21 = .ok (.iload_n 3, 1) := by decide +kernel
theorem dX9_isOffered_22 : decode cX9_isOffered 22 = .ok (.iload_n 1, 1) := by decide +kernel
theorem dX9_isOffered_23 : decode cX9_isOffered 23 = .ok (.iload_n 2, 1) := by decide +kernel
theorem dX9_isOffered_24 : decode cX9_isOffered 24 = .ok (.invokestatic 182, 3) := by decide +kernel
theorem dX9_isOffered_27 : decode cX9_isOffered 27 = .ok (.aload_n 0, 1) := by decide +kernel
theorem dX9_isOffered_28 : decode cX9_isOffered 28 = .ok (.getfield 10, 3) := by decide +kernel
theorem dX9_isOffered_31 : decode cX9_isOffered 31 = .ok (.getfield 91, 3) := by decide +kernel
theorem dX9_isOffered_34 : decode cX9_isOffered 34 = .ok (.invokevirtual 186, 3) := by decide +kernel
theorem dX9_isOffered_37 : decode cX9_isOffered 37 = .ok (.ifCond .eq 7, 3) := by decide +kernel
theorem dX9_isOffered_40 : decode cX9_isOffered 40 = .ok (.iconst 1, 1) := by decide +kernel
theorem dX9_isOffered_41 : decode cX9_isOffered 41 = .ok (.goto 4, 3) := by decide +kernel
theorem dX9_isOffered_44 : decode cX9_isOffered 44 = .ok (.iconst 0, 1) := by decide +kernel
theorem dX9_isOffered_45 : decode cX9_isOffered 45 = .ok (.ireturn, 1) := by decide +kernel
theorem dX9_offeredOf_0 : decode cX9_offeredOf 0 = .ok (.iconst 0, 1) := by decide +kernel
theorem dX9_offeredOf_1 : decode cX9_offeredOf 1 = .ok (.istore_n 2, 1) := by decide +kernel
theorem dX9_offeredOf_2 : decode cX9_offeredOf 2 = .ok (.iconst 0, 1) := by decide +kernel
theorem dX9_offeredOf_3 : decode cX9_offeredOf 3 = .ok (.istore_n 3, 1) := by decide +kernel
theorem dX9_offeredOf_4 : decode cX9_offeredOf 4 = .ok (.iload_n 3, 1) := by decide +kernel
theorem dX9_offeredOf_5 : decode cX9_offeredOf 5 = .ok (.iconst 5, 1) := by decide +kernel
theorem dX9_offeredOf_6 : decode cX9_offeredOf 6 = .ok (.if_icmp .ge 24, 3) := by decide +kernel
theorem dX9_offeredOf_9 : decode cX9_offeredOf 9 = .ok (.aload_n 0, 1) := by decide +kernel
theorem dX9_offeredOf_10 : decode cX9_offeredOf 10 = .ok (.iload_n 1, 1) := by decide +kernel
theorem dX9_offeredOf_11 : decode cX9_offeredOf 11 = .ok (.iload_n 3, 1) := by decide +kernel
theorem dX9_offeredOf_12 : decode cX9_offeredOf 12 = .ok (.invokevirtual 203, 3) := by decide +kernel
theorem dX9_offeredOf_15 : decode cX9_offeredOf 15 = .ok (.ifCond .eq 9, 3) := by decide +kernel
theorem dX9_offeredOf_18 : decode cX9_offeredOf 18 = .ok (.iload_n 2, 1) := by decide +kernel
theorem dX9_offeredOf_19 : decode cX9_offeredOf 19 = .ok (.iconst 1, 1) := by decide +kernel
theorem dX9_offeredOf_20 : decode cX9_offeredOf 20 = .ok (.iload_n 3, 1) := by decide +kernel
theorem dX9_offeredOf_21 : decode cX9_offeredOf 21 = .ok (.ishl, 1) := by decide +kernel
theorem dX9_offeredOf_22 : decode cX9_offeredOf 22 = .ok (.ior, 1) := by decide +kernel
theorem dX9_offeredOf_23 : decode cX9_offeredOf 23 = .ok (.istore_n 2, 1) := by decide +kernel
theorem dX9_offeredOf_24 : decode cX9_offeredOf 24 = .ok (.iinc 3 1, 3) := by decide +kernel
theorem dX9_offeredOf_27 : decode cX9_offeredOf 27 = .ok (.goto (-23), 3) := by decide +kernel
theorem dX9_offeredOf_30 : decode cX9_offeredOf 30 = .ok (.iload_n 2, 1) := by decide +kernel
theorem dX9_offeredOf_31 : decode cX9_offeredOf 31 = .ok (.ireturn, 1) := by decide +kernel
theorem dX9_tryFrom_0 : decode cX9_tryFrom 0 = .ok (.iload_n 2, 1) := by decide +kernel
theorem dX9_tryFrom_1 : decode cX9_tryFrom 1 = .ok (.iload_n 1, 1) := by decide +kernel
theorem dX9_tryFrom_2 : decode cX9_tryFrom 2 = .ok (.if_icmp .lt 18, 3) := by decide +kernel
theorem dX9_tryFrom_5 : decode cX9_tryFrom 5 = .ok (.aload_n 0, 1) := by decide +kernel
theorem dX9_tryFrom_6 : decode cX9_tryFrom 6 = .ok (.iload 4, 2) := by decide +kernel
theorem dX9_tryFrom_8 : decode cX9_tryFrom 8 = .ok (.invokevirtual 288, 3) := by decide +kernel
theorem dX9_tryFrom_11 : decode cX9_tryFrom 11 = .ok (.ifCond .eq 7, 3) := by decide +kernel
theorem dX9_tryFrom_14 : decode cX9_tryFrom 14 = .ok (.iconst 1, 1) := by decide +kernel
theorem dX9_tryFrom_15 : decode cX9_tryFrom 15 = .ok (.goto 4, 3) := by decide +kernel
theorem dX9_tryFrom_18 : decode cX9_tryFrom 18 = .ok (.iconst 0, 1) := by decide +kernel
theorem dX9_tryFrom_19 : decode cX9_tryFrom 19 = .ok (.ireturn, 1) := by decide +kernel
theorem dX9_tryFrom_20 : decode cX9_tryFrom 20 = .ok (.iconst 0, 1) := by decide +kernel
theorem dX9_tryFrom_21 : decode cX9_tryFrom 21 = .ok (.istore 5, 2) := by decide +kernel
theorem dX9_tryFrom_23 : decode cX9_tryFrom 23 = .ok (.iconst 0, 1) := by decide +kernel
theorem dX9_tryFrom_24 : decode cX9_tryFrom 24 = .ok (.istore 6, 2) := by decide +kernel
theorem dX9_tryFrom_26 : decode cX9_tryFrom 26 = .ok (.iload 6, 2) := by decide +kernel
theorem dX9_tryFrom_28 : decode cX9_tryFrom 28 = .ok (.iconst 5, 1) := by decide +kernel
theorem dX9_tryFrom_29 : decode cX9_tryFrom 29 = .ok (.if_icmp .ge 47, 3) := by decide +kernel
theorem dX9_tryFrom_32 : decode cX9_tryFrom 32 = .ok (.iload_n 2, 1) := by decide +kernel
theorem dX9_tryFrom_33 : decode cX9_tryFrom 33 = .ok (.iload 6, 2) := by decide +kernel
theorem dX9_tryFrom_35 : decode cX9_tryFrom 35 = .ok (.invokestatic 104, 3) := by decide +kernel
theorem dX9_tryFrom_38 : decode cX9_tryFrom 38 = .ok (.istore 7, 2) := by decide +kernel
theorem dX9_tryFrom_40 : decode cX9_tryFrom 40 = .ok (.iload_n 3, 1) := by decide +kernel
theorem dX9_tryFrom_41 : decode cX9_tryFrom 41 = .ok (.iload 7, 2) := by decide +kernel
theorem dX9_tryFrom_43 : decode cX9_tryFrom 43 = .ok (.invokestatic 133, 3) := by decide +kernel
theorem dX9_tryFrom_46 : decode cX9_tryFrom 46 = .ok (.ifCond .eq 24, 3) := by decide +kernel
theorem dX9_tryFrom_49 : decode cX9_tryFrom 49 = .ok (.iload 5, 2) := by decide +kernel
theorem dX9_tryFrom_51 : decode cX9_tryFrom 51 = .ok (.aload_n 0, 1) := by decide +kernel
theorem dX9_tryFrom_52 : decode cX9_tryFrom 52 = .ok (.iload_n 1, 1) := by decide +kernel
theorem dX9_tryFrom_53 : decode cX9_tryFrom 53 = .ok (.iload_n 2, 1) := by decide +kernel
theorem dX9_tryFrom_54 : decode cX9_tryFrom 54 = .ok (.iconst 1, 1) := by decide +kernel
theorem dX9_tryFrom_55 : decode cX9_tryFrom 55 = .ok (.iadd, 1) := by decide +kernel
theorem dX9_tryFrom_56 : decode cX9_tryFrom 56 = .ok (.iload_n 3, 1) := by decide +kernel
theorem dX9_tryFrom_57 : decode cX9_tryFrom 57 = .ok (.iload 4, 2) := by decide +kernel
theorem dX9_tryFrom_59 : decode cX9_tryFrom 59 = .ok (.iconst 1, 1) := by decide +kernel
theorem dX9_tryFrom_60 : decode cX9_tryFrom 60 = .ok (.iload 7, 2) := by decide +kernel
theorem dX9_tryFrom_62 : decode cX9_tryFrom 62 = .ok (.ishl, 1) := by decide +kernel
theorem dX9_tryFrom_63 : decode cX9_tryFrom 63 = .ok (.ior, 1) := by decide +kernel
theorem dX9_tryFrom_64 : decode cX9_tryFrom 64 = .ok (.invokestatic 243, 3) := by decide +kernel
theorem dX9_tryFrom_67 : decode cX9_tryFrom 67 = .ok (.iadd, 1) := by decide +kernel
theorem dX9_tryFrom_68 : decode cX9_tryFrom 68 = .ok (.istore 5, 2) := by decide +kernel
theorem dX9_tryFrom_70 : decode cX9_tryFrom 70 = .ok (.iinc 6 1, 3) := by decide +kernel
theorem dX9_tryFrom_73 : decode cX9_tryFrom 73 = .ok (.goto (-47), 3) := by decide +kernel
theorem dX9_tryFrom_76 : decode cX9_tryFrom 76 = .ok (.iload 5, 2) := by decide +kernel
theorem dX9_tryFrom_78 : decode cX9_tryFrom 78 = .ok (.ireturn, 1) := by decide +kernel
theorem dX9_slotOf_0 : decode cX9_slotOf 0 = .ok (.iload_n 0, 1) := by decide +kernel
theorem dX9_slotOf_1 : decode cX9_slotOf 1 = .ok (.iconst 5, 1) := by decide +kernel
theorem dX9_slotOf_2 : decode cX9_slotOf 2 = .ok (.imul, 1) := by decide +kernel
theorem dX9_slotOf_3 : decode cX9_slotOf 3 = .ok (.iload_n 1, 1) := by decide +kernel
theorem dX9_slotOf_4 : decode cX9_slotOf 4 = .ok (.iadd, 1) := by decide +kernel
theorem dX9_slotOf_5 : decode cX9_slotOf 5 = .ok (.ireturn, 1) := by decide +kernel
theorem dX9_holds_0 : decode cX9_holds 0 = .ok (.iload_n 0, 1) := by decide +kernel
theorem dX9_holds_1 : decode cX9_holds 1 = .ok (.iload_n 1, 1) := by decide +kernel
theorem dX9_holds_2 : decode cX9_holds 2 = .ok (.ishr, 1) := by decide +kernel
theorem dX9_holds_3 : decode cX9_holds 3 = .ok (.iconst 1, 1) := by decide +kernel
theorem dX9_holds_4 : decode cX9_holds 4 = .ok (.iand, 1) := by decide +kernel
theorem dX9_holds_5 : decode cX9_holds 5 = .ok (.ifCond .eq 7, 3) := by decide +kernel
theorem dX9_holds_8 : decode cX9_holds 8 = .ok (.iconst 1, 1) := by decide +kernel
theorem dX9_holds_9 : decode cX9_holds 9 = .ok (.goto 4, 3) := by decide +kernel
theorem dX9_holds_12 : decode cX9_holds 12 = .ok (.iconst 0, 1) := by decide +kernel
theorem dX9_holds_13 : decode cX9_holds 13 = .ok (.ireturn, 1) := by decide +kernel
theorem dX9_setOf_0 : decode cX9_setOf 0 = .ok (.iload_n 0, 1) := by decide +kernel
theorem dX9_setOf_1 : decode cX9_setOf 1 = .ok (.iload_n 1, 1) := by decide +kernel
theorem dX9_setOf_2 : decode cX9_setOf 2 = .ok (.iconst 5, 1) := by decide +kernel
theorem dX9_setOf_3 : decode cX9_setOf 3 = .ok (.imul, 1) := by decide +kernel
theorem dX9_setOf_4 : decode cX9_setOf 4 = .ok (.ishr, 1) := by decide +kernel
theorem dX9_setOf_5 : decode cX9_setOf 5 = .ok (.bipush 31, 2) := by decide +kernel
theorem dX9_setOf_7 : decode cX9_setOf 7 = .ok (.iand, 1) := by decide +kernel
theorem dX9_setOf_8 : decode cX9_setOf 8 = .ok (.ireturn, 1) := by decide +kernel
theorem dX9_only_0 : decode cX9_only 0 = .ok (.iload_n 0, 1) := by decide +kernel
theorem dX9_only_1 : decode cX9_only 1 = .ok (.bipush 31, 2) := by decide +kernel
theorem dX9_only_3 : decode cX9_only 3 = .ok (.iload_n 1, 1) := by decide +kernel
theorem dX9_only_4 : decode cX9_only 4 = .ok (.iconst 5, 1) := by decide +kernel
theorem dX9_only_5 : decode cX9_only 5 = .ok (.imul, 1) := by decide +kernel
theorem dX9_only_6 : decode cX9_only 6 = .ok (.ishl, 1) := by decide +kernel
theorem dX9_only_7 : decode cX9_only 7 = .ok (.iconst (-1), 1) := by decide +kernel
theorem dX9_only_8 : decode cX9_only 8 = .ok (.ixor, 1) := by decide +kernel
theorem dX9_only_9 : decode cX9_only 9 = .ok (.iand, 1) := by decide +kernel
theorem dX9_only_10 : decode cX9_only 10 = .ok (.iconst 1, 1) := by decide +kernel
theorem dX9_only_11 : decode cX9_only 11 = .ok (.iload_n 1, 1) := by decide +kernel
theorem dX9_only_12 : decode cX9_only 12 = .ok (.iload_n 2, 1) := by decide +kernel
theorem dX9_only_13 : decode cX9_only 13 = .ok (.invokestatic 104, 3) := by decide +kernel
theorem dX9_only_16 : decode cX9_only 16 = .ok (.ishl, 1) := by decide +kernel
theorem dX9_only_17 : decode cX9_only 17 = .ok (.ior, 1) := by decide +kernel
theorem dX9_only_18 : decode cX9_only 18 = .ok (.ireturn, 1) := by decide +kernel
theorem dX9_isSomeLeftFrom_0 : decode cX9_isSomeLeftFrom 0 = .ok (.iload_n 0, 1) := by decide +kernel
theorem dX9_isSomeLeftFrom_1 : decode cX9_isSomeLeftFrom 1 = .ok (.istore_n 3, 1) := by decide +kernel
theorem dX9_isSomeLeftFrom_2 : decode cX9_isSomeLeftFrom 2 = .ok (.iload_n 3, 1) := by decide +kernel
theorem dX9_isSomeLeftFrom_3 : decode cX9_isSomeLeftFrom 3 = .ok (.iload_n 1, 1) := by decide +kernel
theorem dX9_isSomeLeftFrom_4 : decode cX9_isSomeLeftFrom 4 = .ok (.if_icmp .ge 19, 3) := by decide +kernel
theorem dX9_isSomeLeftFrom_7 : decode cX9_isSomeLeftFrom 7 = .ok (.iload_n 2, 1) := by decide +kernel
theorem dX9_isSomeLeftFrom_8 : decode cX9_isSomeLeftFrom 8 = .ok (.iload_n 3, 1) := by decide +kernel
theorem dX9_isSomeLeftFrom_9 : decode cX9_isSomeLeftFrom 9 = .ok (.invokestatic 233, 3) := by decide +kernel
theorem dX9_isSomeLeftFrom_12 : decode cX9_isSomeLeftFrom 12 = .ok (.ifCond .ne 5, 3) := by decide +kernel
theorem dX9_isSomeLeftFrom_15 : decode cX9_isSomeLeftFrom 15 = .ok (.iconst 0, 1) := by decide +kernel
theorem dX9_isSomeLeftFrom_16 : decode cX9_isSomeLeftFrom 16 = .ok (.ireturn, 1) := by decide +kernel
theorem dX9_isSomeLeftFrom_17 : decode cX9_isSomeLeftFrom 17 = .ok (.iinc 3 1, 3) := by decide +kernel
theorem dX9_isSomeLeftFrom_20 : decode cX9_isSomeLeftFrom 20 = .ok (.goto (-18), 3) := by decide +kernel
theorem dX9_isSomeLeftFrom_23 : decode cX9_isSomeLeftFrom 23 = .ok (.iconst 1, 1) := by decide +kernel
theorem dX9_isSomeLeftFrom_24 : decode cX9_isSomeLeftFrom 24 = .ok (.ireturn, 1) := by decide +kernel
theorem dX9_lowestOf_0 : decode cX9_lowestOf 0 = .ok (.iconst 0, 1) := by decide +kernel
theorem dX9_lowestOf_1 : decode cX9_lowestOf 1 = .ok (.istore_n 1, 1) := by decide +kernel
theorem dX9_lowestOf_2 : decode cX9_lowestOf 2 = .ok (.iload_n 1, 1) := by decide +kernel
theorem dX9_lowestOf_3 : decode cX9_lowestOf 3 = .ok (.iconst 5, 1) := by decide +kernel
theorem dX9_lowestOf_4 : decode cX9_lowestOf 4 = .ok (.if_icmp .ge 19, 3) := by decide +kernel
theorem dX9_lowestOf_7 : decode cX9_lowestOf 7 = .ok (.iload_n 0, 1) := by decide +kernel
theorem dX9_lowestOf_8 : decode cX9_lowestOf 8 = .ok (.iload_n 1, 1) := by decide +kernel
theorem dX9_lowestOf_9 : decode cX9_lowestOf 9 = .ok (.invokestatic 133, 3) := by decide +kernel
theorem dX9_lowestOf_12 : decode cX9_lowestOf 12 = .ok (.ifCond .eq 5, 3) := by decide +kernel
theorem dX9_lowestOf_15 : decode cX9_lowestOf 15 = .ok (.iload_n 1, 1) := by decide +kernel
theorem dX9_lowestOf_16 : decode cX9_lowestOf 16 = .ok (.ireturn, 1) := by decide +kernel
theorem dX9_lowestOf_17 : decode cX9_lowestOf 17 = .ok (.iinc 1 1, 3) := by decide +kernel
theorem dX9_lowestOf_20 : decode cX9_lowestOf 20 = .ok (.goto (-18), 3) := by decide +kernel
theorem dX9_lowestOf_23 : decode cX9_lowestOf 23 = .ok (.iconst (-1), 1) := by decide +kernel
theorem dX9_lowestOf_24 : decode cX9_lowestOf 24 = .ok (.ireturn, 1) := by decide +kernel
