theorem dX0_round_6 : decode cX0_round 6 = .ok (.lconst 1, 1) := by decide +kernel
theorem dX0_round_7 : decode cX0_round 7 = .ok (.lcmp, 1) := by decide +kernel
theorem dX0_round_8 : decode cX0_round 8 = .ok (.ifCond .lt 11, 3) := by decide +kernel
theorem dX0_round_11 : decode cX0_round 11 = .ok (.lload_n 3, 1) := by decide +kernel
theorem dX0_round_12 : decode cX0_round 12 = .ok (.ldc2_w 155, 3) := by decide +kernel
theorem dX0_round_15 : decode cX0_round 15 = .ok (.lcmp, 1) := by decide +kernel
theorem dX0_round_16 : decode cX0_round 16 = .ok (.ifCond .le 13, 3) := by decide +kernel
theorem dX0_round_19 : decode cX0_round 19 = .ok (.new 27, 3) := by decide +kernel
theorem dX0_round_22 : decode cX0_round 22 = .ok (.dup, 1) := by decide +kernel
theorem dX0_round_23 : decode cX0_round 23 = .ok (.ldc 157, 2) := by decide +kernel
theorem dX0_round_25 : decode cX0_round 25 = .ok (.invokespecial 31, 3) := by decide +kernel
theorem dX0_round_28 : decode cX0_round 28 = .ok (.athrow, 1) := by decide +kernel
theorem dX0_round_29 : decode cX0_round 29 = .ok (.lload_n 1, 1) := by decide +kernel
theorem dX0_round_30 : decode cX0_round 30 = .ok (.ldc2_w 159, 3) := by decide +kernel
theorem dX0_round_33 : decode cX0_round 33 = .ok (.lcmp, 1) := by decide +kernel
theorem dX0_round_34 : decode cX0_round 34 = .ok (.ifCond .lt 11, 3) := by decide +kernel
theorem dX0_round_37 : decode cX0_round 37 = .ok (.lload_n 1, 1) := by decide +kernel
theorem dX0_round_38 : decode cX0_round 38 = .ok (.ldc2_w 155, 3) := by decide +kernel
theorem dX0_round_41 : decode cX0_round 41 = .ok (.lcmp, 1) := by decide +kernel
theorem dX0_round_42 : decode cX0_round 42 = .ok (.ifCond .le 13, 3) := by decide +kernel
theorem dX0_round_45 : decode cX0_round 45 = .ok (.new 27, 3) := by decide +kernel
theorem dX0_round_48 : decode cX0_round 48 = .ok (.dup, 1) := by decide +kernel
theorem dX0_round_49 : decode cX0_round 49 = .ok (.ldc 161, 2) := by decide +kernel
theorem dX0_round_51 : decode cX0_round 51 = .ok (.invokespecial 31, 3) := by decide +kernel
theorem dX0_round_54 : decode cX0_round 54 = .ok (.athrow, 1) := by decide +kernel
theorem dX0_round_55 : decode cX0_round 55 = .ok (.lload_n 1, 1) := by decide +kernel
theorem dX0_round_56 : decode cX0_round 56 = .ok (.lload_n 3, 1) := by decide +kernel
theorem dX0_round_57 : decode cX0_round 57 = .ok (.iload 5, 2) := by decide +kernel
theorem dX0_round_59 : decode cX0_round 59 = .ok (.invokestatic 152, 3) := by decide +kernel
theorem dX0_round_62 : decode cX0_round 62 = .ok (.lreturn, 1) := by decide +kernel
theorem dL_machine_0 : decode cL_machine 0 = .ok (.aload_n 3, 1) := by decide +kernel
theorem dL_machine_1 : decode cL_machine 1 = .ok (.iconst 0, 1) := by decide +kernel
theorem dL_machine_2 : decode cL_machine 2 = .ok (.aload_n 0, 1) := by decide +kernel
theorem dL_machine_3 : decode cL_machine 3 = .ok (.iload_n 1, 1) := by decide +kernel
theorem dL_machine_4 : decode cL_machine 4 = .ok (.iload_n 2, 1) := by decide +kernel
theorem dL_machine_5 : decode cL_machine 5 = .ok (.invokevirtual 56, 3) := by decide +kernel
theorem dL_machine_8 : decode cL_machine 8 = .ok (.ifCond .eq 7, 3) := by decide +kernel
theorem dL_machine_11 : decode cL_machine 11 = .ok (.lconst 1, 1) := by decide +kernel
theorem dL_machine_12 : decode cL_machine 12 = .ok (.goto 4, 3) := by decide +kernel
theorem dL_machine_15 : decode cL_machine 15 = .ok (.lconst 0, 1) := by decide +kernel
theorem dL_machine_16 : decode cL_machine 16 = .ok (.lastore, 1) := by decide +kernel
theorem dL_machine_17 : decode cL_machine 17 = .ok (.goto 7, 3) := by decide +kernel
theorem dL_machine_20 : decode cL_machine 20 = .ok (.astore 4, 2) := by decide +kernel
theorem dL_machine_22 : decode cL_machine 22 = .ok (.iconst 1, 1) := by decide +kernel
theorem dL_machine_23 : decode cL_machine 23 = .ok (.ireturn, 1) := by decide +kernel
theorem dL_machine_24 : decode cL_machine 24 = .ok (.iconst 0, 1) := by decide +kernel
theorem dL_machine_25 : decode cL_machine 25 = .ok (.ireturn, 1) := by decide +kernel
theorem dX0_machine_0 : decode cX0_machine 0 = .ok (.iload_n 1, 1) := by decide +kernel
theorem dX0_machine_1 : decode cX0_machine 1 = .ok (.iconst 1, 1) := by decide +kernel
theorem dX0_machine_2 : decode cX0_machine 2 = .ok (.ldc 22, 2) := by decide +kernel
theorem dX0_machine_4 : decode cX0_machine 4 = .ok (.invokestatic 23, 3) := by decide +kernel
theorem dX0_machine_7 : decode cX0_machine 7 = .ok (.ifCond .eq 13, 3) := by decide +kernel
theorem dX0_machine_10 : decode cX0_machine 10 = .ok (.iload_n 2, 1) := by decide +kernel
theorem dX0_machine_11 : decode cX0_machine 11 = .ok (.iconst 1, 1) := by decide +kernel
theorem dX0_machine_12 : decode cX0_machine 12 = .ok (.ldc 22, 2) := by decide +kernel
theorem dX0_machine_14 : decode cX0_machine 14 = .ok (.invokestatic 23, 3) := by decide +kernel
theorem dX0_machine_17 : decode cX0_machine 17 = .ok (.ifCond .ne 13, 3) := by decide +kernel
theorem dX0_machine_20 : decode cX0_machine 20 = .ok (.new 27, 3) := by decide +kernel
theorem dX0_machine_23 : decode cX0_machine 23 = .ok (.dup, 1) := by decide +kernel
theorem dX0_machine_24 : decode cX0_machine 24 = .ok (.ldc 163, 2) := by decide +kernel
theorem dX0_machine_26 : decode cX0_machine 26 = .ok (.invokespecial 31, 3) := by decide +kernel
theorem dX0_machine_29 : decode cX0_machine 29 = .ok (.athrow, 1) := by decide +kernel
theorem dX0_machine_30 : decode cX0_machine 30 = .ok (.aload_n 0, 1) := by decide +kernel
theorem dX0_machine_31 : decode cX0_machine 31 = .ok (.iload_n 1, 1) := by decide +kernel
theorem dX0_machine_32 : decode cX0_machine 32 = .ok (.iload_n 2, 1) := by decide +kernel
theorem dX0_machine_33 : decode cX0_machine 33 = .ok (.isub, 1) := by decide +kernel
theorem dX0_machine_34 : decode cX0_machine 34 = .ok (.invokestatic 165, 3) := by decide +kernel
theorem dX0_machine_37 : decode cX0_machine 37 = .ok (.bipush 100, 2) := by decide +kernel
theorem dX0_machine_39 : decode cX0_machine 39 = .ok (.imul, 1) := by decide +kernel
theorem dX0_machine_40 : decode cX0_machine 40 = .ok (.iload_n 1, 1) := by decide +kernel
theorem dX0_machine_41 : decode cX0_machine 41 = .ok (.if_icmp .le 7, 3) := by decide +kernel
theorem dX0_machine_44 : decode cX0_machine 44 = .ok (.iconst 1, 1) := by decide +kernel
theorem dX0_machine_45 : decode cX0_machine 45 = .ok (.goto 4, 3) := by decide +kernel
theorem dX0_machine_48 : decode cX0_machine 48 = .ok (.iconst 0, 1) := by decide +kernel
theorem dX0_machine_49 : decode cX0_machine 49 = .ok (.putfield 170, 3) := by decide +kernel
theorem dX0_machine_52 : decode cX0_machine 52 = .ok (.aload_n 0, 1) := by decide +kernel
theorem dX0_machine_53 : decode cX0_machine 53 = .ok (.getfield 170, 3) := by decide +kernel
theorem dX0_machine_56 : decode cX0_machine 56 = .ok (.ireturn, 1) := by decide +kernel
theorem dX1_init_0 : decode cX1_init 0 = .ok (.aload_n 0, 1) := by decide +kernel
theorem dX1_init_1 : decode cX1_init 1 = .ok (.invokespecial 1, 3) := by decide +kernel
theorem dX1_init_4 : decode cX1_init 4 = .ok (.aload_n 0, 1) := by decide +kernel
theorem dX1_init_5 : decode cX1_init 5 = .ok (.bipush 40, 2) := by decide +kernel
theorem dX1_init_7 : decode cX1_init 7 = .ok (.newarray .int, 2) := by decide +kernel
theorem dX1_init_9 : decode cX1_init 9 = .ok (.putfield 7, 3) := by decide +kernel
theorem dX1_init_12 : decode cX1_init 12 = .ok (.aload_n 0, 1) := by decide +kernel
theorem dX1_init_13 : decode cX1_init 13 = .ok (.bipush 40, 2) := by decide +kernel
theorem dX1_init_15 : decode cX1_init 15 = .ok (.newarray .int, 2) := by decide +kernel
theorem dX1_init_17 : decode cX1_init 17 = .ok (.putfield 13, 3) := by decide +kernel
theorem dX1_init_20 : decode cX1_init 20 = .ok (.aload_n 0, 1) := by decide +kernel
theorem dX1_init_21 : decode cX1_init 21 = .ok (.bipush 8, 2) := by decide +kernel
theorem dX1_init_23 : decode cX1_init 23 = .ok (.newarray .int, 2) := by decide +kernel
theorem dX1_init_25 : decode cX1_init 25 = .ok (.putfield 16, 3) := by decide +kernel
theorem dX1_init_28 : decode cX1_init 28 = .ok (.aload_n 0, 1) := by decide +kernel
theorem dX1_init_29 : decode cX1_init 29 = .ok (.bipush 8, 2) := by decide +kernel
theorem dX1_init_31 : decode cX1_init 31 = .ok (.newarray .int, 2) := by decide +kernel
theorem dX1_init_33 : decode cX1_init 33 = .ok (.putfield 19, 3) := by decide +kernel
theorem dX1_init_36 : decode cX1_init 36 = .ok (.aload_n 0, 1) := by decide +kernel
theorem dX1_init_37 : decode cX1_init 37 = .ok (.bipush 8, 2) := by decide +kernel
theorem dX1_init_39 : decode cX1_init 39 = .ok (.newarray .int, 2) := by decide +kernel
theorem dX1_init_41 : decode cX1_init 41 = .ok (.putfield 22, 3) := by decide +kernel
theorem dX1_init_44 : decode cX1_init 44 = .ok (.aload_n 0, 1) := by decide +kernel
theorem dX1_init_45 : decode cX1_init 45 = .ok (.bipush 8, 2) := by decide +kernel
theorem dX1_init_47 : decode cX1_init 47 = .ok (.newarray .int, 2) := by decide +kernel
theorem dX1_init_49 : decode cX1_init 49 = .ok (.putfield 25, 3) := by decide +kernel
theorem dX1_init_52 : decode cX1_init 52 = .ok (.return_, 1) := by decide +kernel
theorem dX1_thrown_0 : decode cX1_thrown 0 = .ok (.aload_n 0, 1) := by decide +kernel
theorem dX1_thrown_1 : decode cX1_thrown 1 = .ok (.getfield 28, 3) := by decide +kernel
theorem dX1_thrown_4 : decode cX1_thrown 4 = .ok (.ireturn, 1) := by decide +kernel
theorem dX1_row_0 : decode cX1_row 0 = .ok (.iload_n 1, 1) := by decide +kernel
theorem dX1_row_1 : decode cX1_row 1 = .ok (.iconst 0, 1) := by decide +kernel
theorem dX1_row_2 : decode cX1_row 2 = .ok (.ldc 39, 2) := by decide +kernel
theorem dX1_row_4 : decode cX1_row 4 = .ok (.invokestatic 40, 3) := by decide +kernel
theorem dX1_row_7 : decode cX1_row 7 = .ok (.ifCond .eq 39, 3) := by decide +kernel
theorem dX1_row_10 : decode cX1_row 10 = .ok (.iload_n 2, 1) := by decide +kernel
theorem dX1_row_11 : decode cX1_row 11 = .ok (.iconst 0, 1) := by decide +kernel
theorem dX1_row_12 : decode cX1_row 12 = .ok (.ldc 39, 2) := by decide +kernel
theorem dX1_row_14 : decode cX1_row 14 = .ok (.invokestatic 40, 3) := by decide +kernel
theorem dX1_row_17 : decode cX1_row 17 = .ok (.ifCond .eq 29, 3) := by decide +kernel
theorem dX1_row_20 : decode cX1_row 20 = .ok (.aload_n 0, 1) := by decide +kernel
theorem dX1_row_21 : decode cX1_row 21 = .ok (.getfield 44, 3) := by decide +kernel
theorem dX1_row_24 : decode cX1_row 24 = .ok (.ifCond .eq 18, 3) := by decide +kernel
theorem dX1_row_27 : decode cX1_row 27 = .ok (.iload_n 1, 1) := by decide +kernel
theorem dX1_row_28 : decode cX1_row 28 = .ok (.aload_n 0, 1) := by decide +kernel
theorem dX1_row_29 : decode cX1_row 29 = .ok (.getfield 7, 3) := by decide +kernel
theorem dX1_row_32 : decode cX1_row 32 = .ok (.aload_n 0, 1) := by decide +kernel
theorem dX1_row_33 : decode cX1_row 33 = .ok (.getfield 44, 3) := by decide +kernel
theorem dX1_row_36 : decode cX1_row 36 = .ok (.iconst 1, 1) := by decide +kernel
theorem dX1_row_37 : decode cX1_row 37 = .ok (.isub, 1) := by decide +kernel
theorem dX1_row_38 : decode cX1_row 38 = .ok (.iaload, 1) := by decide +kernel
theorem dX1_row_39 : decode cX1_row 39 = .ok (.if_icmp .le 7, 3) := by decide +kernel
theorem dX1_row_42 : decode cX1_row 42 = .ok (.iconst 1, 1) := by decide +kernel
theorem dX1_row_43 : decode cX1_row 43 = .ok (.goto 4, 3) := by decide +kernel
theorem dX1_row_46 : decode cX1_row 46 = .ok (.iconst 0, 1) := by decide +kernel
theorem dX1_row_47 : decode cX1_row 47 = .ok (.istore_n 3, 1) := by decide +kernel
theorem dX1_row_48 : decode cX1_row 48 = .ok (.aload_n 0, 1) := by decide +kernel
theorem dX1_row_49 : decode cX1_row 49 = .ok (.iload_n 3, 1) := by decide +kernel
theorem dX1_row_50 : decode cX1_row 50 = .ok (.aload_n 0, 1) := by decide +kernel
theorem dX1_row_51 : decode cX1_row 51 = .ok (.getfield 44, 3) := by decide +kernel
theorem dX1_row_54 : decode cX1_row 54 = .ok (.bipush 40, 2) := by decide +kernel
theorem dX1_row_56 : decode cX1_row 56 = .ok (.if_icmp .ge 7, 3) := by decide +kernel
theorem dX1_row_59 : decode cX1_row 59 = .ok (.iconst 1, 1) := by decide +kernel
theorem dX1_row_60 : decode cX1_row 60 = .ok (.goto 4, 3) := by decide +kernel
theorem dX1_row_63 : decode cX1_row 63 = .ok (.iconst 0, 1) := by decide +kernel
theorem dX1_row_64 : decode cX1_row 64 = .ok (.iconst 1, 1) := by decide +kernel
theorem dX1_row_65 : decode cX1_row 65 = .ok (.iconst 1, 1) := by decide +kernel
theorem dX1_row_66 : decode cX1_row 66 = .ok (.invokevirtual 47, 3) := by decide +kernel
theorem dX1_row_69 : decode cX1_row 69 = .ok (.ifCond .ne 5, 3) := by decide +kernel
theorem dX1_row_72 : decode cX1_row 72 = .ok (.iconst 0, 1) := by decide +kernel
theorem dX1_row_73 : decode cX1_row 73 = .ok (.ireturn, 1) := by decide +kernel
theorem dX1_row_74 : decode cX1_row 74 = .ok (.aload_n 0, 1) := by decide +kernel
theorem dX1_row_75 : decode cX1_row 75 = .ok (.getfield 7, 3) := by decide +kernel
theorem dX1_row_78 : decode cX1_row 78 = .ok (.aload_n 0, 1) := by decide +kernel
theorem dX1_row_79 : decode cX1_row 79 = .ok (.getfield 44, 3) := by decide +kernel
theorem dX1_row_82 : decode cX1_row 82 = .ok (.iload_n 1, 1) := by decide +kernel
theorem dX1_row_83 : decode cX1_row 83 = .ok (.iastore, 1) := by decide +kernel
theorem dX1_row_84 : decode cX1_row 84 = .ok (.aload_n 0, 1) := by decide +kernel
theorem dX1_row_85 : decode cX1_row 85 = .ok (.getfield 13, 3) := by decide +kernel
theorem dX1_row_88 : decode cX1_row 88 = .ok (.aload_n 0, 1) := by decide +kernel
theorem dX1_row_89 : decode cX1_row 89 = .ok (.getfield 44, 3) := by decide +kernel
theorem dX1_row_92 : decode cX1_row 92 = .ok (.iload_n 2, 1) := by decide +kernel
theorem dX1_row_93 : decode cX1_row 93 = .ok (.iastore, 1) := by decide +kernel
theorem dX1_row_94 : decode cX1_row 94 = .ok (.aload_n 0, 1) := by decide +kernel
theorem dX1_row_95 : decode cX1_row 95 = .ok (.dup, 1) := by decide +kernel
theorem dX1_row_96 : decode cX1_row 96 = .ok (.getfield 44, 3) := by decide +kernel
theorem dX1_row_99 : decode cX1_row 99 = .ok (.iconst 1, 1) := by decide +kernel
theorem dX1_row_100 : decode cX1_row 100 = .ok (.iadd, 1) := by decide +kernel
theorem dX1_row_101 : decode cX1_row 101 = .ok (.putfield 44, 3) := by decide +kernel
theorem dX1_row_104 : decode cX1_row 104 = .ok (.aload_n 0, 1) := by decide +kernel
theorem dX1_row_105 : decode cX1_row 105 = .ok (.getfield 44, 3) := by decide +kernel
theorem dX1_row_108 : decode cX1_row 108 = .ok (.ireturn, 1) := by decide +kernel
theorem dX1_in_0 : decode cX1_in 0 = .ok (.iload_n 0, 1) := by decide +kernel
theorem dX1_in_1 : decode cX1_in 1 = .ok (.iload_n 1, 1) := by decide +kernel
theorem dX1_in_2 : decode cX1_in 2 = .ok (.if_icmp .lt 12, 3) := by decide +kernel
theorem dX1_in_5 : decode cX1_in 5 = .ok (.iload_n 0, 1) := by decide +kernel
theorem dX1_in_6 : decode cX1_in 6 = .ok (.iload_n 2, 1) := by decide +kernel
theorem dX1_in_7 : decode cX1_in 7 = .ok (.if_icmp .gt 7, 3) := by decide +kernel
theorem dX1_in_10 : decode cX1_in 10 = .ok (.iconst 1, 1) := by decide +kernel
theorem dX1_in_11 : decode cX1_in 11 = .ok (.goto 4, 3) := by decide +kernel
theorem dX1_in_14 : decode cX1_in 14 = .ok (.iconst 0, 1) := by decide +kernel
theorem dX1_in_15 : decode cX1_in 15 = .ok (.ireturn, 1) := by decide +kernel
theorem dX1_goes_0 : decode cX1_goes 0 = .ok (.aload_n 0, 1) := by decide +kernel
theorem dX1_goes_1 : decode cX1_goes 1 = .ok (.iload_n 1, 1) := by decide +kernel
theorem dX1_goes_2 : decode cX1_goes 2 = .ok (.ifCond .ne 7, 3) := by decide +kernel
theorem dX1_goes_5 : decode cX1_goes 5 = .ok (.iconst 1, 1) := by decide +kernel
theorem dX1_goes_6 : decode cX1_goes 6 = .ok (.goto 29, 3) := by decide +kernel
theorem dX1_goes_9 : decode cX1_goes 9 = .ok (.iload_n 2, 1) := by decide +kernel
theorem dX1_goes_10 : decode cX1_goes 10 = .ok (.ifCond .ne 7, 3) := by decide +kernel
theorem dX1_goes_13 : decode cX1_goes 13 = .ok (.iconst 2, 1) := by decide +kernel
theorem dX1_goes_14 : decode cX1_goes 14 = .ok (.goto 21, 3) := by decide +kernel
theorem dX1_goes_17 : decode cX1_goes 17 = .ok (.iload_n 3, 1) := by decide +kernel
theorem dX1_goes_18 : decode cX1_goes 18 = .ok (.ifCond .ne 7, 3) := by decide +kernel
theorem dX1_goes_21 : decode cX1_goes 21 = .ok (.iconst 3, 1) := by decide +kernel
theorem dX1_goes_22 : decode cX1_goes 22 = .ok (.goto 13, 3) := by decide +kernel
theorem dX1_goes_25 : decode cX1_goes 25 = .ok (.iload 4, 2) := by decide +kernel
theorem dX1_goes_27 : decode cX1_goes 27 = .ok (.ifCond .ne 7, 3) := by decide +kernel
theorem dX1_goes_30 : decode cX1_goes 30 = .ok (.iconst 4, 1) := by decide +kernel
theorem dX1_goes_31 : decode cX1_goes 31 = .ok (.goto 4, 3) := by decide +kernel
theorem dX1_goes_34 : decode cX1_goes 34 = .ok (.iconst 0, 1) := by decide +kernel
theorem dX1_goes_35 : decode cX1_goes 35 = .ok (.putfield 28, 3) := by decide +kernel
theorem dX1_goes_38 : decode cX1_goes 38 = .ok (.aload_n 0, 1) := by decide +kernel
theorem dX1_goes_39 : decode cX1_goes 39 = .ok (.getfield 28, 3) := by decide +kernel
theorem dX1_goes_42 : decode cX1_goes 42 = .ok (.ifCond .ne 7, 3) := by decide +kernel
theorem dX1_goes_45 : decode cX1_goes 45 = .ok (.iconst 1, 1) := by decide +kernel
theorem dX1_goes_46 : decode cX1_goes 46 = .ok (.goto 4, 3) := by decide +kernel
theorem dX1_goes_49 : decode cX1_goes 49 = .ok (.iconst 0, 1) := by decide +kernel
theorem dX1_goes_50 : decode cX1_goes 50 = .ok (.ireturn, 1) := by decide +kernel
theorem dX1_section_0 : decode cX1_section 0 = .ok (.aload_n 0, 1) := by decide +kernel
theorem dX1_section_1 : decode cX1_section 1 = .ok (.iload_n 1, 1) := by decide +kernel
theorem dX1_section_2 : decode cX1_section 2 = .ok (.iconst 1, 1) := by decide +kernel
theorem dX1_section_3 : decode cX1_section 3 = .ok (.sipush 10000, 3) := by decide +kernel
theorem dX1_section_6 : decode cX1_section 6 = .ok (.invokestatic 40, 3) := by decide +kernel
theorem dX1_section_9 : decode cX1_section 9 = .ok (.ifCond .eq 17, 3) := by decide +kernel
theorem dX1_section_12 : decode cX1_section 12 = .ok (.iload_n 2, 1) := by decide +kernel
theorem dX1_section_13 : decode cX1_section 13 = .ok (.iconst 0, 1) := by decide +kernel
theorem dX1_section_14 : decode cX1_section 14 = .ok (.ldc 39, 2) := by decide +kernel
theorem dX1_section_16 : decode cX1_section 16 = .ok (.invokestatic 40, 3) := by decide +kernel
theorem dX1_section_19 : decode cX1_section 19 = .ok (.ifCond .eq 7, 3) := by decide +kernel
theorem dX1_section_22 : decode cX1_section 22 = .ok (.iconst 1, 1) := by decide +kernel
theorem dX1_section_23 : decode cX1_section 23 = .ok (.goto 4, 3) := by decide +kernel
theorem dX1_section_26 : decode cX1_section 26 = .ok (.iconst 0, 1) := by decide +kernel
theorem dX1_section_27 : decode cX1_section 27 = .ok (.iconst 1, 1) := by decide +kernel
theorem dX1_section_28 : decode cX1_section 28 = .ok (.iconst 1, 1) := by decide +kernel
theorem dX1_section_29 : decode cX1_section 29 = .ok (.iconst 1, 1) := by decide +kernel
theorem dX1_section_30 : decode cX1_section 30 = .ok (.invokevirtual 47, 3) := by decide +kernel
theorem dX1_section_33 : decode cX1_section 33 = .ok (.ifCond .ne 4, 3) := by decide +kernel
theorem dX1_section_36 : decode cX1_section 36 = .ok (.return_, 1) := by decide +kernel
theorem dX1_section_37 : decode cX1_section 37 = .ok (.aload_n 0, 1) := by decide +kernel
theorem dX1_section_38 : decode cX1_section 38 = .ok (.iload_n 1, 1) := by decide +kernel
theorem dX1_section_39 : decode cX1_section 39 = .ok (.putfield 51, 3) := by decide +kernel
theorem dX1_section_42 : decode cX1_section 42 = .ok (.aload_n 0, 1) := by decide +kernel
theorem dX1_section_43 : decode cX1_section 43 = .ok (.iload_n 2, 1) := by decide +kernel
theorem dX1_section_44 : decode cX1_section 44 = .ok (.putfield 54, 3) := by decide +kernel
theorem dX1_section_47 : decode cX1_section 47 = .ok (.return_, 1) := by decide +kernel
theorem dX1_slope_0 : decode cX1_slope 0 = .ok (.iconst (-1), 1) := by decide +kernel
theorem dX1_slope_1 : decode cX1_slope 1 = .ok (.istore 4, 2) := by decide +kernel
theorem dX1_slope_3 : decode cX1_slope 3 = .ok (.iconst (-1), 1) := by decide +kernel
theorem dX1_slope_4 : decode cX1_slope 4 = .ok (.istore 5, 2) := by decide +kernel
theorem dX1_slope_6 : decode cX1_slope 6 = .ok (.iconst 0, 1) := by decide +kernel
theorem dX1_slope_7 : decode cX1_slope 7 = .ok (.istore 6, 2) := by decide +kernel
theorem dX1_slope_9 : decode cX1_slope 9 = .ok (.iload 6, 2) := by decide +kernel
theorem dX1_slope_11 : decode cX1_slope 11 = .ok (.aload_n 0, 1) := by decide +kernel
theorem dX1_slope_12 : decode cX1_slope 12 = .ok (.getfield 44, 3) := by decide +kernel
theorem dX1_slope_15 : decode cX1_slope 15 = .ok (.if_icmp .ge 47, 3) := by decide +kernel
theorem dX1_slope_18 : decode cX1_slope 18 = .ok (.aload_n 0, 1) := by decide +kernel
theorem dX1_slope_19 : decode cX1_slope 19 = .ok (.getfield 7, 3) := by decide +kernel
theorem dX1_slope_22 : decode cX1_slope 22 = .ok (.iload 6, 2) := by decide +kernel
theorem dX1_slope_24 : decode cX1_slope 24 = .ok (.iaload, 1) := by decide +kernel
theorem dX1_slope_25 : decode cX1_slope 25 = .ok (.iload_n 1, 1) := by decide +kernel
theorem dX1_slope_26 : decode cX1_slope 26 = .ok (.if_icmp .lt 30, 3) := by decide +kernel
theorem dX1_slope_29 : decode cX1_slope 29 = .ok (.aload_n 0, 1) := by decide +kernel
theorem dX1_slope_30 : decode cX1_slope 30 = .ok (.getfield 7, 3) := by decide +kernel
theorem dX1_slope_33 : decode cX1_slope 33 = .ok (.iload 6, 2) := by decide +kernel
theorem dX1_slope_35 : decode cX1_slope 35 = .ok (.iaload, 1) := by decide +kernel
theorem dX1_slope_36 : decode cX1_slope 36 = .ok (.iload_n 2, 1) := by decide +kernel
theorem dX1_slope_37 : decode cX1_slope 37 = .ok (.if_icmp .le 6, 3) := by decide +kernel
theorem dX1_slope_40 : decode cX1_slope 40 = .ok (.goto 16, 3) := by decide +kernel
theorem dX1_slope_43 : decode cX1_slope 43 = .ok (.iload 4, 2) := by decide +kernel
theorem dX1_slope_45 : decode cX1_slope 45 = .ok (.ifCond .ge 7, 3) := by decide +kernel
theorem dX1_slope_48 : decode cX1_slope 48 = .ok (.iload 6, 2) := by decide +kernel
theorem dX1_slope_50 : decode cX1_slope 50 = .ok (.istore 4, 2) := by decide +kernel
theorem dX1_slope_52 : decode cX1_slope 52 = .ok (.iload 6, 2) := by decide +kernel
theorem dX1_slope_54 : decode cX1_slope 54 = .ok (.istore 5, 2) := by decide +kernel
theorem dX1_slope_56 : decode cX1_slope 56 = .ok (.iinc 6 1, 3) := by decide +kernel
theorem dX1_slope_59 : decode cX1_slope 59 = .ok (.goto (-50), 3) := by decide +kernel
theorem dX1_slope_62 : decode cX1_slope 62 = .ok (.aload_n 0, 1) := by decide +kernel
theorem dX1_slope_63 : decode cX1_slope 63 = .ok (.iload_n 3, 1) := by decide +kernel
theorem dX1_slope_64 : decode cX1_slope 64 = .ok (.iconst 0, 1) := by decide +kernel
theorem dX1_slope_65 : decode cX1_slope 65 = .ok (.iconst 1, 1) := by decide +kernel
theorem dX1_slope_66 : decode cX1_slope 66 = .ok (.invokestatic 40, 3) := by decide +kernel
theorem dX1_slope_69 : decode cX1_slope 69 = .ok (.iload_n 1, 1) := by decide +kernel
theorem dX1_slope_70 : decode cX1_slope 70 = .ok (.iconst 0, 1) := by decide +kernel
theorem dX1_slope_71 : decode cX1_slope 71 = .ok (.ldc 39, 2) := by decide +kernel
theorem dX1_slope_73 : decode cX1_slope 73 = .ok (.invokestatic 40, 3) := by decide +kernel
theorem dX1_slope_76 : decode cX1_slope 76 = .ok (.ifCond .eq 22, 3) := by decide +kernel
theorem dX1_slope_79 : decode cX1_slope 79 = .ok (.iload_n 2, 1) := by decide +kernel
theorem dX1_slope_80 : decode cX1_slope 80 = .ok (.iconst 0, 1) := by decide +kernel
theorem dX1_slope_81 : decode cX1_slope 81 = .ok (.ldc 39, 2) := by decide +kernel
theorem dX1_slope_83 : decode cX1_slope 83 = .ok (.invokestatic 40, 3) := by decide +kernel
theorem dX1_slope_86 : decode cX1_slope 86 = .ok (.ifCond .eq 12, 3) := by decide +kernel
theorem dX1_slope_89 : decode cX1_slope 89 = .ok (.iload_n 1, 1) := by decide +kernel
theorem dX1_slope_90 : decode cX1_slope 90 = .ok (.iload_n 2, 1) := by decide +kernel
theorem dX1_slope_91 : decode cX1_slope 91 = .ok (.if_icmp .ge 7, 3) := by decide +kernel
theorem dX1_slope_94 : decode cX1_slope 94 = .ok (.iconst 1, 1) := by decide +kernel
theorem dX1_slope_95 : decode cX1_slope 95 = .ok (.goto 4, 3) := by decide +kernel
theorem dX1_slope_98 : decode cX1_slope 98 = .ok (.iconst 0, 1) := by decide +kernel
theorem dX1_slope_99 : decode cX1_slope 99 = .ok (.iload 5, 2) := by decide +kernel
theorem dX1_slope_101 : decode cX1_slope 101 = .ok (.iload 4, 2) := by decide +kernel
theorem dX1_slope_103 : decode cX1_slope 103 = .ok (.if_icmp .le 7, 3) := by decide +kernel
theorem dX1_slope_106 : decode cX1_slope 106 = .ok (.iconst 1, 1) := by decide +kernel
theorem dX1_slope_107 : decode cX1_slope 107 = .ok (.goto 4, 3) := by decide +kernel
theorem dX1_slope_110 : decode cX1_slope 110 = .ok (.iconst 0, 1) := by decide +kernel
theorem dX1_slope_111 : decode cX1_slope 111 = .ok (.iconst 1, 1) := by decide +kernel
theorem dX1_slope_112 : decode cX1_slope 112 = .ok (.invokevirtual 47, 3) := by decide +kernel
theorem dX1_slope_115 : decode cX1_slope 115 = .ok (.ifCond .ne 5, 3) := by decide +kernel
theorem dX1_slope_118 : decode cX1_slope 118 = .ok (.lconst 0, 1) := by decide +kernel
theorem dX1_slope_119 : decode cX1_slope 119 = .ok (.lreturn, 1) := by decide +kernel
theorem dX1_slope_120 : decode cX1_slope 120 = .ok (.aload_n 0, 1) := by decide +kernel
theorem dX1_slope_121 : decode cX1_slope 121 = .ok (.aload_n 0, 1) := by decide +kernel
theorem dX1_slope_122 : decode cX1_slope 122 = .ok (.getfield 13, 3) := by decide +kernel
theorem dX1_slope_125 : decode cX1_slope 125 = .ok (.iload 5, 2) := by decide +kernel
theorem dX1_slope_127 : decode cX1_slope 127 = .ok (.iaload, 1) := by decide +kernel
theorem dX1_slope_128 : decode cX1_slope 128 = .ok (.aload_n 0, 1) := by decide +kernel
theorem dX1_slope_129 : decode cX1_slope 129 = .ok (.getfield 13, 3) := by decide +kernel
theorem dX1_slope_132 : decode cX1_slope 132 = .ok (.iload 4, 2) := by decide +kernel
theorem dX1_slope_134 : decode cX1_slope 134 = .ok (.iaload, 1) := by decide +kernel
theorem dX1_slope_135 : decode cX1_slope 135 = .ok (.isub, 1) := by decide +kernel
theorem dX1_slope_136 : decode cX1_slope 136 = .ok (.i2l, 1) := by decide +kernel
theorem dX1_slope_137 : decode cX1_slope 137 = .ok (.aload_n 0, 1) := by decide +kernel
theorem dX1_slope_138 : decode cX1_slope 138 = .ok (.getfield 7, 3) := by decide +kernel
theorem dX1_slope_141 : decode cX1_slope 141 = .ok (.iload 5, 2) := by decide +kernel
theorem dX1_slope_143 : decode cX1_slope 143 = .ok (.iaload, 1) := by decide +kernel
theorem dX1_slope_144 : decode cX1_slope 144 = .ok (.aload_n 0, 1) := by decide +kernel
theorem dX1_slope_145 : decode cX1_slope 145 = .ok (.getfield 7, 3) := by decide +kernel
theorem dX1_slope_148 : decode cX1_slope 148 = .ok (.iload 4, 2) := by decide +kernel
theorem dX1_slope_150 : decode cX1_slope 150 = .ok (.iaload, 1) := by decide +kernel
theorem dX1_slope_151 : decode cX1_slope 151 = .ok (.isub, 1) := by decide +kernel
theorem dX1_slope_152 : decode cX1_slope 152 = .ok (.i2l, 1) := by decide +kernel
theorem dX1_slope_153 : decode cX1_slope 153 = .ok (.iload_n 3, 1) := by decide +kernel
theorem dX1_slope_154 : decode cX1_slope 154 = .ok (.invokevirtual 57, 3) := by decide +kernel
theorem dX1_slope_157 : decode cX1_slope 157 = .ok (.lstore 6, 2) := by decide +kernel
theorem dX1_slope_159 : decode cX1_slope 159 = .ok (.aload_n 0, 1) := by decide +kernel
theorem dX1_slope_160 : decode cX1_slope 160 = .ok (.getfield 32, 3) := by decide +kernel
theorem dX1_slope_163 : decode cX1_slope 163 = .ok (.lconst 0, 1) := by decide +kernel
theorem dX1_slope_164 : decode cX1_slope 164 = .ok (.lcmp, 1) := by decide +kernel
theorem dX1_slope_165 : decode cX1_slope 165 = .ok (.ifCond .le 24, 3) := by decide +kernel
theorem dX1_slope_168 : decode cX1_slope 168 = .ok (.aload_n 0, 1) := by decide +kernel
theorem dX1_slope_169 : decode cX1_slope 169 = .ok (.iconst 1, 1) := by decide +kernel
theorem dX1_slope_170 : decode cX1_slope 170 = .ok (.putfield 61, 3) := by decide +kernel
theorem dX1_slope_173 : decode cX1_slope 173 = .ok (.aload_n 0, 1) := by decide +kernel
theorem dX1_slope_174 : decode cX1_slope 174 = .ok (.aload_n 0, 1) := by decide +kernel
theorem dX1_slope_175 : decode cX1_slope 175 = .ok (.getfield 32, 3) := by decide +kernel
theorem dX1_slope_178 : decode cX1_slope 178 = .ok (.putfield 65, 3) := by decide +kernel
theorem dX1_slope_181 : decode cX1_slope 181 = .ok (.aload_n 0, 1) := by decide +kernel
theorem dX1_slope_182 : decode cX1_slope 182 = .ok (.aload_n 0, 1) := by decide +kernel
theorem dX1_slope_183 : decode cX1_slope 183 = .ok (.getfield 36, 3) := by decide +kernel
theorem dX1_slope_186 : decode cX1_slope 186 = .ok (.putfield 68, 3) := by decide +kernel
theorem dX1_slope_189 : decode cX1_slope 189 = .ok (.lload 6, 2) := by decide +kernel
theorem dX1_slope_191 : decode cX1_slope 191 = .ok (.lreturn, 1) := by decide +kernel
theorem dX1_part_0 : decode cX1_part 0 = .ok (.lload_n 1, 1) := by decide +kernel
theorem dX1_part_1 : decode cX1_part 1 = .ok (.lconst 0, 1) := by decide +kernel
theorem dX1_part_2 : decode cX1_part 2 = .ok (.lcmp, 1) := by decide +kernel
theorem dX1_part_3 : decode cX1_part 3 = .ok (.ifCond .ge 8, 3) := by decide +kernel
theorem dX1_part_6 : decode cX1_part 6 = .ok (.lload_n 1, 1) := by decide +kernel
theorem dX1_part_7 : decode cX1_part 7 = .ok (.lneg, 1) := by decide +kernel
theorem dX1_part_8 : decode cX1_part 8 = .ok (.goto 4, 3) := by decide +kernel
theorem dX1_part_11 : decode cX1_part 11 = .ok (.lload_n 1, 1) := by decide +kernel
theorem dX1_part_12 : decode cX1_part 12 = .ok (.lstore 6, 2) := by decide +kernel
theorem dX1_part_14 : decode cX1_part 14 = .ok (.lload_n 3, 1) := by decide +kernel
theorem dX1_part_15 : decode cX1_part 15 = .ok (.lstore 8, 2) := by decide +kernel
theorem dX1_part_17 : decode cX1_part 17 = .ok (.lload 8, 2) := by decide +kernel
theorem dX1_part_19 : decode cX1_part 19 = .ok (.lconst 0, 1) := by decide +kernel
theorem dX1_part_20 : decode cX1_part 20 = .ok (.lcmp, 1) := by decide +kernel
theorem dX1_part_21 : decode cX1_part 21 = .ok (.ifCond .eq 21, 3) := by decide +kernel
theorem dX1_part_24 : decode cX1_part 24 = .ok (.lload 6, 2) := by decide +kernel
theorem dX1_part_26 : decode cX1_part 26 = .ok (.lload 8, 2) := by decide +kernel
theorem dX1_part_28 : decode cX1_part 28 = .ok (.lrem, 1) := by decide +kernel
theorem dX1_part_29 : decode cX1_part 29 = .ok (.lstore 10, 2) := by decide +kernel
theorem dX1_part_31 : decode cX1_part 31 = .ok (.lload 8, 2) := by decide +kernel
theorem dX1_part_33 : decode cX1_part 33 = .ok (.lstore 6, 2) := by decide +kernel
theorem dX1_part_35 : decode cX1_part 35 = .ok (.lload 10, 2) := by decide +kernel
theorem dX1_part_37 : decode cX1_part 37 = .ok (.lstore 8, 2) := by decide +kernel
theorem dX1_part_39 : decode cX1_part 39 = .ok (.goto (-22), 3) := by decide +kernel
theorem dX1_part_42 : decode cX1_part 42 = .ok (.aload_n 0, 1) := by decide +kernel
theorem dX1_part_43 : decode cX1_part 43 = .ok (.lload_n 1, 1) := by decide +kernel
theorem dX1_part_44 : decode cX1_part 44 = .ok (.lload 6, 2) := by decide +kernel
theorem dX1_part_46 : decode cX1_part 46 = .ok (.ldiv, 1) := by decide +kernel
theorem dX1_part_47 : decode cX1_part 47 = .ok (.putfield 32, 3) := by decide +kernel
theorem dX1_part_50 : decode cX1_part 50 = .ok (.aload_n 0, 1) := by decide +kernel
theorem dX1_part_51 : decode cX1_part 51 = .ok (.lload_n 3, 1) := by decide +kernel
theorem dX1_part_52 : decode cX1_part 52 = .ok (.lload 6, 2) := by decide +kernel
theorem dX1_part_54 : decode cX1_part 54 = .ok (.ldiv, 1) := by decide +kernel
theorem dX1_part_55 : decode cX1_part 55 = .ok (.putfield 36, 3) := by decide +kernel
theorem dX1_part_58 : decode cX1_part 58 = .ok (.iload 5, 2) := by decide +kernel
theorem dX1_part_60 : decode cX1_part 60 = .ok (.ifCond .ne 10, 3) := by decide +kernel
theorem dX1_part_63 : decode cX1_part 63 = .ok (.aload_n 0, 1) := by decide +kernel
theorem dX1_part_64 : decode cX1_part 64 = .ok (.getfield 32, 3) := by decide +kernel
theorem dX1_part_67 : decode cX1_part 67 = .ok (.goto 7, 3) := by decide +kernel
theorem dX1_part_70 : decode cX1_part 70 = .ok (.aload_n 0, 1) := by decide +kernel
theorem dX1_part_71 : decode cX1_part 71 = .ok (.getfield 36, 3) := by decide +kernel
theorem dX1_part_74 : decode cX1_part 74 = .ok (.lreturn, 1) := by decide +kernel
theorem dX1_offset_0 : decode cX1_offset 0 = .ok (.aload_n 0, 1) := by decide +kernel
theorem dX1_offset_1 : decode cX1_offset 1 = .ok (.iload_n 2, 1) := by decide +kernel
theorem dX1_offset_2 : decode cX1_offset 2 = .ok (.iconst 0, 1) := by decide +kernel
theorem dX1_offset_3 : decode cX1_offset 3 = .ok (.iconst 1, 1) := by decide +kernel
theorem dX1_offset_4 : decode cX1_offset 4 = .ok (.invokestatic 40, 3) := by decide +kernel
theorem dX1_offset_7 : decode cX1_offset 7 = .ok (.aload_n 0, 1) := by decide +kernel
theorem dX1_offset_8 : decode cX1_offset 8 = .ok (.getfield 61, 3) := by decide +kernel
theorem dX1_offset_11 : decode cX1_offset 11 = .ok (.iload_n 1, 1) := by decide +kernel
theorem dX1_offset_12 : decode cX1_offset 12 = .ok (.iconst 0, 1) := by decide +kernel
theorem dX1_offset_13 : decode cX1_offset 13 = .ok (.ldc 39, 2) := by decide +kernel
theorem dX1_offset_15 : decode cX1_offset 15 = .ok (.invokestatic 40, 3) := by decide +kernel
theorem dX1_offset_18 : decode cX1_offset 18 = .ok (.iconst 1, 1) := by decide +kernel
theorem dX1_offset_19 : decode cX1_offset 19 = .ok (.invokevirtual 47, 3) := by decide +kernel
theorem dX1_offset_22 : decode cX1_offset 22 = .ok (.ifCond .ne 5, 3) := by decide +kernel
theorem dX1_offset_25 : decode cX1_offset 25 = .ok (.lconst 0, 1) := by decide +kernel
theorem dX1_offset_26 : decode cX1_offset 26 = .ok (.lreturn, 1) := by decide +kernel
theorem dX1_offset_27 : decode cX1_offset 27 = .ok (.iconst 1, 1) := by decide +kernel
theorem dX1_offset_28 : decode cX1_offset 28 = .ok (.istore_n 3, 1) := by decide +kernel
theorem dX1_offset_29 : decode cX1_offset 29 = .ok (.iload_n 3, 1) := by decide +kernel
theorem dX1_offset_30 : decode cX1_offset 30 = .ok (.aload_n 0, 1) := by decide +kernel
