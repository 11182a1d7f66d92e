theorem dX5_init_0 : decode cX5_init 0 = .ok (.aload_n 0, 1) := by decide +kernel
theorem dX5_init_1 : decode cX5_init 1 = .ok (.invokespecial 1, 3) := by decide +kernel
theorem dX5_init_4 : decode cX5_init 4 = .ok (.aload_n 0, 1) := by decide +kernel
theorem dX5_init_5 : decode cX5_init 5 = .ok (.new 7, 3) := by decide +kernel
theorem dX5_init_8 : decode cX5_init 8 = .ok (.dup, 1) := by decide +kernel
theorem dX5_init_9 : decode cX5_init 9 = .ok (.bipush 100, 2) := by decide +kernel
theorem dX5_init_11 : decode cX5_init 11 = .ok (.invokespecial 11, 3) := by decide +kernel
theorem dX5_init_14 : decode cX5_init 14 = .ok (.putfield 14, 3) := by decide +kernel
theorem dX5_init_17 : decode cX5_init 17 = .ok (.aload_n 0, 1) := by decide +kernel
theorem dX5_init_18 : decode cX5_init 18 = .ok (.new 7, 3) := by decide +kernel
theorem dX5_init_21 : decode cX5_init 21 = .ok (.dup, 1) := by decide +kernel
theorem dX5_init_22 : decode cX5_init 22 = .ok (.bipush 100, 2) := by decide +kernel
theorem dX5_init_24 : decode cX5_init 24 = .ok (.invokespecial 11, 3) := by decide +kernel
theorem dX5_init_27 : decode cX5_init 27 = .ok (.putfield 18, 3) := by decide +kernel
theorem dX5_init_30 : decode cX5_init 30 = .ok (.aload_n 0, 1) := by decide +kernel
theorem dX5_init_31 : decode cX5_init 31 = .ok (.new 21, 3) := by decide +kernel
theorem dX5_init_34 : decode cX5_init 34 = .ok (.dup, 1) := by decide +kernel
theorem dX5_init_35 : decode cX5_init 35 = .ok (.invokespecial 23, 3) := by decide +kernel
theorem dX5_init_38 : decode cX5_init 38 = .ok (.putfield 24, 3) := by decide +kernel
theorem dX5_init_41 : decode cX5_init 41 = .ok (.aload_n 0, 1) := by decide +kernel
theorem dX5_init_42 : decode cX5_init 42 = .ok (.new 7, 3) := by decide +kernel
theorem dX5_init_45 : decode cX5_init 45 = .ok (.dup, 1) := by decide +kernel
theorem dX5_init_46 : decode cX5_init 46 = .ok (.sipush 300, 3) := by decide +kernel
theorem dX5_init_49 : decode cX5_init 49 = .ok (.invokespecial 11, 3) := by decide +kernel
theorem dX5_init_52 : decode cX5_init 52 = .ok (.putfield 28, 3) := by decide +kernel
theorem dX5_init_55 : decode cX5_init 55 = .ok (.aload_n 0, 1) := by decide +kernel
theorem dX5_init_56 : decode cX5_init 56 = .ok (.new 31, 3) := by decide +kernel
theorem dX5_init_59 : decode cX5_init 59 = .ok (.dup, 1) := by decide +kernel
theorem dX5_init_60 : decode cX5_init 60 = .ok (.invokespecial 33, 3) := by decide +kernel
theorem dX5_init_63 : decode cX5_init 63 = .ok (.putfield 34, 3) := by decide +kernel
theorem dX5_init_66 : decode cX5_init 66 = .ok (.aload_n 0, 1) := by decide +kernel
theorem dX5_init_67 : decode cX5_init 67 = .ok (.new 38, 3) := by decide +kernel
theorem dX5_init_70 : decode cX5_init 70 = .ok (.dup, 1) := by decide +kernel
theorem dX5_init_71 : decode cX5_init 71 = .ok (.invokespecial 40, 3) := by decide +kernel
theorem dX5_init_74 : decode cX5_init 74 = .ok (.putfield 41, 3) := by decide +kernel
theorem dX5_init_77 : decode cX5_init 77 = .ok (.aload_n 0, 1) := by decide +kernel
theorem dX5_init_78 : decode cX5_init 78 = .ok (.sipush 301, 3) := by decide +kernel
theorem dX5_init_81 : decode cX5_init 81 = .ok (.newarray .boolean, 2) := by decide +kernel
theorem dX5_init_83 : decode cX5_init 83 = .ok (.putfield 45, 3) := by decide +kernel
theorem dX5_init_86 : decode cX5_init 86 = .ok (.aload_n 0, 1) := by decide +kernel
theorem dX5_init_87 : decode cX5_init 87 = .ok (.sipush 301, 3) := by decide +kernel
theorem dX5_init_90 : decode cX5_init 90 = .ok (.newarray .int, 2) := by decide +kernel
theorem dX5_init_92 : decode cX5_init 92 = .ok (.putfield 49, 3) := by decide +kernel
theorem dX5_init_95 : decode cX5_init 95 = .ok (.aload_n 0, 1) := by decide +kernel
theorem dX5_init_96 : decode cX5_init 96 = .ok (.iconst 0, 1) := by decide +kernel
theorem dX5_init_97 : decode cX5_init 97 = .ok (.putfield 53, 3) := by decide +kernel
theorem dX5_init_100 : decode cX5_init 100 = .ok (.return_, 1) := by decide +kernel
theorem dX5_axiom_0 : decode cX5_axiom 0 = .ok (.iload_n 1, 1) := by decide +kernel
theorem dX5_axiom_1 : decode cX5_axiom 1 = .ok (.iconst 1, 1) := by decide +kernel
theorem dX5_axiom_2 : decode cX5_axiom 2 = .ok (.if_icmp .lt 24, 3) := by decide +kernel
theorem dX5_axiom_5 : decode cX5_axiom 5 = .ok (.iload_n 1, 1) := by decide +kernel
theorem dX5_axiom_6 : decode cX5_axiom 6 = .ok (.bipush 10, 2) := by decide +kernel
theorem dX5_axiom_8 : decode cX5_axiom 8 = .ok (.if_icmp .gt 18, 3) := by decide +kernel
theorem dX5_axiom_11 : decode cX5_axiom 11 = .ok (.iload_n 1, 1) := by decide +kernel
theorem dX5_axiom_12 : decode cX5_axiom 12 = .ok (.getstatic 57, 3) := by decide +kernel
theorem dX5_axiom_15 : decode cX5_axiom 15 = .ok (.arraylength, 1) := by decide +kernel
theorem dX5_axiom_16 : decode cX5_axiom 16 = .ok (.if_icmp .ge 10, 3) := by decide +kernel
theorem dX5_axiom_19 : decode cX5_axiom 19 = .ok (.iload_n 2, 1) := by decide +kernel
theorem dX5_axiom_20 : decode cX5_axiom 20 = .ok (.invokestatic 61, 3) := by decide +kernel
theorem dX5_axiom_23 : decode cX5_axiom 23 = .ok (.ifCond .ne 6, 3) := by decide +kernel
theorem dX5_axiom_26 : decode cX5_axiom 26 = .ok (.bipush (-2), 2) := by decide +kernel
theorem dX5_axiom_28 : decode cX5_axiom 28 = .ok (.ireturn, 1) := by decide +kernel
theorem dX5_axiom_29 : decode cX5_axiom 29 = .ok (.getstatic 57, 3) := by decide +kernel
theorem dX5_axiom_32 : decode cX5_axiom 32 = .ok (.iload_n 1, 1) := by decide +kernel
theorem dX5_axiom_33 : decode cX5_axiom 33 = .ok (.aaload, 1) := by decide +kernel
theorem dX5_axiom_34 : decode cX5_axiom 34 = .ok (.getfield 65, 3) := by decide +kernel
theorem dX5_axiom_37 : decode cX5_axiom 37 = .ok (.iconst 1, 1) := by decide +kernel
theorem dX5_axiom_38 : decode cX5_axiom 38 = .ok (.if_icmp .ne 7, 3) := by decide +kernel
theorem dX5_axiom_41 : decode cX5_axiom 41 = .ok (.iconst 1, 1) := by decide +kernel
theorem dX5_axiom_42 : decode cX5_axiom 42 = .ok (.goto 4, 3) := by decide +kernel
theorem dX5_axiom_45 : decode cX5_axiom 45 = .ok (.iconst 0, 1) := by decide +kernel
theorem dX5_axiom_46 : decode cX5_axiom 46 = .ok (.istore 4, 2) := by decide +kernel
theorem dX5_axiom_48 : decode cX5_axiom 48 = .ok (.iload 4, 2) := by decide +kernel
theorem dX5_axiom_50 : decode cX5_axiom 50 = .ok (.ifCond .ne 13, 3) := by decide +kernel
theorem dX5_axiom_53 : decode cX5_axiom 53 = .ok (.iload_n 3, 1) := by decide +kernel
theorem dX5_axiom_54 : decode cX5_axiom 54 = .ok (.invokestatic 61, 3) := by decide +kernel
theorem dX5_axiom_57 : decode cX5_axiom 57 = .ok (.ifCond .ne 6, 3) := by decide +kernel
theorem dX5_axiom_60 : decode cX5_axiom 60 = .ok (.bipush (-2), 2) := by decide +kernel
theorem dX5_axiom_62 : decode cX5_axiom 62 = .ok (.ireturn, 1) := by decide +kernel
theorem dX5_axiom_63 : decode cX5_axiom 63 = .ok (.aload_n 0, 1) := by decide +kernel
theorem dX5_axiom_64 : decode cX5_axiom 64 = .ok (.getfield 14, 3) := by decide +kernel
theorem dX5_axiom_67 : decode cX5_axiom 67 = .ok (.iload_n 1, 1) := by decide +kernel
theorem dX5_axiom_68 : decode cX5_axiom 68 = .ok (.iload_n 2, 1) := by decide +kernel
theorem dX5_axiom_69 : decode cX5_axiom 69 = .ok (.iload 4, 2) := by decide +kernel
theorem dX5_axiom_71 : decode cX5_axiom 71 = .ok (.ifCond .eq 7, 3) := by decide +kernel
theorem dX5_axiom_74 : decode cX5_axiom 74 = .ok (.iconst 0, 1) := by decide +kernel
theorem dX5_axiom_75 : decode cX5_axiom 75 = .ok (.goto 4, 3) := by decide +kernel
theorem dX5_axiom_78 : decode cX5_axiom 78 = .ok (.iload_n 3, 1) := by decide +kernel
theorem dX5_axiom_79 : decode cX5_axiom 79 = .ok (.iconst 0, 1) := by decide +kernel
theorem dX5_axiom_80 : decode cX5_axiom 80 = .ok (.invokevirtual 70, 3) := by decide +kernel
theorem dX5_axiom_83 : decode cX5_axiom 83 = .ok (.ireturn, 1) := by decide +kernel
theorem dX5_triple_0 : decode cX5_triple 0 = .ok (.iload_n 1, 1) := by decide +kernel
theorem dX5_triple_1 : decode cX5_triple 1 = .ok (.invokestatic 61, 3) := by decide +kernel
theorem dX5_triple_4 : decode cX5_triple 4 = .ok (.ifCond .eq 17, 3) := by decide +kernel
theorem dX5_triple_7 : decode cX5_triple 7 = .ok (.iload_n 2, 1) := by decide +kernel
theorem dX5_triple_8 : decode cX5_triple 8 = .ok (.invokestatic 61, 3) := by decide +kernel
theorem dX5_triple_11 : decode cX5_triple 11 = .ok (.ifCond .eq 10, 3) := by decide +kernel
theorem dX5_triple_14 : decode cX5_triple 14 = .ok (.iload_n 3, 1) := by decide +kernel
theorem dX5_triple_15 : decode cX5_triple 15 = .ok (.invokestatic 61, 3) := by decide +kernel
theorem dX5_triple_18 : decode cX5_triple 18 = .ok (.ifCond .ne 6, 3) := by decide +kernel
theorem dX5_triple_21 : decode cX5_triple 21 = .ok (.bipush (-2), 2) := by decide +kernel
theorem dX5_triple_23 : decode cX5_triple 23 = .ok (.ireturn, 1) := by decide +kernel
theorem dX5_triple_24 : decode cX5_triple 24 = .ok (.aload_n 0, 1) := by decide +kernel
theorem dX5_triple_25 : decode cX5_triple 25 = .ok (.getfield 18, 3) := by decide +kernel
theorem dX5_triple_28 : decode cX5_triple 28 = .ok (.bipush 11, 2) := by decide +kernel
theorem dX5_triple_30 : decode cX5_triple 30 = .ok (.iload_n 1, 1) := by decide +kernel
theorem dX5_triple_31 : decode cX5_triple 31 = .ok (.iload_n 2, 1) := by decide +kernel
theorem dX5_triple_32 : decode cX5_triple 32 = .ok (.iload_n 3, 1) := by decide +kernel
theorem dX5_triple_33 : decode cX5_triple 33 = .ok (.invokevirtual 74, 3) := by decide +kernel
theorem dX5_triple_36 : decode cX5_triple 36 = .ok (.istore 4, 2) := by decide +kernel
theorem dX5_triple_38 : decode cX5_triple 38 = .ok (.iload 4, 2) := by decide +kernel
theorem dX5_triple_40 : decode cX5_triple 40 = .ok (.ifCond .eq 8, 3) := by decide +kernel
theorem dX5_triple_43 : decode cX5_triple 43 = .ok (.iload 4, 2) := by decide +kernel
theorem dX5_triple_45 : decode cX5_triple 45 = .ok (.goto 15, 3) := by decide +kernel
theorem dX5_triple_48 : decode cX5_triple 48 = .ok (.aload_n 0, 1) := by decide +kernel
theorem dX5_triple_49 : decode cX5_triple 49 = .ok (.getfield 18, 3) := by decide +kernel
theorem dX5_triple_52 : decode cX5_triple 52 = .ok (.bipush 11, 2) := by decide +kernel
theorem dX5_triple_54 : decode cX5_triple 54 = .ok (.iload_n 1, 1) := by decide +kernel
theorem dX5_triple_55 : decode cX5_triple 55 = .ok (.iload_n 2, 1) := by decide +kernel
theorem dX5_triple_56 : decode cX5_triple 56 = .ok (.iload_n 3, 1) := by decide +kernel
theorem dX5_triple_57 : decode cX5_triple 57 = .ok (.invokevirtual 70, 3) := by decide +kernel
theorem dX5_triple_60 : decode cX5_triple 60 = .ok (.ireturn, 1) := by decide +kernel
theorem dX5_row_0 : decode cX5_row 0 = .ok (.iload_n 1, 1) := by decide +kernel
theorem dX5_row_1 : decode cX5_row 1 = .ok (.invokestatic 77, 3) := by decide +kernel
theorem dX5_row_4 : decode cX5_row 4 = .ok (.astore 4, 2) := by decide +kernel
theorem dX5_row_6 : decode cX5_row 6 = .ok (.aload 4, 2) := by decide +kernel
theorem dX5_row_8 : decode cX5_row 8 = .ok (.ifnull 13, 3) := by decide +kernel
theorem dX5_row_11 : decode cX5_row 11 = .ok (.aload_n 0, 1) := by decide +kernel
theorem dX5_row_12 : decode cX5_row 12 = .ok (.aload 4, 2) := by decide +kernel
theorem dX5_row_14 : decode cX5_row 14 = .ok (.iload_n 2, 1) := by decide +kernel
theorem dX5_row_15 : decode cX5_row 15 = .ok (.invokevirtual 81, 3) := by decide +kernel
theorem dX5_row_18 : decode cX5_row 18 = .ok (.ifCond .ne 5, 3) := by decide +kernel
theorem dX5_row_21 : decode cX5_row 21 = .ok (.iconst 0, 1) := by decide +kernel
theorem dX5_row_22 : decode cX5_row 22 = .ok (.ireturn, 1) := by decide +kernel
theorem dX5_row_23 : decode cX5_row 23 = .ok (.iload_n 3, 1) := by decide +kernel
theorem dX5_row_24 : decode cX5_row 24 = .ok (.ifCond .eq 24, 3) := by decide +kernel
theorem dX5_row_27 : decode cX5_row 27 = .ok (.aload_n 0, 1) := by decide +kernel
theorem dX5_row_28 : decode cX5_row 28 = .ok (.getfield 24, 3) := by decide +kernel
theorem dX5_row_31 : decode cX5_row 31 = .ok (.iload_n 3, 1) := by decide +kernel
theorem dX5_row_32 : decode cX5_row 32 = .ok (.invokevirtual 85, 3) := by decide +kernel
theorem dX5_row_35 : decode cX5_row 35 = .ok (.ifCond .eq 11, 3) := by decide +kernel
theorem dX5_row_38 : decode cX5_row 38 = .ok (.aload 4, 2) := by decide +kernel
theorem dX5_row_40 : decode cX5_row 40 = .ok (.invokevirtual 88, 3) := by decide +kernel
theorem dX5_row_43 : decode cX5_row 43 = .ok (.ifCond .ne 5, 3) := by decide +kernel
theorem dX5_row_46 : decode cX5_row 46 = .ok (.iconst 0, 1) := by decide +kernel
theorem dX5_row_47 : decode cX5_row 47 = .ok (.ireturn, 1) := by decide +kernel
theorem dX5_row_48 : decode cX5_row 48 = .ok (.aload_n 0, 1) := by decide +kernel
theorem dX5_row_49 : decode cX5_row 49 = .ok (.getfield 24, 3) := by decide +kernel
theorem dX5_row_52 : decode cX5_row 52 = .ok (.iload_n 1, 1) := by decide +kernel
theorem dX5_row_53 : decode cX5_row 53 = .ok (.iload_n 2, 1) := by decide +kernel
theorem dX5_row_54 : decode cX5_row 54 = .ok (.invokevirtual 94, 3) := by decide +kernel
theorem dX5_row_57 : decode cX5_row 57 = .ok (.istore 5, 2) := by decide +kernel
theorem dX5_row_59 : decode cX5_row 59 = .ok (.iload 5, 2) := by decide +kernel
theorem dX5_row_61 : decode cX5_row 61 = .ok (.ifCond .eq 23, 3) := by decide +kernel
theorem dX5_row_64 : decode cX5_row 64 = .ok (.iload_n 3, 1) := by decide +kernel
theorem dX5_row_65 : decode cX5_row 65 = .ok (.ifCond .eq 13, 3) := by decide +kernel
theorem dX5_row_68 : decode cX5_row 68 = .ok (.aload_n 0, 1) := by decide +kernel
theorem dX5_row_69 : decode cX5_row 69 = .ok (.getfield 24, 3) := by decide +kernel
theorem dX5_row_72 : decode cX5_row 72 = .ok (.iload 5, 2) := by decide +kernel
theorem dX5_row_74 : decode cX5_row 74 = .ok (.iload_n 3, 1) := by decide +kernel
theorem dX5_row_75 : decode cX5_row 75 = .ok (.invokevirtual 98, 3) := by decide +kernel
theorem dX5_row_78 : decode cX5_row 78 = .ok (.aload_n 0, 1) := by decide +kernel
theorem dX5_row_79 : decode cX5_row 79 = .ok (.iload 5, 2) := by decide +kernel
theorem dX5_row_81 : decode cX5_row 81 = .ok (.invokevirtual 102, 3) := by decide +kernel
theorem dX5_row_84 : decode cX5_row 84 = .ok (.iload 5, 2) := by decide +kernel
theorem dX5_row_86 : decode cX5_row 86 = .ok (.ireturn, 1) := by decide +kernel
theorem dX5_premise_0 : decode cX5_premise 0 = .ok (.aload_n 0, 1) := by decide +kernel
theorem dX5_premise_1 : decode cX5_premise 1 = .ok (.iload_n 1, 1) := by decide +kernel
theorem dX5_premise_2 : decode cX5_premise 2 = .ok (.invokevirtual 105, 3) := by decide +kernel
theorem dX5_premise_5 : decode cX5_premise 5 = .ok (.astore_n 3, 1) := by decide +kernel
theorem dX5_premise_6 : decode cX5_premise 6 = .ok (.aload_n 3, 1) := by decide +kernel
theorem dX5_premise_7 : decode cX5_premise 7 = .ok (.ifnull 14, 3) := by decide +kernel
theorem dX5_premise_10 : decode cX5_premise 10 = .ok (.aload_n 0, 1) := by decide +kernel
theorem dX5_premise_11 : decode cX5_premise 11 = .ok (.getfield 24, 3) := by decide +kernel
theorem dX5_premise_14 : decode cX5_premise 14 = .ok (.iload_n 2, 1) := by decide +kernel
theorem dX5_premise_15 : decode cX5_premise 15 = .ok (.invokevirtual 85, 3) := by decide +kernel
theorem dX5_premise_18 : decode cX5_premise 18 = .ok (.ifCond .ne 5, 3) := by decide +kernel
theorem dX5_premise_21 : decode cX5_premise 21 = .ok (.iconst (-1), 1) := by decide +kernel
theorem dX5_premise_22 : decode cX5_premise 22 = .ok (.ireturn, 1) := by decide +kernel
theorem dX5_premise_23 : decode cX5_premise 23 = .ok (.iload_n 2, 1) := by decide +kernel
theorem dX5_premise_24 : decode cX5_premise 24 = .ok (.iload_n 1, 1) := by decide +kernel
theorem dX5_premise_25 : decode cX5_premise 25 = .ok (.if_icmp .ge 18, 3) := by decide +kernel
theorem dX5_premise_28 : decode cX5_premise 28 = .ok (.aload_n 0, 1) := by decide +kernel
theorem dX5_premise_29 : decode cX5_premise 29 = .ok (.getfield 24, 3) := by decide +kernel
theorem dX5_premise_32 : decode cX5_premise 32 = .ok (.iload_n 1, 1) := by decide +kernel
theorem dX5_premise_33 : decode cX5_premise 33 = .ok (.invokevirtual 108, 3) := by decide +kernel
theorem dX5_premise_36 : decode cX5_premise 36 = .ok (.aload_n 3, 1) := by decide +kernel
theorem dX5_premise_37 : decode cX5_premise 37 = .ok (.invokevirtual 88, 3) := by decide +kernel
theorem dX5_premise_40 : decode cX5_premise 40 = .ok (.if_icmp .lt 6, 3) := by decide +kernel
theorem dX5_premise_43 : decode cX5_premise 43 = .ok (.bipush (-3), 2) := by decide +kernel
theorem dX5_premise_45 : decode cX5_premise 45 = .ok (.ireturn, 1) := by decide +kernel
theorem dX5_premise_46 : decode cX5_premise 46 = .ok (.aload_n 0, 1) := by decide +kernel
theorem dX5_premise_47 : decode cX5_premise 47 = .ok (.getfield 24, 3) := by decide +kernel
theorem dX5_premise_50 : decode cX5_premise 50 = .ok (.iload_n 1, 1) := by decide +kernel
theorem dX5_premise_51 : decode cX5_premise 51 = .ok (.iload_n 2, 1) := by decide +kernel
theorem dX5_premise_52 : decode cX5_premise 52 = .ok (.invokevirtual 98, 3) := by decide +kernel
theorem dX5_premise_55 : decode cX5_premise 55 = .ok (.iload_n 1, 1) := by decide +kernel
theorem dX5_premise_56 : decode cX5_premise 56 = .ok (.istore 4, 2) := by decide +kernel
theorem dX5_premise_58 : decode cX5_premise 58 = .ok (.iload 4, 2) := by decide +kernel
theorem dX5_premise_60 : decode cX5_premise 60 = .ok (.aload_n 0, 1) := by decide +kernel
theorem dX5_premise_61 : decode cX5_premise 61 = .ok (.getfield 24, 3) := by decide +kernel
theorem dX5_premise_64 : decode cX5_premise 64 = .ok (.invokevirtual 112, 3) := by decide +kernel
theorem dX5_premise_67 : decode cX5_premise 67 = .ok (.if_icmp .gt 15, 3) := by decide +kernel
theorem dX5_premise_70 : decode cX5_premise 70 = .ok (.aload_n 0, 1) := by decide +kernel
theorem dX5_premise_71 : decode cX5_premise 71 = .ok (.iload 4, 2) := by decide +kernel
theorem dX5_premise_73 : decode cX5_premise 73 = .ok (.invokevirtual 102, 3) := by decide +kernel
theorem dX5_premise_76 : decode cX5_premise 76 = .ok (.iinc 4 1, 3) := by decide +kernel
theorem dX5_premise_79 : decode cX5_premise 79 = .ok (.goto (-21), 3) := by decide +kernel
theorem dX5_premise_82 : decode cX5_premise 82 = .ok (.aload_n 0, 1) := by decide +kernel
theorem dX5_premise_83 : decode cX5_premise 83 = .ok (.getfield 24, 3) := by decide +kernel
theorem dX5_premise_86 : decode cX5_premise 86 = .ok (.iload_n 1, 1) := by decide +kernel
theorem dX5_premise_87 : decode cX5_premise 87 = .ok (.invokevirtual 108, 3) := by decide +kernel
theorem dX5_premise_90 : decode cX5_premise 90 = .ok (.ireturn, 1) := by decide +kernel
theorem dX5_check_0 : decode cX5_check 0 = .ok (.aload_n 0, 1) := by decide +kernel
theorem dX5_check_1 : decode cX5_check 1 = .ok (.getfield 24, 3) := by decide +kernel
theorem dX5_check_4 : decode cX5_check 4 = .ok (.iload_n 1, 1) := by decide +kernel
theorem dX5_check_5 : decode cX5_check 5 = .ok (.invokevirtual 85, 3) := by decide +kernel
theorem dX5_check_8 : decode cX5_check 8 = .ok (.ifCond .ne 5, 3) := by decide +kernel
theorem dX5_check_11 : decode cX5_check 11 = .ok (.iconst (-1), 1) := by decide +kernel
theorem dX5_check_12 : decode cX5_check 12 = .ok (.ireturn, 1) := by decide +kernel
theorem dX5_check_13 : decode cX5_check 13 = .ok (.aload_n 0, 1) := by decide +kernel
theorem dX5_check_14 : decode cX5_check 14 = .ok (.iload_n 1, 1) := by decide +kernel
theorem dX5_check_15 : decode cX5_check 15 = .ok (.invokevirtual 115, 3) := by decide +kernel
theorem dX5_check_18 : decode cX5_check 18 = .ok (.aload_n 0, 1) := by decide +kernel
theorem dX5_check_19 : decode cX5_check 19 = .ok (.aload_n 0, 1) := by decide +kernel
theorem dX5_check_20 : decode cX5_check 20 = .ok (.iload_n 1, 1) := by decide +kernel
theorem dX5_check_21 : decode cX5_check 21 = .ok (.invokevirtual 118, 3) := by decide +kernel
theorem dX5_check_24 : decode cX5_check 24 = .ok (.putfield 53, 3) := by decide +kernel
theorem dX5_check_27 : decode cX5_check 27 = .ok (.aload_n 0, 1) := by decide +kernel
theorem dX5_check_28 : decode cX5_check 28 = .ok (.getfield 28, 3) := by decide +kernel
theorem dX5_check_31 : decode cX5_check 31 = .ok (.iload_n 1, 1) := by decide +kernel
theorem dX5_check_32 : decode cX5_check 32 = .ok (.invokevirtual 121, 3) := by decide +kernel
theorem dX5_check_35 : decode cX5_check 35 = .ok (.ifCond .eq 7, 3) := by decide +kernel
theorem dX5_check_38 : decode cX5_check 38 = .ok (.iconst 1, 1) := by decide +kernel
theorem dX5_check_39 : decode cX5_check 39 = .ok (.goto 4, 3) := by decide +kernel
theorem dX5_check_42 : decode cX5_check 42 = .ok (.iconst 0, 1) := by decide +kernel
theorem dX5_check_43 : decode cX5_check 43 = .ok (.ireturn, 1) := by decide +kernel
theorem dX5_broken_0 : decode cX5_broken 0 = .ok (.aload_n 0, 1) := by decide +kernel
theorem dX5_broken_1 : decode cX5_broken 1 = .ok (.getfield 53, 3) := by decide +kernel
theorem dX5_broken_4 : decode cX5_broken 4 = .ok (.ireturn, 1) := by decide +kernel
theorem dX5_rows_0 : decode cX5_rows 0 = .ok (.aload_n 0, 1) := by decide +kernel
theorem dX5_rows_1 : decode cX5_rows 1 = .ok (.getfield 24, 3) := by decide +kernel
theorem dX5_rows_4 : decode cX5_rows 4 = .ok (.iload_n 1, 1) := by decide +kernel
theorem dX5_rows_5 : decode cX5_rows 5 = .ok (.invokevirtual 85, 3) := by decide +kernel
theorem dX5_rows_8 : decode cX5_rows 8 = .ok (.ifCond .ne 5, 3) := by decide +kernel
theorem dX5_rows_11 : decode cX5_rows 11 = .ok (.iconst (-1), 1) := by decide +kernel
theorem dX5_rows_12 : decode cX5_rows 12 = .ok (.ireturn, 1) := by decide +kernel
theorem dX5_rows_13 : decode cX5_rows 13 = .ok (.aload_n 0, 1) := by decide +kernel
theorem dX5_rows_14 : decode cX5_rows 14 = .ok (.iload_n 1, 1) := by decide +kernel
theorem dX5_rows_15 : decode cX5_rows 15 = .ok (.invokevirtual 115, 3) := by decide +kernel
theorem dX5_rows_18 : decode cX5_rows 18 = .ok (.iconst 0, 1) := by decide +kernel
theorem dX5_rows_19 : decode cX5_rows 19 = .ok (.istore_n 2, 1) := by decide +kernel
theorem dX5_rows_20 : decode cX5_rows 20 = .ok (.iconst 1, 1) := by decide +kernel
theorem dX5_rows_21 : decode cX5_rows 21 = .ok (.istore_n 3, 1) := by decide +kernel
theorem dX5_rows_22 : decode cX5_rows 22 = .ok (.iload_n 3, 1) := by decide +kernel
theorem dX5_rows_23 : decode cX5_rows 23 = .ok (.iload_n 1, 1) := by decide +kernel
theorem dX5_rows_24 : decode cX5_rows 24 = .ok (.if_icmp .gt 21, 3) := by decide +kernel
theorem dX5_rows_27 : decode cX5_rows 27 = .ok (.aload_n 0, 1) := by decide +kernel
theorem dX5_rows_28 : decode cX5_rows 28 = .ok (.getfield 45, 3) := by decide +kernel
theorem dX5_rows_31 : decode cX5_rows 31 = .ok (.iload_n 3, 1) := by decide +kernel
theorem dX5_rows_32 : decode cX5_rows 32 = .ok (.baload, 1) := by decide +kernel
theorem dX5_rows_33 : decode cX5_rows 33 = .ok (.ifCond .eq 6, 3) := by decide +kernel
theorem dX5_rows_36 : decode cX5_rows 36 = .ok (.iinc 2 1, 3) := by decide +kernel
theorem dX5_rows_39 : decode cX5_rows 39 = .ok (.iinc 3 1, 3) := by decide +kernel
theorem dX5_rows_42 : decode cX5_rows 42 = .ok (.goto (-20), 3) := by decide +kernel
theorem dX5_rows_45 : decode cX5_rows 45 = .ok (.iload_n 2, 1) := by decide +kernel
theorem dX5_rows_46 : decode cX5_rows 46 = .ok (.ireturn, 1) := by decide +kernel
theorem dX5_size_0 : decode cX5_size 0 = .ok (.aload_n 0, 1) := by decide +kernel
theorem dX5_size_1 : decode cX5_size 1 = .ok (.getfield 24, 3) := by decide +kernel
theorem dX5_size_4 : decode cX5_size 4 = .ok (.iload_n 1, 1) := by decide +kernel
theorem dX5_size_5 : decode cX5_size 5 = .ok (.invokevirtual 85, 3) := by decide +kernel
theorem dX5_size_8 : decode cX5_size 8 = .ok (.ifCond .ne 5, 3) := by decide +kernel
theorem dX5_size_11 : decode cX5_size 11 = .ok (.iconst (-1), 1) := by decide +kernel
theorem dX5_size_12 : decode cX5_size 12 = .ok (.ireturn, 1) := by decide +kernel
theorem dX5_size_13 : decode cX5_size 13 = .ok (.iconst 1, 1) := by decide +kernel
theorem dX5_size_14 : decode cX5_size 14 = .ok (.istore_n 2, 1) := by decide +kernel
theorem dX5_size_15 : decode cX5_size 15 = .ok (.iload_n 2, 1) := by decide +kernel
theorem dX5_size_16 : decode cX5_size 16 = .ok (.iload_n 1, 1) := by decide +kernel
theorem dX5_size_17 : decode cX5_size 17 = .ok (.if_icmp .gt 20, 3) := by decide +kernel
theorem dX5_size_20 : decode cX5_size 20 = .ok (.aload_n 0, 1) := by decide +kernel
theorem dX5_size_21 : decode cX5_size 21 = .ok (.getfield 49, 3) := by decide +kernel
theorem dX5_size_24 : decode cX5_size 24 = .ok (.iload_n 2, 1) := by decide +kernel
theorem dX5_size_25 : decode cX5_size 25 = .ok (.aload_n 0, 1) := by decide +kernel
theorem dX5_size_26 : decode cX5_size 26 = .ok (.iload_n 2, 1) := by decide +kernel
theorem dX5_size_27 : decode cX5_size 27 = .ok (.invokevirtual 122, 3) := by decide +kernel
theorem dX5_size_30 : decode cX5_size 30 = .ok (.iastore, 1) := by decide +kernel
theorem dX5_size_31 : decode cX5_size 31 = .ok (.iinc 2 1, 3) := by decide +kernel
theorem dX5_size_34 : decode cX5_size 34 = .ok (.goto (-19), 3) := by decide +kernel
theorem dX5_size_37 : decode cX5_size 37 = .ok (.aload_n 0, 1) := by decide +kernel
theorem dX5_size_38 : decode cX5_size 38 = .ok (.getfield 49, 3) := by decide +kernel
theorem dX5_size_41 : decode cX5_size 41 = .ok (.iload_n 1, 1) := by decide +kernel
theorem dX5_size_42 : decode cX5_size 42 = .ok (.iaload, 1) := by decide +kernel
theorem dX5_size_43 : decode cX5_size 43 = .ok (.ireturn, 1) := by decide +kernel
theorem dX5_drop_0 : decode cX5_drop 0 = .ok (.aload_n 0, 1) := by decide +kernel
theorem dX5_drop_1 : decode cX5_drop 1 = .ok (.getfield 24, 3) := by decide +kernel
theorem dX5_drop_4 : decode cX5_drop 4 = .ok (.iload_n 1, 1) := by decide +kernel
theorem dX5_drop_5 : decode cX5_drop 5 = .ok (.invokevirtual 85, 3) := by decide +kernel
theorem dX5_drop_8 : decode cX5_drop 8 = .ok (.ifCond .ne 5, 3) := by decide +kernel
theorem dX5_drop_11 : decode cX5_drop 11 = .ok (.iconst (-1), 1) := by decide +kernel
theorem dX5_drop_12 : decode cX5_drop 12 = .ok (.ireturn, 1) := by decide +kernel
theorem dX5_drop_13 : decode cX5_drop 13 = .ok (.aload_n 0, 1) := by decide +kernel
theorem dX5_drop_14 : decode cX5_drop 14 = .ok (.iload_n 1, 1) := by decide +kernel
theorem dX5_drop_15 : decode cX5_drop 15 = .ok (.invokevirtual 115, 3) := by decide +kernel
theorem dX5_drop_18 : decode cX5_drop 18 = .ok (.iconst 0, 1) := by decide +kernel
theorem dX5_drop_19 : decode cX5_drop 19 = .ok (.istore_n 2, 1) := by decide +kernel
theorem dX5_drop_20 : decode cX5_drop 20 = .ok (.iconst 1, 1) := by decide +kernel
theorem dX5_drop_21 : decode cX5_drop 21 = .ok (.istore_n 3, 1) := by decide +kernel
theorem dX5_drop_22 : decode cX5_drop 22 = .ok (.iload_n 3, 1) := by decide +kernel
theorem dX5_drop_23 : decode cX5_drop 23 = .ok (.iload_n 1, 1) := by decide +kernel
theorem dX5_drop_24 : decode cX5_drop 24 = .ok (.if_icmp .gt 54, 3) := by decide +kernel
theorem dX5_drop_27 : decode cX5_drop 27 = .ok (.aload_n 0, 1) := by decide +kernel
theorem dX5_drop_28 : decode cX5_drop 28 = .ok (.getfield 45, 3) := by decide +kernel
theorem dX5_drop_31 : decode cX5_drop 31 = .ok (.iload_n 3, 1) := by decide +kernel
theorem dX5_drop_32 : decode cX5_drop 32 = .ok (.baload, 1) := by decide +kernel
theorem dX5_drop_33 : decode cX5_drop 33 = .ok (.ifCond .eq 39, 3) := by decide +kernel
theorem dX5_drop_36 : decode cX5_drop 36 = .ok (.iinc 2 1, 3) := by decide +kernel
theorem dX5_drop_39 : decode cX5_drop 39 = .ok (.aload_n 0, 1) := by decide +kernel
theorem dX5_drop_40 : decode cX5_drop 40 = .ok (.getfield 49, 3) := by decide +kernel
theorem dX5_drop_43 : decode cX5_drop 43 = .ok (.iload_n 3, 1) := by decide +kernel
theorem dX5_drop_44 : decode cX5_drop 44 = .ok (.iload_n 2, 1) := by decide +kernel
theorem dX5_drop_45 : decode cX5_drop 45 = .ok (.iastore, 1) := by decide +kernel
theorem dX5_drop_46 : decode cX5_drop 46 = .ok (.aload_n 0, 1) := by decide +kernel
theorem dX5_drop_47 : decode cX5_drop 47 = .ok (.getfield 24, 3) := by decide +kernel
theorem dX5_drop_50 : decode cX5_drop 50 = .ok (.iload_n 3, 1) := by decide +kernel
theorem dX5_drop_51 : decode cX5_drop 51 = .ok (.iload_n 2, 1) := by decide +kernel
theorem dX5_drop_52 : decode cX5_drop 52 = .ok (.aload_n 0, 1) := by decide +kernel
theorem dX5_drop_53 : decode cX5_drop 53 = .ok (.getfield 49, 3) := by decide +kernel
theorem dX5_drop_56 : decode cX5_drop 56 = .ok (.invokevirtual 125, 3) := by decide +kernel
theorem dX5_drop_59 : decode cX5_drop 59 = .ok (.aload_n 0, 1) := by decide +kernel
theorem dX5_drop_60 : decode cX5_drop 60 = .ok (.getfield 28, 3) := by decide +kernel
theorem dX5_drop_63 : decode cX5_drop 63 = .ok (.iload_n 2, 1) := by decide +kernel
theorem dX5_drop_64 : decode cX5_drop 64 = .ok (.aload_n 0, 1) := by decide +kernel
theorem dX5_drop_65 : decode cX5_drop 65 = .ok (.getfield 28, 3) := by decide +kernel
theorem dX5_drop_68 : decode cX5_drop 68 = .ok (.iload_n 3, 1) := by decide +kernel
theorem dX5_drop_69 : decode cX5_drop 69 = .ok (.invokevirtual 129, 3) := by decide +kernel
theorem dX5_drop_72 : decode cX5_drop 72 = .ok (.iinc 3 1, 3) := by decide +kernel
theorem dX5_drop_75 : decode cX5_drop 75 = .ok (.goto (-53), 3) := by decide +kernel
theorem dX5_drop_78 : decode cX5_drop 78 = .ok (.aload_n 0, 1) := by decide +kernel
theorem dX5_drop_79 : decode cX5_drop 79 = .ok (.getfield 24, 3) := by decide +kernel
theorem dX5_drop_82 : decode cX5_drop 82 = .ok (.iload_n 2, 1) := by decide +kernel
theorem dX5_drop_83 : decode cX5_drop 83 = .ok (.invokevirtual 133, 3) := by decide +kernel
theorem dX5_drop_86 : decode cX5_drop 86 = .ok (.aload_n 0, 1) := by decide +kernel
theorem dX5_drop_87 : decode cX5_drop 87 = .ok (.iconst 0, 1) := by decide +kernel
theorem dX5_drop_88 : decode cX5_drop 88 = .ok (.putfield 53, 3) := by decide +kernel
theorem dX5_drop_91 : decode cX5_drop 91 = .ok (.iload_n 2, 1) := by decide +kernel
theorem dX5_drop_92 : decode cX5_drop 92 = .ok (.ireturn, 1) := by decide +kernel
theorem dX5_name_0 : decode cX5_name 0 = .ok (.aload_n 0, 1) := by decide +kernel
theorem dX5_name_1 : decode cX5_name 1 = .ok (.getfield 24, 3) := by decide +kernel
theorem dX5_name_4 : decode cX5_name 4 = .ok (.iload_n 1, 1) := by decide +kernel
theorem dX5_name_5 : decode cX5_name 5 = .ok (.invokevirtual 85, 3) := by decide +kernel
theorem dX5_name_8 : decode cX5_name 8 = .ok (.ifCond .eq 14, 3) := by decide +kernel
theorem dX5_name_11 : decode cX5_name 11 = .ok (.aload_n 0, 1) := by decide +kernel
theorem dX5_name_12 : decode cX5_name 12 = .ok (.getfield 24, 3) := by decide +kernel
theorem dX5_name_15 : decode cX5_name 15 = .ok (.iload_n 1, 1) := by decide +kernel
theorem dX5_name_16 : decode cX5_name 16 = .ok (.invokevirtual 136, 3) := by decide +kernel
theorem dX5_name_19 : decode cX5_name 19 = .ok (.goto 4, 3) := by decide +kernel
theorem dX5_name_22 : decode cX5_name 22 = .ok (.iconst (-1), 1) := by decide +kernel
theorem dX5_name_23 : decode cX5_name 23 = .ok (.ireturn, 1) := by decide +kernel
theorem dX5_states_0 : decode cX5_states 0 = .ok (.aload_n 0, 1) := by decide +kernel
theorem dX5_states_1 : decode cX5_states 1 = .ok (.getfield 24, 3) := by decide +kernel
theorem dX5_states_4 : decode cX5_states 4 = .ok (.iload_n 1, 1) := by decide +kernel
theorem dX5_states_5 : decode cX5_states 5 = .ok (.invokevirtual 85, 3) := by decide +kernel
theorem dX5_states_8 : decode cX5_states 8 = .ok (.ifCond .ne 5, 3) := by decide +kernel
theorem dX5_states_11 : decode cX5_states 11 = .ok (.iconst (-1), 1) := by decide +kernel
theorem dX5_states_12 : decode cX5_states 12 = .ok (.ireturn, 1) := by decide +kernel
theorem dX5_states_13 : decode cX5_states 13 = .ok (.iload_n 2, 1) := by decide +kernel
theorem dX5_states_14 : decode cX5_states 14 = .ok (.ifCond .lt 8, 3) := by decide +kernel
theorem dX5_states_17 : decode cX5_states 17 = .ok (.iload_n 2, 1) := by decide +kernel
theorem dX5_states_18 : decode cX5_states 18 = .ok (.iconst 3, 1) := by decide +kernel
theorem dX5_states_19 : decode cX5_states 19 = .ok (.if_icmp .le 6, 3) := by decide +kernel
theorem dX5_states_22 : decode cX5_states 22 = .ok (.bipush (-2), 2) := by decide +kernel
theorem dX5_states_24 : decode cX5_states 24 = .ok (.ireturn, 1) := by decide +kernel
theorem dX5_states_25 : decode cX5_states 25 = .ok (.iload_n 2, 1) := by decide +kernel
theorem dX5_states_26 : decode cX5_states 26 = .ok (.ifCond .ne 14, 3) := by decide +kernel
theorem dX5_states_29 : decode cX5_states 29 = .ok (.aload_n 0, 1) := by decide +kernel
theorem dX5_states_30 : decode cX5_states 30 = .ok (.getfield 28, 3) := by decide +kernel
theorem dX5_states_33 : decode cX5_states 33 = .ok (.iload_n 1, 1) := by decide +kernel
theorem dX5_states_34 : decode cX5_states 34 = .ok (.invokevirtual 139, 3) := by decide +kernel
theorem dX5_states_37 : decode cX5_states 37 = .ok (.goto 12, 3) := by decide +kernel
theorem dX5_states_40 : decode cX5_states 40 = .ok (.aload_n 0, 1) := by decide +kernel
theorem dX5_states_41 : decode cX5_states 41 = .ok (.getfield 28, 3) := by decide +kernel
theorem dX5_states_44 : decode cX5_states 44 = .ok (.iload_n 1, 1) := by decide +kernel
theorem dX5_states_45 : decode cX5_states 45 = .ok (.iload_n 2, 1) := by decide +kernel
theorem dX5_states_46 : decode cX5_states 46 = .ok (.invokevirtual 142, 3) := by decide +kernel
theorem dX5_states_49 : decode cX5_states 49 = .ok (.ireturn, 1) := by decide +kernel
theorem dX5_sentence_0 : decode cX5_sentence 0 = .ok (.aload_n 0, 1) := by decide +kernel
theorem dX5_sentence_1 : decode cX5_sentence 1 = .ok (.iload_n 1, 1) := by decide +kernel
theorem dX5_sentence_2 : decode cX5_sentence 2 = .ok (.invokevirtual 105, 3) := by decide +kernel
theorem dX5_sentence_5 : decode cX5_sentence 5 = .ok (.astore_n 2, 1) := by decide +kernel
theorem dX5_sentence_6 : decode cX5_sentence 6 = .ok (.aload_n 2, 1) := by decide +kernel
theorem dX5_sentence_7 : decode cX5_sentence 7 = .ok (.ifnonnull 5, 3) := by decide +kernel
theorem dX5_sentence_10 : decode cX5_sentence 10 = .ok (.iconst (-1), 1) := by decide +kernel
theorem dX5_sentence_11 : decode cX5_sentence 11 = .ok (.ireturn, 1) := by decide +kernel
theorem dX5_sentence_12 : decode cX5_sentence 12 = .ok (.aload_n 0, 1) := by decide +kernel
theorem dX5_sentence_13 : decode cX5_sentence 13 = .ok (.getfield 41, 3) := by decide +kernel
theorem dX5_sentence_16 : decode cX5_sentence 16 = .ok (.iconst 0, 1) := by decide +kernel
theorem dX5_sentence_17 : decode cX5_sentence 17 = .ok (.invokevirtual 145, 3) := by decide +kernel
theorem dX5_sentence_20 : decode cX5_sentence 20 = .ok (.aload_n 0, 1) := by decide +kernel
theorem dX5_sentence_21 : decode cX5_sentence 21 = .ok (.getfield 41, 3) := by decide +kernel
theorem dX5_sentence_24 : decode cX5_sentence 24 = .ok (.iload_n 1, 1) := by decide +kernel
theorem dX5_sentence_25 : decode cX5_sentence 25 = .ok (.invokevirtual 148, 3) := by decide +kernel
theorem dX5_sentence_28 : decode cX5_sentence 28 = .ok (.ldc 152, 2) := by decide +kernel
theorem dX5_sentence_30 : decode cX5_sentence 30 = .ok (.invokevirtual 154, 3) := by decide +kernel
theorem dX5_sentence_33 : decode cX5_sentence 33 = .ok (.pop, 1) := by decide +kernel
theorem dX5_sentence_34 : decode cX5_sentence 34 = .ok (.aload_n 0, 1) := by decide +kernel
theorem dX5_sentence_35 : decode cX5_sentence 35 = .ok (.iload_n 1, 1) := by decide +kernel
theorem dX5_sentence_36 : decode cX5_sentence 36 = .ok (.invokevirtual 157, 3) := by decide +kernel
theorem dX5_sentence_39 : decode cX5_sentence 39 = .ok (.aload_n 0, 1) := by decide +kernel
theorem dX5_sentence_40 : decode cX5_sentence 40 = .ok (.getfield 41, 3) := by decide +kernel
theorem dX5_sentence_43 : decode cX5_sentence 43 = .ok (.ldc 160, 2) := by decide +kernel
theorem dX5_sentence_45 : decode cX5_sentence 45 = .ok (.invokevirtual 154, 3) := by decide +kernel
theorem dX5_sentence_48 : decode cX5_sentence 48 = .ok (.aload_n 2, 1) := by decide +kernel
theorem dX5_sentence_49 : decode cX5_sentence 49 = .ok (.getfield 162, 3) := by decide +kernel
theorem dX5_sentence_52 : decode cX5_sentence 52 = .ok (.invokevirtual 154, 3) := by decide +kernel
theorem dX5_sentence_55 : decode cX5_sentence 55 = .ok (.pop, 1) := by decide +kernel
theorem dX5_sentence_56 : decode cX5_sentence 56 = .ok (.aload_n 0, 1) := by decide +kernel
theorem dX5_sentence_57 : decode cX5_sentence 57 = .ok (.iload_n 1, 1) := by decide +kernel
theorem dX5_sentence_58 : decode cX5_sentence 58 = .ok (.invokevirtual 166, 3) := by decide +kernel
theorem dX5_sentence_61 : decode cX5_sentence 61 = .ok (.aload_n 0, 1) := by decide +kernel
theorem dX5_sentence_62 : decode cX5_sentence 62 = .ok (.getfield 41, 3) := by decide +kernel
theorem dX5_sentence_65 : decode cX5_sentence 65 = .ok (.bipush 46, 2) := by decide +kernel
theorem dX5_sentence_67 : decode cX5_sentence 67 = .ok (.invokevirtual 169, 3) := by decide +kernel
theorem dX5_sentence_70 : decode cX5_sentence 70 = .ok (.pop, 1) := by decide +kernel
theorem dX5_sentence_71 : decode cX5_sentence 71 = .ok (.aload_n 0, 1) := by decide +kernel
theorem dX5_sentence_72 : decode cX5_sentence 72 = .ok (.getfield 41, 3) := by decide +kernel
theorem dX5_sentence_75 : decode cX5_sentence 75 = .ok (.invokevirtual 172, 3) := by decide +kernel
theorem dX5_sentence_78 : decode cX5_sentence 78 = .ok (.ireturn, 1) := by decide +kernel
theorem dX5_at_0 : decode cX5_at 0 = .ok (.iload_n 1, 1) := by decide +kernel
theorem dX5_at_1 : decode cX5_at 1 = .ok (.ifCond .lt 14, 3) := by decide +kernel
theorem dX5_at_4 : decode cX5_at 4 = .ok (.iload_n 1, 1) := by decide +kernel
theorem dX5_at_5 : decode cX5_at 5 = .ok (.aload_n 0, 1) := by decide +kernel
theorem dX5_at_6 : decode cX5_at 6 = .ok (.getfield 41, 3) := by decide +kernel
theorem dX5_at_9 : decode cX5_at 9 = .ok (.invokevirtual 172, 3) := by decide +kernel
theorem dX5_at_12 : decode cX5_at 12 = .ok (.if_icmp .lt 6, 3) := by decide +kernel
theorem dX5_at_15 : decode cX5_at 15 = .ok (.bipush (-2), 2) := by decide +kernel
theorem dX5_at_17 : decode cX5_at 17 = .ok (.ireturn, 1) := by decide +kernel
theorem dX5_at_18 : decode cX5_at 18 = .ok (.aload_n 0, 1) := by decide +kernel
theorem dX5_at_19 : decode cX5_at 19 = .ok (.getfield 41, 3) := by decide +kernel
theorem dX5_at_22 : decode cX5_at 22 = .ok (.iload_n 1, 1) := by decide +kernel
theorem dX5_at_23 : decode cX5_at 23 = .ok (.invokevirtual 175, 3) := by decide +kernel
theorem dX5_at_26 : decode cX5_at 26 = .ok (.ireturn, 1) := by decide +kernel
theorem dX5_concludes_0 : decode cX5_concludes 0 = .ok (.aload_n 0, 1) := by decide +kernel
theorem dX5_concludes_1 : decode cX5_concludes 1 = .ok (.getfield 24, 3) := by decide +kernel
theorem dX5_concludes_4 : decode cX5_concludes 4 = .ok (.iload_n 1, 1) := by decide +kernel
theorem dX5_concludes_5 : decode cX5_concludes 5 = .ok (.invokevirtual 85, 3) := by decide +kernel
theorem dX5_concludes_8 : decode cX5_concludes 8 = .ok (.ifCond .eq 34, 3) := by decide +kernel
theorem dX5_concludes_11 : decode cX5_concludes 11 = .ok (.aload_n 0, 1) := by decide +kernel
theorem dX5_concludes_12 : decode cX5_concludes 12 = .ok (.getfield 18, 3) := by decide +kernel
theorem dX5_concludes_15 : decode cX5_concludes 15 = .ok (.iload_n 2, 1) := by decide +kernel
theorem dX5_concludes_16 : decode cX5_concludes 16 = .ok (.invokevirtual 121, 3) := by decide +kernel
theorem dX5_concludes_19 : decode cX5_concludes 19 = .ok (.ifCond .eq 23, 3) := by decide +kernel
theorem dX5_concludes_22 : decode cX5_concludes 22 = .ok (.aload_n 0, 1) := by decide +kernel
theorem dX5_concludes_23 : decode cX5_concludes 23 = .ok (.getfield 28, 3) := by decide +kernel
theorem dX5_concludes_26 : decode cX5_concludes 26 = .ok (.iload_n 1, 1) := by decide +kernel
theorem dX5_concludes_27 : decode cX5_concludes 27 = .ok (.aload_n 0, 1) := by decide +kernel
theorem dX5_concludes_28 : decode cX5_concludes 28 = .ok (.getfield 18, 3) := by decide +kernel
theorem dX5_concludes_31 : decode cX5_concludes 31 = .ok (.iload_n 2, 1) := by decide +kernel
theorem dX5_concludes_32 : decode cX5_concludes 32 = .ok (.invokevirtual 179, 3) := by decide +kernel
theorem dX5_concludes_35 : decode cX5_concludes 35 = .ok (.ifCond .eq 7, 3) := by decide +kernel
theorem dX5_concludes_38 : decode cX5_concludes 38 = .ok (.iconst 1, 1) := by decide +kernel
theorem dX5_concludes_39 : decode cX5_concludes 39 = .ok (.goto 4, 3) := by decide +kernel
theorem dX5_concludes_42 : decode cX5_concludes 42 = .ok (.iconst 0, 1) := by decide +kernel
theorem dX5_concludes_43 : decode cX5_concludes 43 = .ok (.ireturn, 1) := by decide +kernel
theorem dX5_isTerm_0 : decode cX5_isTerm 0 = .ok (.iload_n 0, 1) := by decide +kernel
theorem dX5_isTerm_1 : decode cX5_isTerm 1 = .ok (.ifCond .lt 14, 3) := by decide +kernel
theorem dX5_isTerm_4 : decode cX5_isTerm 4 = .ok (.iload_n 0, 1) := by decide +kernel
theorem dX5_isTerm_5 : decode cX5_isTerm 5 = .ok (.sipush 1000, 3) := by decide +kernel
theorem dX5_isTerm_8 : decode cX5_isTerm 8 = .ok (.if_icmp .ge 7, 3) := by decide +kernel
theorem dX5_isTerm_11 : decode cX5_isTerm 11 = .ok (.iconst 1, 1) := by decide +kernel
theorem dX5_isTerm_12 : decode cX5_isTerm 12 = .ok (.goto 4, 3) := by decide +kernel
theorem dX5_isTerm_15 : decode cX5_isTerm 15 = .ok (.iconst 0, 1) := by decide +kernel
theorem dX5_isTerm_16 : decode cX5_isTerm 16 = .ok (.ireturn, 1) := by decide +kernel
theorem dX5_ruleNumbered_0 : decode cX5_ruleNumbered 0 = .ok (.iload_n 0, 1) := by decide +kernel
theorem dX5_ruleNumbered_1 : decode cX5_ruleNumbered 1 = .ok (.ifCond .lt 19, 3) := by decide +kernel
theorem dX5_ruleNumbered_4 : decode cX5_ruleNumbered 4 = .ok (.iload_n 0, 1) := by decide +kernel
theorem dX5_ruleNumbered_5 : decode cX5_ruleNumbered 5 = .ok (.getstatic 183, 3) := by decide +kernel
theorem dX5_ruleNumbered_8 : decode cX5_ruleNumbered 8 = .ok (.arraylength, 1) := by decide +kernel
theorem dX5_ruleNumbered_9 : decode cX5_ruleNumbered 9 = .ok (.if_icmp .ge 11, 3) := by decide +kernel
theorem dX5_ruleNumbered_12 : decode cX5_ruleNumbered 12 = .ok (.getstatic 183, 3) := by decide +kernel
theorem dX5_ruleNumbered_15 : decode cX5_ruleNumbered 15 = .ok (.iload_n 0, 1) := by decide +kernel
theorem dX5_ruleNumbered_16 : decode cX5_ruleNumbered 16 = .ok (.aaload, 1) := by decide +kernel
theorem dX5_ruleNumbered_17 : decode cX5_ruleNumbered 17 = .ok (.goto 4, 3) := by decide +kernel
theorem dX5_ruleNumbered_20 : decode cX5_ruleNumbered 20 = .ok (.aconst_null, 1) := by decide +kernel
theorem dX5_ruleNumbered_21 : decode cX5_ruleNumbered 21 = .ok (.areturn, 1) := by decide +kernel
theorem dX5_ruleOf_0 : decode cX5_ruleOf 0 = .ok (.aload_n 0, 1) := by decide +kernel
theorem dX5_ruleOf_1 : decode cX5_ruleOf 1 = .ok (.getfield 24, 3) := by decide +kernel
theorem dX5_ruleOf_4 : decode cX5_ruleOf 4 = .ok (.iload_n 1, 1) := by decide +kernel
theorem dX5_ruleOf_5 : decode cX5_ruleOf 5 = .ok (.invokevirtual 85, 3) := by decide +kernel
theorem dX5_ruleOf_8 : decode cX5_ruleOf 8 = .ok (.ifCond .eq 17, 3) := by decide +kernel
theorem dX5_ruleOf_11 : decode cX5_ruleOf 11 = .ok (.aload_n 0, 1) := by decide +kernel
theorem dX5_ruleOf_12 : decode cX5_ruleOf 12 = .ok (.getfield 24, 3) := by decide +kernel
theorem dX5_ruleOf_15 : decode cX5_ruleOf 15 = .ok (.iload_n 1, 1) := by decide +kernel
theorem dX5_ruleOf_16 : decode cX5_ruleOf 16 = .ok (.invokevirtual 136, 3) := by decide +kernel
theorem dX5_ruleOf_19 : decode cX5_ruleOf 19 = .ok (.invokestatic 77, 3) := by decide +kernel
theorem dX5_ruleOf_22 : decode cX5_ruleOf 22 = .ok (.goto 4, 3) := by decide +kernel
theorem dX5_ruleOf_25 : decode cX5_ruleOf 25 = .ok (.aconst_null, 1) := by decide +kernel
theorem dX5_ruleOf_26 : decode cX5_ruleOf 26 = .ok (.areturn, 1) := by decide +kernel
theorem dX5_isInstance_0 : decode cX5_isInstance 0 = .ok (.aload_n 1, 1) := by decide +kernel
theorem dX5_isInstance_1 : decode cX5_isInstance 1 = .ok (.getstatic 187, 3) := by decide +kernel
theorem dX5_isInstance_4 : decode cX5_isInstance 4 = .ok (.if_acmp .ne 12, 3) := by decide +kernel
theorem dX5_isInstance_7 : decode cX5_isInstance 7 = .ok (.aload_n 0, 1) := by decide +kernel
theorem dX5_isInstance_8 : decode cX5_isInstance 8 = .ok (.getfield 14, 3) := by decide +kernel
theorem dX5_isInstance_11 : decode cX5_isInstance 11 = .ok (.iload_n 2, 1) := by decide +kernel
theorem dX5_isInstance_12 : decode cX5_isInstance 12 = .ok (.invokevirtual 121, 3) := by decide +kernel
theorem dX5_isInstance_15 : decode cX5_isInstance 15 = .ok (.ireturn, 1) := by decide +kernel
theorem dX5_isInstance_16 : decode cX5_isInstance 16 = .ok (.aload_n 1, 1) := by decide +kernel
theorem dX5_isInstance_17 : decode cX5_isInstance 17 = .ok (.getstatic 191, 3) := by decide +kernel
theorem dX5_isInstance_20 : decode cX5_isInstance 20 = .ok (.if_acmp .eq 10, 3) := by decide +kernel
theorem dX5_isInstance_23 : decode cX5_isInstance 23 = .ok (.aload_n 1, 1) := by decide +kernel
theorem dX5_isInstance_24 : decode cX5_isInstance 24 = .ok (.getstatic 194, 3) := by decide +kernel
theorem dX5_isInstance_27 : decode cX5_isInstance 27 = .ok (.if_acmp .ne 12, 3) := by decide +kernel
theorem dX5_isInstance_30 : decode cX5_isInstance 30 = .ok (.aload_n 0, 1) := by decide +kernel
theorem dX5_isInstance_31 : decode cX5_isInstance 31 = .ok (.getfield 18, 3) := by decide +kernel
theorem dX5_isInstance_34 : decode cX5_isInstance 34 = .ok (.iload_n 2, 1) := by decide +kernel
theorem dX5_isInstance_35 : decode cX5_isInstance 35 = .ok (.invokevirtual 121, 3) := by decide +kernel
theorem dX5_isInstance_38 : decode cX5_isInstance 38 = .ok (.ireturn, 1) := by decide +kernel
theorem dX5_isInstance_39 : decode cX5_isInstance 39 = .ok (.aload_n 1, 1) := by decide +kernel
theorem dX5_isInstance_40 : decode cX5_isInstance 40 = .ok (.getstatic 197, 3) := by decide +kernel
theorem dX5_isInstance_43 : decode cX5_isInstance 43 = .ok (.if_acmp .ne 10, 3) := by decide +kernel
theorem dX5_isInstance_46 : decode cX5_isInstance 46 = .ok (.iload_n 2, 1) := by decide +kernel
theorem dX5_isInstance_47 : decode cX5_isInstance 47 = .ok (.invokestatic 61, 3) := by decide +kernel
theorem dX5_isInstance_50 : decode cX5_isInstance 50 = .ok (.ifCond .eq 7, 3) := by decide +kernel
theorem dX5_isInstance_53 : decode cX5_isInstance 53 = .ok (.iconst 1, 1) := by decide +kernel
theorem dX5_isInstance_54 : decode cX5_isInstance 54 = .ok (.goto 4, 3) := by decide +kernel
theorem dX5_isInstance_57 : decode cX5_isInstance 57 = .ok (.iconst 0, 1) := by decide +kernel
theorem dX5_isInstance_58 : decode cX5_isInstance 58 = .ok (.ireturn, 1) := by decide +kernel
theorem dX5_derive_0 : decode cX5_derive 0 = .ok (.aload_n 0, 1) := by decide +kernel
theorem dX5_derive_1 : decode cX5_derive 1 = .ok (.getfield 28, 3) := by decide +kernel
theorem dX5_derive_4 : decode cX5_derive 4 = .ok (.iload_n 1, 1) := by decide +kernel
theorem dX5_derive_5 : decode cX5_derive 5 = .ok (.invokevirtual 200, 3) := by decide +kernel
theorem dX5_derive_8 : decode cX5_derive 8 = .ok (.aload_n 0, 1) := by decide +kernel
theorem dX5_derive_9 : decode cX5_derive 9 = .ok (.iload_n 1, 1) := by decide +kernel
theorem dX5_derive_10 : decode cX5_derive 10 = .ok (.invokevirtual 105, 3) := by decide +kernel
theorem dX5_derive_13 : decode cX5_derive 13 = .ok (.astore_n 2, 1) := by decide +kernel
theorem dX5_derive_14 : decode cX5_derive 14 = .ok (.aload_n 2, 1) := by decide +kernel
theorem dX5_derive_15 : decode cX5_derive 15 = .ok (.ifnull 18, 3) := by decide +kernel
theorem dX5_derive_18 : decode cX5_derive 18 = .ok (.aload_n 0, 1) := by decide +kernel
theorem dX5_derive_19 : decode cX5_derive 19 = .ok (.iload_n 1, 1) := by decide +kernel
theorem dX5_derive_20 : decode cX5_derive 20 = .ok (.aload_n 2, 1) := by decide +kernel
theorem dX5_derive_21 : decode cX5_derive 21 = .ok (.invokevirtual 203, 3) := by decide +kernel
theorem dX5_derive_24 : decode cX5_derive 24 = .ok (.ifCond .eq 9, 3) := by decide +kernel
theorem dX5_derive_27 : decode cX5_derive 27 = .ok (.aload_n 0, 1) := by decide +kernel
theorem dX5_derive_28 : decode cX5_derive 28 = .ok (.iload_n 1, 1) := by decide +kernel
theorem dX5_derive_29 : decode cX5_derive 29 = .ok (.aload_n 2, 1) := by decide +kernel
theorem dX5_derive_30 : decode cX5_derive 30 = .ok (.invokevirtual 207, 3) := by decide +kernel
theorem dX5_derive_33 : decode cX5_derive 33 = .ok (.return_, 1) := by decide +kernel
theorem dX5_fits_0 : decode cX5_fits 0 = .ok (.aload_n 0, 1) := by decide +kernel
theorem dX5_fits_1 : decode cX5_fits 1 = .ok (.getfield 24, 3) := by decide +kernel
theorem dX5_fits_4 : decode cX5_fits 4 = .ok (.iload_n 1, 1) := by decide +kernel
theorem dX5_fits_5 : decode cX5_fits 5 = .ok (.invokevirtual 108, 3) := by decide +kernel
theorem dX5_fits_8 : decode cX5_fits 8 = .ok (.aload_n 2, 1) := by decide +kernel
theorem dX5_fits_9 : decode cX5_fits 9 = .ok (.invokevirtual 88, 3) := by decide +kernel
theorem dX5_fits_12 : decode cX5_fits 12 = .ok (.if_icmp .eq 5, 3) := by decide +kernel
theorem dX5_fits_15 : decode cX5_fits 15 = .ok (.iconst 0, 1) := by decide +kernel
theorem dX5_fits_16 : decode cX5_fits 16 = .ok (.ireturn, 1) := by decide +kernel
theorem dX5_fits_17 : decode cX5_fits 17 = .ok (.aload_n 0, 1) := by decide +kernel
theorem dX5_fits_18 : decode cX5_fits 18 = .ok (.getfield 34, 3) := by decide +kernel
theorem dX5_fits_21 : decode cX5_fits 21 = .ok (.invokevirtual 211, 3) := by decide +kernel
theorem dX5_fits_24 : decode cX5_fits 24 = .ok (.iconst 0, 1) := by decide +kernel
theorem dX5_fits_25 : decode cX5_fits 25 = .ok (.istore_n 3, 1) := by decide +kernel
theorem dX5_fits_26 : decode cX5_fits 26 = .ok (.iload_n 3, 1) := by decide +kernel
theorem dX5_fits_27 : decode cX5_fits 27 = .ok (.aload_n 2, 1) := by decide +kernel
theorem dX5_fits_28 : decode cX5_fits 28 = .ok (.invokevirtual 88, 3) := by decide +kernel
theorem dX5_fits_31 : decode cX5_fits 31 = .ok (.if_icmp .ge 34, 3) := by decide +kernel
theorem dX5_fits_34 : decode cX5_fits 34 = .ok (.aload_n 0, 1) := by decide +kernel
theorem dX5_fits_35 : decode cX5_fits 35 = .ok (.aload_n 0, 1) := by decide +kernel
theorem dX5_fits_36 : decode cX5_fits 36 = .ok (.getfield 24, 3) := by decide +kernel
theorem dX5_fits_39 : decode cX5_fits 39 = .ok (.iload_n 1, 1) := by decide +kernel
theorem dX5_fits_40 : decode cX5_fits 40 = .ok (.iload_n 3, 1) := by decide +kernel
theorem dX5_fits_41 : decode cX5_fits 41 = .ok (.invokevirtual 214, 3) := by decide +kernel
theorem dX5_fits_44 : decode cX5_fits 44 = .ok (.aload_n 2, 1) := by decide +kernel
theorem dX5_fits_45 : decode cX5_fits 45 = .ok (.getfield 217, 3) := by decide +kernel
theorem dX5_fits_48 : decode cX5_fits 48 = .ok (.iload_n 3, 1) := by decide +kernel
theorem dX5_fits_49 : decode cX5_fits 49 = .ok (.iconst 4, 1) := by decide +kernel
theorem dX5_fits_50 : decode cX5_fits 50 = .ok (.imul, 1) := by decide +kernel
theorem dX5_fits_51 : decode cX5_fits 51 = .ok (.invokevirtual 220, 3) := by decide +kernel
theorem dX5_fits_54 : decode cX5_fits 54 = .ok (.ifCond .ne 5, 3) := by decide +kernel
theorem dX5_fits_57 : decode cX5_fits 57 = .ok (.iconst 0, 1) := by decide +kernel
theorem dX5_fits_58 : decode cX5_fits 58 = .ok (.ireturn, 1) := by decide +kernel
theorem dX5_fits_59 : decode cX5_fits 59 = .ok (.iinc 3 1, 3) := by decide +kernel
theorem dX5_fits_62 : decode cX5_fits 62 = .ok (.goto (-36), 3) := by decide +kernel
theorem dX5_fits_65 : decode cX5_fits 65 = .ok (.iconst 1, 1) := by decide +kernel
theorem dX5_fits_66 : decode cX5_fits 66 = .ok (.ireturn, 1) := by decide +kernel
theorem dX5_isAsTold_0 : decode cX5_isAsTold 0 = .ok (.aload_n 0, 1) := by decide +kernel
theorem dX5_isAsTold_1 : decode cX5_isAsTold 1 = .ok (.getfield 28, 3) := by decide +kernel
theorem dX5_isAsTold_4 : decode cX5_isAsTold 4 = .ok (.iload_n 1, 1) := by decide +kernel
theorem dX5_isAsTold_5 : decode cX5_isAsTold 5 = .ok (.invokevirtual 139, 3) := by decide +kernel
theorem dX5_isAsTold_8 : decode cX5_isAsTold 8 = .ok (.aload_n 2, 1) := by decide +kernel
theorem dX5_isAsTold_9 : decode cX5_isAsTold 9 = .ok (.iload_n 3, 1) := by decide +kernel
theorem dX5_isAsTold_10 : decode cX5_isAsTold 10 = .ok (.invokestatic 224, 3) := by decide +kernel
theorem dX5_isAsTold_13 : decode cX5_isAsTold 13 = .ok (.invokestatic 228, 3) := by decide +kernel
theorem dX5_isAsTold_16 : decode cX5_isAsTold 16 = .ok (.if_icmp .eq 5, 3) := by decide +kernel
theorem dX5_isAsTold_19 : decode cX5_isAsTold 19 = .ok (.iconst 0, 1) := by decide +kernel
theorem dX5_isAsTold_20 : decode cX5_isAsTold 20 = .ok (.ireturn, 1) := by decide +kernel
theorem dX5_isAsTold_21 : decode cX5_isAsTold 21 = .ok (.iconst 1, 1) := by decide +kernel
theorem dX5_isAsTold_22 : decode cX5_isAsTold 22 = .ok (.istore 4, 2) := by decide +kernel
theorem dX5_isAsTold_24 : decode cX5_isAsTold 24 = .ok (.iload 4, 2) := by decide +kernel
theorem dX5_isAsTold_26 : decode cX5_isAsTold 26 = .ok (.iconst 3, 1) := by decide +kernel
theorem dX5_isAsTold_27 : decode cX5_isAsTold 27 = .ok (.if_icmp .gt 39, 3) := by decide +kernel
theorem dX5_isAsTold_30 : decode cX5_isAsTold 30 = .ok (.aload_n 0, 1) := by decide +kernel
theorem dX5_isAsTold_31 : decode cX5_isAsTold 31 = .ok (.getfield 34, 3) := by decide +kernel
theorem dX5_isAsTold_34 : decode cX5_isAsTold 34 = .ok (.aload_n 2, 1) := by decide +kernel
theorem dX5_isAsTold_35 : decode cX5_isAsTold 35 = .ok (.iload_n 3, 1) := by decide +kernel
theorem dX5_isAsTold_36 : decode cX5_isAsTold 36 = .ok (.iload 4, 2) := by decide +kernel
theorem dX5_isAsTold_38 : decode cX5_isAsTold 38 = .ok (.iadd, 1) := by decide +kernel
theorem dX5_isAsTold_39 : decode cX5_isAsTold 39 = .ok (.invokestatic 224, 3) := by decide +kernel
theorem dX5_isAsTold_42 : decode cX5_isAsTold 42 = .ok (.aload_n 0, 1) := by decide +kernel
theorem dX5_isAsTold_43 : decode cX5_isAsTold 43 = .ok (.getfield 28, 3) := by decide +kernel
theorem dX5_isAsTold_46 : decode cX5_isAsTold 46 = .ok (.iload_n 1, 1) := by decide +kernel
theorem dX5_isAsTold_47 : decode cX5_isAsTold 47 = .ok (.iload 4, 2) := by decide +kernel
theorem dX5_isAsTold_49 : decode cX5_isAsTold 49 = .ok (.invokevirtual 142, 3) := by decide +kernel
theorem dX5_isAsTold_52 : decode cX5_isAsTold 52 = .ok (.invokevirtual 232, 3) := by decide +kernel
theorem dX5_isAsTold_55 : decode cX5_isAsTold 55 = .ok (.ifCond .ne 5, 3) := by decide +kernel
theorem dX5_isAsTold_58 : decode cX5_isAsTold 58 = .ok (.iconst 0, 1) := by decide +kernel
theorem dX5_isAsTold_59 : decode cX5_isAsTold 59 = .ok (.ireturn, 1) := by decide +kernel
theorem dX5_isAsTold_60 : decode cX5_isAsTold 60 = .ok (.iinc 4 1, 3) := by decide +kernel
theorem dX5_isAsTold_63 : decode cX5_isAsTold 63 = .ok (.goto (-39), 3) := by decide +kernel
theorem dX5_isAsTold_66 : decode cX5_isAsTold 66 = .ok (.iconst 1, 1) := by decide +kernel
theorem dX5_isAsTold_67 : decode cX5_isAsTold 67 = .ok (.ireturn, 1) := by decide +kernel
theorem dX5_conclude_0 : decode cX5_conclude 0 = .ok (.aload_n 0, 1) := by decide +kernel
theorem dX5_conclude_1 : decode cX5_conclude 1 = .ok (.getfield 24, 3) := by decide +kernel
theorem dX5_conclude_4 : decode cX5_conclude 4 = .ok (.iload_n 1, 1) := by decide +kernel
theorem dX5_conclude_5 : decode cX5_conclude 5 = .ok (.invokevirtual 236, 3) := by decide +kernel
theorem dX5_conclude_8 : decode cX5_conclude 8 = .ok (.istore_n 3, 1) := by decide +kernel
theorem dX5_conclude_9 : decode cX5_conclude 9 = .ok (.aload_n 2, 1) := by decide +kernel
theorem dX5_conclude_10 : decode cX5_conclude 10 = .ok (.getstatic 187, 3) := by decide +kernel
theorem dX5_conclude_13 : decode cX5_conclude 13 = .ok (.if_acmp .ne 19, 3) := by decide +kernel
theorem dX5_conclude_16 : decode cX5_conclude 16 = .ok (.aload_n 0, 1) := by decide +kernel
theorem dX5_conclude_17 : decode cX5_conclude 17 = .ok (.getfield 28, 3) := by decide +kernel
theorem dX5_conclude_20 : decode cX5_conclude 20 = .ok (.iload_n 1, 1) := by decide +kernel
theorem dX5_conclude_21 : decode cX5_conclude 21 = .ok (.aload_n 0, 1) := by decide +kernel
theorem dX5_conclude_22 : decode cX5_conclude 22 = .ok (.getfield 14, 3) := by decide +kernel
theorem dX5_conclude_25 : decode cX5_conclude 25 = .ok (.iload_n 3, 1) := by decide +kernel
theorem dX5_conclude_26 : decode cX5_conclude 26 = .ok (.invokevirtual 129, 3) := by decide +kernel
theorem dX5_conclude_29 : decode cX5_conclude 29 = .ok (.goto 115, 3) := by decide +kernel
theorem dX5_conclude_32 : decode cX5_conclude 32 = .ok (.aload_n 2, 1) := by decide +kernel
theorem dX5_conclude_33 : decode cX5_conclude 33 = .ok (.getstatic 191, 3) := by decide +kernel
theorem dX5_conclude_36 : decode cX5_conclude 36 = .ok (.if_acmp .eq 10, 3) := by decide +kernel
theorem dX5_conclude_39 : decode cX5_conclude 39 = .ok (.aload_n 2, 1) := by decide +kernel
theorem dX5_conclude_40 : decode cX5_conclude 40 = .ok (.getstatic 194, 3) := by decide +kernel
theorem dX5_conclude_43 : decode cX5_conclude 43 = .ok (.if_acmp .ne 19, 3) := by decide +kernel
theorem dX5_conclude_46 : decode cX5_conclude 46 = .ok (.aload_n 0, 1) := by decide +kernel
theorem dX5_conclude_47 : decode cX5_conclude 47 = .ok (.getfield 28, 3) := by decide +kernel
theorem dX5_conclude_50 : decode cX5_conclude 50 = .ok (.iload_n 1, 1) := by decide +kernel
theorem dX5_conclude_51 : decode cX5_conclude 51 = .ok (.aload_n 0, 1) := by decide +kernel
theorem dX5_conclude_52 : decode cX5_conclude 52 = .ok (.getfield 18, 3) := by decide +kernel
theorem dX5_conclude_55 : decode cX5_conclude 55 = .ok (.iload_n 3, 1) := by decide +kernel
theorem dX5_conclude_56 : decode cX5_conclude 56 = .ok (.invokevirtual 129, 3) := by decide +kernel
theorem dX5_conclude_59 : decode cX5_conclude 59 = .ok (.goto 85, 3) := by decide +kernel
theorem dX5_conclude_62 : decode cX5_conclude 62 = .ok (.aload_n 2, 1) := by decide +kernel
theorem dX5_conclude_63 : decode cX5_conclude 63 = .ok (.getstatic 197, 3) := by decide +kernel
theorem dX5_conclude_66 : decode cX5_conclude 66 = .ok (.if_acmp .ne 14, 3) := by decide +kernel
theorem dX5_conclude_69 : decode cX5_conclude 69 = .ok (.aload_n 0, 1) := by decide +kernel
theorem dX5_conclude_70 : decode cX5_conclude 70 = .ok (.getfield 34, 3) := by decide +kernel
theorem dX5_conclude_73 : decode cX5_conclude 73 = .ok (.bipush 105, 2) := by decide +kernel
theorem dX5_conclude_75 : decode cX5_conclude 75 = .ok (.iload_n 3, 1) := by decide +kernel
theorem dX5_conclude_76 : decode cX5_conclude 76 = .ok (.invokevirtual 232, 3) := by decide +kernel
theorem dX5_conclude_79 : decode cX5_conclude 79 = .ok (.pop, 1) := by decide +kernel
theorem dX5_conclude_80 : decode cX5_conclude 80 = .ok (.aload_n 0, 1) := by decide +kernel
theorem dX5_conclude_81 : decode cX5_conclude 81 = .ok (.getfield 28, 3) := by decide +kernel
theorem dX5_conclude_84 : decode cX5_conclude 84 = .ok (.iload_n 1, 1) := by decide +kernel
theorem dX5_conclude_85 : decode cX5_conclude 85 = .ok (.aload_n 2, 1) := by decide +kernel
theorem dX5_conclude_86 : decode cX5_conclude 86 = .ok (.getfield 239, 3) := by decide +kernel
theorem dX5_conclude_89 : decode cX5_conclude 89 = .ok (.iconst 0, 1) := by decide +kernel
theorem dX5_conclude_90 : decode cX5_conclude 90 = .ok (.invokestatic 224, 3) := by decide +kernel
theorem dX5_conclude_93 : decode cX5_conclude 93 = .ok (.invokestatic 228, 3) := by decide +kernel
theorem dX5_conclude_96 : decode cX5_conclude 96 = .ok (.aload_n 0, 1) := by decide +kernel
theorem dX5_conclude_97 : decode cX5_conclude 97 = .ok (.getfield 34, 3) := by decide +kernel
theorem dX5_conclude_100 : decode cX5_conclude 100 = .ok (.aload_n 2, 1) := by decide +kernel
theorem dX5_conclude_101 : decode cX5_conclude 101 = .ok (.getfield 239, 3) := by decide +kernel
theorem dX5_conclude_104 : decode cX5_conclude 104 = .ok (.iconst 1, 1) := by decide +kernel
theorem dX5_conclude_105 : decode cX5_conclude 105 = .ok (.invokestatic 224, 3) := by decide +kernel
theorem dX5_conclude_108 : decode cX5_conclude 108 = .ok (.invokevirtual 242, 3) := by decide +kernel
theorem dX5_conclude_111 : decode cX5_conclude 111 = .ok (.aload_n 0, 1) := by decide +kernel
theorem dX5_conclude_112 : decode cX5_conclude 112 = .ok (.getfield 34, 3) := by decide +kernel
theorem dX5_conclude_115 : decode cX5_conclude 115 = .ok (.aload_n 2, 1) := by decide +kernel
theorem dX5_conclude_116 : decode cX5_conclude 116 = .ok (.getfield 239, 3) := by decide +kernel
theorem dX5_conclude_119 : decode cX5_conclude 119 = .ok (.iconst 2, 1) := by decide +kernel
theorem dX5_conclude_120 : decode cX5_conclude 120 = .ok (.invokestatic 224, 3) := by decide +kernel
theorem dX5_conclude_123 : decode cX5_conclude 123 = .ok (.invokevirtual 242, 3) := by decide +kernel
theorem dX5_conclude_126 : decode cX5_conclude 126 = .ok (.aload_n 0, 1) := by decide +kernel
theorem dX5_conclude_127 : decode cX5_conclude 127 = .ok (.getfield 34, 3) := by decide +kernel
theorem dX5_conclude_130 : decode cX5_conclude 130 = .ok (.aload_n 2, 1) := by decide +kernel
theorem dX5_conclude_131 : decode cX5_conclude 131 = .ok (.getfield 239, 3) := by decide +kernel
theorem dX5_conclude_134 : decode cX5_conclude 134 = .ok (.iconst 3, 1) := by decide +kernel
theorem dX5_conclude_135 : decode cX5_conclude 135 = .ok (.invokestatic 224, 3) := by decide +kernel
theorem dX5_conclude_138 : decode cX5_conclude 138 = .ok (.invokevirtual 242, 3) := by decide +kernel
theorem dX5_conclude_141 : decode cX5_conclude 141 = .ok (.invokevirtual 245, 3) := by decide +kernel
theorem dX5_conclude_144 : decode cX5_conclude 144 = .ok (.return_, 1) := by decide +kernel
theorem dX5_signAt_0 : decode cX5_signAt 0 = .ok (.iload_n 1, 1) := by decide +kernel
theorem dX5_signAt_1 : decode cX5_signAt 1 = .ok (.ifCond .lt 19, 3) := by decide +kernel
theorem dX5_signAt_4 : decode cX5_signAt 4 = .ok (.iload_n 1, 1) := by decide +kernel
theorem dX5_signAt_5 : decode cX5_signAt 5 = .ok (.aload_n 0, 1) := by decide +kernel
theorem dX5_signAt_6 : decode cX5_signAt 6 = .ok (.invokevirtual 248, 3) := by decide +kernel
theorem dX5_signAt_9 : decode cX5_signAt 9 = .ok (.if_icmp .ge 11, 3) := by decide +kernel
theorem dX5_signAt_12 : decode cX5_signAt 12 = .ok (.aload_n 0, 1) := by decide +kernel
theorem dX5_signAt_13 : decode cX5_signAt 13 = .ok (.iload_n 1, 1) := by decide +kernel
theorem dX5_signAt_14 : decode cX5_signAt 14 = .ok (.invokevirtual 251, 3) := by decide +kernel
theorem dX5_signAt_17 : decode cX5_signAt 17 = .ok (.goto 5, 3) := by decide +kernel
theorem dX5_signAt_20 : decode cX5_signAt 20 = .ok (.bipush 46, 2) := by decide +kernel
theorem dX5_signAt_22 : decode cX5_signAt 22 = .ok (.ireturn, 1) := by decide +kernel
theorem dX5_markProof_0 : decode cX5_markProof 0 = .ok (.iconst 0, 1) := by decide +kernel
theorem dX5_markProof_1 : decode cX5_markProof 1 = .ok (.istore_n 2, 1) := by decide +kernel
theorem dX5_markProof_2 : decode cX5_markProof 2 = .ok (.iload_n 2, 1) := by decide +kernel
theorem dX5_markProof_3 : decode cX5_markProof 3 = .ok (.aload_n 0, 1) := by decide +kernel
theorem dX5_markProof_4 : decode cX5_markProof 4 = .ok (.getfield 45, 3) := by decide +kernel
theorem dX5_markProof_7 : decode cX5_markProof 7 = .ok (.arraylength, 1) := by decide +kernel
theorem dX5_markProof_8 : decode cX5_markProof 8 = .ok (.if_icmp .ge 16, 3) := by decide +kernel
theorem dX5_markProof_11 : decode cX5_markProof 11 = .ok (.aload_n 0, 1) := by decide +kernel
theorem dX5_markProof_12 : decode cX5_markProof 12 = .ok (.getfield 45, 3) := by decide +kernel
theorem dX5_markProof_15 : decode cX5_markProof 15 = .ok (.iload_n 2, 1) := by decide +kernel
theorem dX5_markProof_16 : decode cX5_markProof 16 = .ok (.iconst 0, 1) := by decide +kernel
theorem dX5_markProof_17 : decode cX5_markProof 17 = .ok (.bastore, 1) := by decide +kernel
theorem dX5_markProof_18 : decode cX5_markProof 18 = .ok (.iinc 2 1, 3) := by decide +kernel
theorem dX5_markProof_21 : decode cX5_markProof 21 = .ok (.goto (-19), 3) := by decide +kernel
theorem dX5_markProof_24 : decode cX5_markProof 24 = .ok (.aload_n 0, 1) := by decide +kernel
theorem dX5_markProof_25 : decode cX5_markProof 25 = .ok (.getfield 24, 3) := by decide +kernel
theorem dX5_markProof_28 : decode cX5_markProof 28 = .ok (.iload_n 1, 1) := by decide +kernel
theorem dX5_markProof_29 : decode cX5_markProof 29 = .ok (.invokevirtual 85, 3) := by decide +kernel
theorem dX5_markProof_32 : decode cX5_markProof 32 = .ok (.ifCond .ne 4, 3) := by decide +kernel
theorem dX5_markProof_35 : decode cX5_markProof 35 = .ok (.return_, 1) := by decide +kernel
theorem dX5_markProof_36 : decode cX5_markProof 36 = .ok (.aload_n 0, 1) := by decide +kernel
theorem dX5_markProof_37 : decode cX5_markProof 37 = .ok (.getfield 45, 3) := by decide +kernel
theorem dX5_markProof_40 : decode cX5_markProof 40 = .ok (.iload_n 1, 1) := by decide +kernel
theorem dX5_markProof_41 : decode cX5_markProof 41 = .ok (.iconst 1, 1) := by decide +kernel
theorem dX5_markProof_42 : decode cX5_markProof 42 = .ok (.bastore, 1) := by decide +kernel
theorem dX5_markProof_43 : decode cX5_markProof 43 = .ok (.iload_n 1, 1) := by decide +kernel
theorem dX5_markProof_44 : decode cX5_markProof 44 = .ok (.istore_n 2, 1) := by decide +kernel
theorem dX5_markProof_45 : decode cX5_markProof 45 = .ok (.iload_n 2, 1) := by decide +kernel
theorem dX5_markProof_46 : decode cX5_markProof 46 = .ok (.iconst 1, 1) := by decide +kernel
theorem dX5_markProof_47 : decode cX5_markProof 47 = .ok (.if_icmp .lt 69, 3) := by decide +kernel
theorem dX5_markProof_50 : decode cX5_markProof 50 = .ok (.iconst 0, 1) := by decide +kernel
theorem dX5_markProof_51 : decode cX5_markProof 51 = .ok (.istore_n 3, 1) := by decide +kernel
theorem dX5_markProof_52 : decode cX5_markProof 52 = .ok (.aload_n 0, 1) := by decide +kernel
theorem dX5_markProof_53 : decode cX5_markProof 53 = .ok (.getfield 45, 3) := by decide +kernel
theorem dX5_markProof_56 : decode cX5_markProof 56 = .ok (.iload_n 2, 1) := by decide +kernel
theorem dX5_markProof_57 : decode cX5_markProof 57 = .ok (.baload, 1) := by decide +kernel
theorem dX5_markProof_58 : decode cX5_markProof 58 = .ok (.ifCond .eq 52, 3) := by decide +kernel
theorem dX5_markProof_61 : decode cX5_markProof 61 = .ok (.iload_n 3, 1) := by decide +kernel
theorem dX5_markProof_62 : decode cX5_markProof 62 = .ok (.aload_n 0, 1) := by decide +kernel
theorem dX5_markProof_63 : decode cX5_markProof 63 = .ok (.getfield 24, 3) := by decide +kernel
theorem dX5_markProof_66 : decode cX5_markProof 66 = .ok (.iload_n 2, 1) := by decide +kernel
theorem dX5_markProof_67 : decode cX5_markProof 67 = .ok (.invokevirtual 108, 3) := by decide +kernel
theorem dX5_markProof_70 : decode cX5_markProof 70 = .ok (.if_icmp .ge 40, 3) := by decide +kernel
theorem dX5_markProof_73 : decode cX5_markProof 73 = .ok (.aload_n 0, 1) := by decide +kernel
theorem dX5_markProof_74 : decode cX5_markProof 74 = .ok (.getfield 24, 3) := by decide +kernel
theorem dX5_markProof_77 : decode cX5_markProof 77 = .ok (.iload_n 2, 1) := by decide +kernel
theorem dX5_markProof_78 : decode cX5_markProof 78 = .ok (.iload_n 3, 1) := by decide +kernel
theorem dX5_markProof_79 : decode cX5_markProof 79 = .ok (.invokevirtual 214, 3) := by decide +kernel
theorem dX5_markProof_82 : decode cX5_markProof 82 = .ok (.istore 4, 2) := by decide +kernel
theorem dX5_markProof_84 : decode cX5_markProof 84 = .ok (.aload_n 0, 1) := by decide +kernel
theorem dX5_markProof_85 : decode cX5_markProof 85 = .ok (.getfield 24, 3) := by decide +kernel
theorem dX5_markProof_88 : decode cX5_markProof 88 = .ok (.iload 4, 2) := by decide +kernel
theorem dX5_markProof_90 : decode cX5_markProof 90 = .ok (.invokevirtual 85, 3) := by decide +kernel
theorem dX5_markProof_93 : decode cX5_markProof 93 = .ok (.ifCond .eq 11, 3) := by decide +kernel
theorem dX5_markProof_96 : decode cX5_markProof 96 = .ok (.aload_n 0, 1) := by decide +kernel
theorem dX5_markProof_97 : decode cX5_markProof 97 = .ok (.getfield 45, 3) := by decide +kernel
theorem dX5_markProof_100 : decode cX5_markProof 100 = .ok (.iload 4, 2) := by decide +kernel
theorem dX5_markProof_102 : decode cX5_markProof 102 = .ok (.iconst 1, 1) := by decide +kernel
theorem dX5_markProof_103 : decode cX5_markProof 103 = .ok (.bastore, 1) := by decide +kernel
theorem dX5_markProof_104 : decode cX5_markProof 104 = .ok (.iinc 3 1, 3) := by decide +kernel
theorem dX5_markProof_107 : decode cX5_markProof 107 = .ok (.goto (-55), 3) := by decide +kernel
theorem dX5_markProof_110 : decode cX5_markProof 110 = .ok (.iinc 2 (-1), 3) := by decide +kernel
theorem dX5_markProof_113 : decode cX5_markProof 113 = .ok (.goto (-68), 3) := by decide +kernel
theorem dX5_markProof_116 : decode cX5_markProof 116 = .ok (.return_, 1) := by decide +kernel
theorem dX5_leastBroken_0 : decode cX5_leastBroken 0 = .ok (.iconst 1, 1) := by decide +kernel
theorem dX5_leastBroken_1 : decode cX5_leastBroken 1 = .ok (.istore_n 2, 1) := by decide +kernel
theorem dX5_leastBroken_2 : decode cX5_leastBroken 2 = .ok (.iload_n 2, 1) := by decide +kernel
theorem dX5_leastBroken_3 : decode cX5_leastBroken 3 = .ok (.iload_n 1, 1) := by decide +kernel
theorem dX5_leastBroken_4 : decode cX5_leastBroken 4 = .ok (.if_icmp .gt 40, 3) := by decide +kernel
theorem dX5_leastBroken_7 : decode cX5_leastBroken 7 = .ok (.iload_n 2, 1) := by decide +kernel
theorem dX5_leastBroken_8 : decode cX5_leastBroken 8 = .ok (.aload_n 0, 1) := by decide +kernel
theorem dX5_leastBroken_9 : decode cX5_leastBroken 9 = .ok (.getfield 45, 3) := by decide +kernel
theorem dX5_leastBroken_12 : decode cX5_leastBroken 12 = .ok (.arraylength, 1) := by decide +kernel
theorem dX5_leastBroken_13 : decode cX5_leastBroken 13 = .ok (.if_icmp .ge 31, 3) := by decide +kernel
theorem dX5_leastBroken_16 : decode cX5_leastBroken 16 = .ok (.aload_n 0, 1) := by decide +kernel
theorem dX5_leastBroken_17 : decode cX5_leastBroken 17 = .ok (.getfield 45, 3) := by decide +kernel
theorem dX5_leastBroken_20 : decode cX5_leastBroken 20 = .ok (.iload_n 2, 1) := by decide +kernel
theorem dX5_leastBroken_21 : decode cX5_leastBroken 21 = .ok (.baload, 1) := by decide +kernel
theorem dX5_leastBroken_22 : decode cX5_leastBroken 22 = .ok (.ifCond .eq 16, 3) := by decide +kernel
theorem dX5_leastBroken_25 : decode cX5_leastBroken 25 = .ok (.aload_n 0, 1) := by decide +kernel
theorem dX5_leastBroken_26 : decode cX5_leastBroken 26 = .ok (.getfield 28, 3) := by decide +kernel
theorem dX5_leastBroken_29 : decode cX5_leastBroken 29 = .ok (.iload_n 2, 1) := by decide +kernel
theorem dX5_leastBroken_30 : decode cX5_leastBroken 30 = .ok (.invokevirtual 121, 3) := by decide +kernel
theorem dX5_leastBroken_33 : decode cX5_leastBroken 33 = .ok (.ifCond .ne 5, 3) := by decide +kernel
theorem dX5_leastBroken_36 : decode cX5_leastBroken 36 = .ok (.iload_n 2, 1) := by decide +kernel
theorem dX5_leastBroken_37 : decode cX5_leastBroken 37 = .ok (.ireturn, 1) := by decide +kernel
theorem dX5_leastBroken_38 : decode cX5_leastBroken 38 = .ok (.iinc 2 1, 3) := by decide +kernel
theorem dX5_leastBroken_41 : decode cX5_leastBroken 41 = .ok (.goto (-39), 3) := by decide +kernel
theorem dX5_leastBroken_44 : decode cX5_leastBroken 44 = .ok (.iconst 0, 1) := by decide +kernel
theorem dX5_leastBroken_45 : decode cX5_leastBroken 45 = .ok (.ireturn, 1) := by decide +kernel
theorem dX5_sizeAbovePremises_0 : decode cX5_sizeAbovePremises 0 = .ok (.lconst 1, 1) := by decide +kernel
theorem dX5_sizeAbovePremises_1 : decode cX5_sizeAbovePremises 1 = .ok (.lstore_n 2, 1) := by decide +kernel
theorem dX5_sizeAbovePremises_2 : decode cX5_sizeAbovePremises 2 = .ok (.iconst 0, 1) := by decide +kernel
theorem dX5_sizeAbovePremises_3 : decode cX5_sizeAbovePremises 3 = .ok (.istore 4, 2) := by decide +kernel
theorem dX5_sizeAbovePremises_5 : decode cX5_sizeAbovePremises 5 = .ok (.iload 4, 2) := by decide +kernel
theorem dX5_sizeAbovePremises_7 : decode cX5_sizeAbovePremises 7 = .ok (.aload_n 0, 1) := by decide +kernel
theorem dX5_sizeAbovePremises_8 : decode cX5_sizeAbovePremises 8 = .ok (.getfield 24, 3) := by decide +kernel
theorem dX5_sizeAbovePremises_11 : decode cX5_sizeAbovePremises 11 = .ok (.iload_n 1, 1) := by decide +kernel
theorem dX5_sizeAbovePremises_12 : decode cX5_sizeAbovePremises 12 = .ok (.invokevirtual 108, 3) := by decide +kernel
theorem dX5_sizeAbovePremises_15 : decode cX5_sizeAbovePremises 15 = .ok (.if_icmp .ge 44, 3) := by decide +kernel
theorem dX5_sizeAbovePremises_18 : decode cX5_sizeAbovePremises 18 = .ok (.aload_n 0, 1) := by decide +kernel
theorem dX5_sizeAbovePremises_19 : decode cX5_sizeAbovePremises 19 = .ok (.getfield 24, 3) := by decide +kernel
theorem dX5_sizeAbovePremises_22 : decode cX5_sizeAbovePremises 22 = .ok (.iload_n 1, 1) := by decide +kernel
theorem dX5_sizeAbovePremises_23 : decode cX5_sizeAbovePremises 23 = .ok (.iload 4, 2) := by decide +kernel
theorem dX5_sizeAbovePremises_25 : decode cX5_sizeAbovePremises 25 = .ok (.invokevirtual 214, 3) := by decide +kernel
theorem dX5_sizeAbovePremises_28 : decode cX5_sizeAbovePremises 28 = .ok (.istore 5, 2) := by decide +kernel
theorem dX5_sizeAbovePremises_30 : decode cX5_sizeAbovePremises 30 = .ok (.aload_n 0, 1) := by decide +kernel
theorem dX5_sizeAbovePremises_31 : decode cX5_sizeAbovePremises 31 = .ok (.getfield 24, 3) := by decide +kernel
theorem dX5_sizeAbovePremises_34 : decode cX5_sizeAbovePremises 34 = .ok (.iload 5, 2) := by decide +kernel
theorem dX5_sizeAbovePremises_36 : decode cX5_sizeAbovePremises 36 = .ok (.invokevirtual 85, 3) := by decide +kernel
theorem dX5_sizeAbovePremises_39 : decode cX5_sizeAbovePremises 39 = .ok (.ifCond .eq 14, 3) := by decide +kernel
theorem dX5_sizeAbovePremises_42 : decode cX5_sizeAbovePremises 42 = .ok (.lload_n 2, 1) := by decide +kernel
theorem dX5_sizeAbovePremises_43 : decode cX5_sizeAbovePremises 43 = .ok (.aload_n 0, 1) := by decide +kernel
theorem dX5_sizeAbovePremises_44 : decode cX5_sizeAbovePremises 44 = .ok (.getfield 49, 3) := by decide +kernel
theorem dX5_sizeAbovePremises_47 : decode cX5_sizeAbovePremises 47 = .ok (.iload 5, 2) := by decide +kernel
theorem dX5_sizeAbovePremises_49 : decode cX5_sizeAbovePremises 49 = .ok (.iaload, 1) := by decide +kernel
theorem dX5_sizeAbovePremises_50 : decode cX5_sizeAbovePremises 50 = .ok (.i2l, 1) := by decide +kernel
theorem dX5_sizeAbovePremises_51 : decode cX5_sizeAbovePremises 51 = .ok (.ladd, 1) := by decide +kernel
theorem dX5_sizeAbovePremises_52 : decode cX5_sizeAbovePremises 52 = .ok (.lstore_n 2, 1) := by decide +kernel
theorem dX5_sizeAbovePremises_53 : decode cX5_sizeAbovePremises 53 = .ok (.iinc 4 1, 3) := by decide +kernel
theorem dX5_sizeAbovePremises_56 : decode cX5_sizeAbovePremises 56 = .ok (.goto (-51), 3) := by decide +kernel
theorem dX5_sizeAbovePremises_59 : decode cX5_sizeAbovePremises 59 = .ok (.lload_n 2, 1) := by decide +kernel
theorem dX5_sizeAbovePremises_60 : decode cX5_sizeAbovePremises 60 = .ok (.ldc2_w 252, 3) := by decide +kernel
theorem dX5_sizeAbovePremises_63 : decode cX5_sizeAbovePremises 63 = .ok (.invokestatic 254, 3) := by decide +kernel
theorem dX5_sizeAbovePremises_66 : decode cX5_sizeAbovePremises 66 = .ok (.l2i, 1) := by decide +kernel
theorem dX5_sizeAbovePremises_67 : decode cX5_sizeAbovePremises 67 = .ok (.ireturn, 1) := by decide +kernel
theorem dX5_tellStatement_0 : decode cX5_tellStatement 0 = .ok (.aload_n 0, 1) := by decide +kernel
theorem dX5_tellStatement_1 : decode cX5_tellStatement 1 = .ok (.iload_n 1, 1) := by decide +kernel
theorem dX5_tellStatement_2 : decode cX5_tellStatement 2 = .ok (.invokevirtual 260, 3) := by decide +kernel
theorem dX5_tellStatement_5 : decode cX5_tellStatement 5 = .ok (.astore_n 2, 1) := by decide +kernel
theorem dX5_tellStatement_6 : decode cX5_tellStatement 6 = .ok (.iconst 0, 1) := by decide +kernel
theorem dX5_tellStatement_7 : decode cX5_tellStatement 7 = .ok (.istore_n 3, 1) := by decide +kernel
theorem dX5_tellStatement_8 : decode cX5_tellStatement 8 = .ok (.iload_n 3, 1) := by decide +kernel
theorem dX5_tellStatement_9 : decode cX5_tellStatement 9 = .ok (.aload_n 2, 1) := by decide +kernel
theorem dX5_tellStatement_10 : decode cX5_tellStatement 10 = .ok (.invokevirtual 248, 3) := by decide +kernel
theorem dX5_tellStatement_13 : decode cX5_tellStatement 13 = .ok (.if_icmp .ge 66, 3) := by decide +kernel
theorem dX5_tellStatement_16 : decode cX5_tellStatement 16 = .ok (.aload_n 2, 1) := by decide +kernel
theorem dX5_tellStatement_17 : decode cX5_tellStatement 17 = .ok (.iload_n 3, 1) := by decide +kernel
theorem dX5_tellStatement_18 : decode cX5_tellStatement 18 = .ok (.invokevirtual 251, 3) := by decide +kernel
theorem dX5_tellStatement_21 : decode cX5_tellStatement 21 = .ok (.istore 4, 2) := by decide +kernel
theorem dX5_tellStatement_23 : decode cX5_tellStatement 23 = .ok (.iload 4, 2) := by decide +kernel
theorem dX5_tellStatement_25 : decode cX5_tellStatement 25 = .ok (.bipush 65, 2) := by decide +kernel
theorem dX5_tellStatement_27 : decode cX5_tellStatement 27 = .ok (.if_icmp .lt 36, 3) := by decide +kernel
theorem dX5_tellStatement_30 : decode cX5_tellStatement 30 = .ok (.iload 4, 2) := by decide +kernel
theorem dX5_tellStatement_32 : decode cX5_tellStatement 32 = .ok (.bipush 67, 2) := by decide +kernel
theorem dX5_tellStatement_34 : decode cX5_tellStatement 34 = .ok (.if_icmp .gt 29, 3) := by decide +kernel
theorem dX5_tellStatement_37 : decode cX5_tellStatement 37 = .ok (.aload_n 0, 1) := by decide +kernel
theorem dX5_tellStatement_38 : decode cX5_tellStatement 38 = .ok (.getfield 41, 3) := by decide +kernel
theorem dX5_tellStatement_41 : decode cX5_tellStatement 41 = .ok (.aload_n 0, 1) := by decide +kernel
theorem dX5_tellStatement_42 : decode cX5_tellStatement 42 = .ok (.getfield 28, 3) := by decide +kernel
theorem dX5_tellStatement_45 : decode cX5_tellStatement 45 = .ok (.iload_n 1, 1) := by decide +kernel
theorem dX5_tellStatement_46 : decode cX5_tellStatement 46 = .ok (.iload 4, 2) := by decide +kernel
theorem dX5_tellStatement_48 : decode cX5_tellStatement 48 = .ok (.bipush 65, 2) := by decide +kernel
theorem dX5_tellStatement_50 : decode cX5_tellStatement 50 = .ok (.isub, 1) := by decide +kernel
theorem dX5_tellStatement_51 : decode cX5_tellStatement 51 = .ok (.iconst 1, 1) := by decide +kernel
theorem dX5_tellStatement_52 : decode cX5_tellStatement 52 = .ok (.iadd, 1) := by decide +kernel
theorem dX5_tellStatement_53 : decode cX5_tellStatement 53 = .ok (.invokevirtual 142, 3) := by decide +kernel
theorem dX5_tellStatement_56 : decode cX5_tellStatement 56 = .ok (.invokevirtual 148, 3) := by decide +kernel
theorem dX5_tellStatement_59 : decode cX5_tellStatement 59 = .ok (.pop, 1) := by decide +kernel
theorem dX5_tellStatement_60 : decode cX5_tellStatement 60 = .ok (.goto 13, 3) := by decide +kernel
theorem dX5_tellStatement_63 : decode cX5_tellStatement 63 = .ok (.aload_n 0, 1) := by decide +kernel
theorem dX5_tellStatement_64 : decode cX5_tellStatement 64 = .ok (.getfield 41, 3) := by decide +kernel
theorem dX5_tellStatement_67 : decode cX5_tellStatement 67 = .ok (.iload 4, 2) := by decide +kernel
theorem dX5_tellStatement_69 : decode cX5_tellStatement 69 = .ok (.invokevirtual 169, 3) := by decide +kernel
theorem dX5_tellStatement_72 : decode cX5_tellStatement 72 = .ok (.pop, 1) := by decide +kernel
theorem dX5_tellStatement_73 : decode cX5_tellStatement 73 = .ok (.iinc 3 1, 3) := by decide +kernel
theorem dX5_tellStatement_76 : decode cX5_tellStatement 76 = .ok (.goto (-68), 3) := by decide +kernel
theorem dX5_tellStatement_79 : decode cX5_tellStatement 79 = .ok (.return_, 1) := by decide +kernel
theorem dX5_wordingFor_0 : decode cX5_wordingFor 0 = .ok (.aload_n 0, 1) := by decide +kernel
theorem dX5_wordingFor_1 : decode cX5_wordingFor 1 = .ok (.getfield 28, 3) := by decide +kernel
theorem dX5_wordingFor_4 : decode cX5_wordingFor 4 = .ok (.iload_n 1, 1) := by decide +kernel
theorem dX5_wordingFor_5 : decode cX5_wordingFor 5 = .ok (.invokevirtual 139, 3) := by decide +kernel
theorem dX5_wordingFor_8 : decode cX5_wordingFor 8 = .ok (.istore_n 2, 1) := by decide +kernel
theorem dX5_wordingFor_9 : decode cX5_wordingFor 9 = .ok (.iload_n 2, 1) := by decide +kernel
theorem dX5_wordingFor_10 : decode cX5_wordingFor 10 = .ok (.bipush 11, 2) := by decide +kernel
theorem dX5_wordingFor_12 : decode cX5_wordingFor 12 = .ok (.if_icmp .ne 19, 3) := by decide +kernel
theorem dX5_wordingFor_15 : decode cX5_wordingFor 15 = .ok (.aload_n 0, 1) := by decide +kernel
theorem dX5_wordingFor_16 : decode cX5_wordingFor 16 = .ok (.getfield 28, 3) := by decide +kernel
theorem dX5_wordingFor_19 : decode cX5_wordingFor 19 = .ok (.iload_n 1, 1) := by decide +kernel
theorem dX5_wordingFor_20 : decode cX5_wordingFor 20 = .ok (.iconst 2, 1) := by decide +kernel
theorem dX5_wordingFor_21 : decode cX5_wordingFor 21 = .ok (.invokevirtual 142, 3) := by decide +kernel
theorem dX5_wordingFor_24 : decode cX5_wordingFor 24 = .ok (.ifCond .ne 7, 3) := by decide +kernel
theorem dX5_wordingFor_27 : decode cX5_wordingFor 27 = .ok (.ldc_w 264, 3) := by decide +kernel
theorem dX5_wordingFor_30 : decode cX5_wordingFor 30 = .ok (.areturn, 1) := by decide +kernel
theorem dX5_wordingFor_31 : decode cX5_wordingFor 31 = .ok (.iload_n 2, 1) := by decide +kernel
theorem dX5_wordingFor_32 : decode cX5_wordingFor 32 = .ok (.bipush 11, 2) := by decide +kernel
theorem dX5_wordingFor_34 : decode cX5_wordingFor 34 = .ok (.if_icmp .ne 20, 3) := by decide +kernel
theorem dX5_wordingFor_37 : decode cX5_wordingFor 37 = .ok (.aload_n 0, 1) := by decide +kernel
theorem dX5_wordingFor_38 : decode cX5_wordingFor 38 = .ok (.getfield 28, 3) := by decide +kernel
theorem dX5_wordingFor_41 : decode cX5_wordingFor 41 = .ok (.iload_n 1, 1) := by decide +kernel
theorem dX5_wordingFor_42 : decode cX5_wordingFor 42 = .ok (.iconst 2, 1) := by decide +kernel
theorem dX5_wordingFor_43 : decode cX5_wordingFor 43 = .ok (.invokevirtual 142, 3) := by decide +kernel
theorem dX5_wordingFor_46 : decode cX5_wordingFor 46 = .ok (.iconst 1, 1) := by decide +kernel
theorem dX5_wordingFor_47 : decode cX5_wordingFor 47 = .ok (.if_icmp .ne 7, 3) := by decide +kernel
theorem dX5_wordingFor_50 : decode cX5_wordingFor 50 = .ok (.ldc_w 266, 3) := by decide +kernel
theorem dX5_wordingFor_53 : decode cX5_wordingFor 53 = .ok (.areturn, 1) := by decide +kernel
theorem dX5_wordingFor_54 : decode cX5_wordingFor 54 = .ok (.iload_n 2, 1) := by decide +kernel
theorem dX5_wordingFor_55 : decode cX5_wordingFor 55 = .ok (.ifCond .lt 22, 3) := by decide +kernel
theorem dX5_wordingFor_58 : decode cX5_wordingFor 58 = .ok (.iload_n 2, 1) := by decide +kernel
theorem dX5_wordingFor_59 : decode cX5_wordingFor 59 = .ok (.getstatic 57, 3) := by decide +kernel
theorem dX5_wordingFor_62 : decode cX5_wordingFor 62 = .ok (.arraylength, 1) := by decide +kernel
theorem dX5_wordingFor_63 : decode cX5_wordingFor 63 = .ok (.if_icmp .ge 14, 3) := by decide +kernel
theorem dX5_wordingFor_66 : decode cX5_wordingFor 66 = .ok (.getstatic 57, 3) := by decide +kernel
theorem dX5_wordingFor_69 : decode cX5_wordingFor 69 = .ok (.iload_n 2, 1) := by decide +kernel
theorem dX5_wordingFor_70 : decode cX5_wordingFor 70 = .ok (.aaload, 1) := by decide +kernel
theorem dX5_wordingFor_71 : decode cX5_wordingFor 71 = .ok (.getfield 268, 3) := by decide +kernel
theorem dX5_wordingFor_74 : decode cX5_wordingFor 74 = .ok (.goto 9, 3) := by decide +kernel
theorem dX5_wordingFor_77 : decode cX5_wordingFor 77 = .ok (.getstatic 271, 3) := by decide +kernel
theorem dX5_wordingFor_80 : decode cX5_wordingFor 80 = .ok (.getfield 268, 3) := by decide +kernel
theorem dX5_wordingFor_83 : decode cX5_wordingFor 83 = .ok (.areturn, 1) := by decide +kernel
theorem dX5_tellPremises_0 : decode cX5_tellPremises 0 = .ok (.iconst 0, 1) := by decide +kernel
theorem dX5_tellPremises_1 : decode cX5_tellPremises 1 = .ok (.istore_n 2, 1) := by decide +kernel
theorem dX5_tellPremises_2 : decode cX5_tellPremises 2 = .ok (.iload_n 2, 1) := by decide +kernel
theorem dX5_tellPremises_3 : decode cX5_tellPremises 3 = .ok (.aload_n 0, 1) := by decide +kernel
theorem dX5_tellPremises_4 : decode cX5_tellPremises 4 = .ok (.getfield 24, 3) := by decide +kernel
theorem dX5_tellPremises_7 : decode cX5_tellPremises 7 = .ok (.iload_n 1, 1) := by decide +kernel
theorem dX5_tellPremises_8 : decode cX5_tellPremises 8 = .ok (.invokevirtual 108, 3) := by decide +kernel
theorem dX5_tellPremises_11 : decode cX5_tellPremises 11 = .ok (.if_icmp .ge 42, 3) := by decide +kernel
theorem dX5_tellPremises_14 : decode cX5_tellPremises 14 = .ok (.aload_n 0, 1) := by decide +kernel
theorem dX5_tellPremises_15 : decode cX5_tellPremises 15 = .ok (.getfield 41, 3) := by decide +kernel
theorem dX5_tellPremises_18 : decode cX5_tellPremises 18 = .ok (.iload_n 2, 1) := by decide +kernel
theorem dX5_tellPremises_19 : decode cX5_tellPremises 19 = .ok (.ifCond .ne 9, 3) := by decide +kernel
theorem dX5_tellPremises_22 : decode cX5_tellPremises 22 = .ok (.ldc_w 275, 3) := by decide +kernel
theorem dX5_tellPremises_25 : decode cX5_tellPremises 25 = .ok (.goto 6, 3) := by decide +kernel
theorem dX5_tellPremises_28 : decode cX5_tellPremises 28 = .ok (.ldc_w 277, 3) := by decide +kernel
theorem dX5_tellPremises_31 : decode cX5_tellPremises 31 = .ok (.invokevirtual 154, 3) := by decide +kernel
theorem dX5_tellPremises_34 : decode cX5_tellPremises 34 = .ok (.aload_n 0, 1) := by decide +kernel
theorem dX5_tellPremises_35 : decode cX5_tellPremises 35 = .ok (.getfield 24, 3) := by decide +kernel
theorem dX5_tellPremises_38 : decode cX5_tellPremises 38 = .ok (.iload_n 1, 1) := by decide +kernel
theorem dX5_tellPremises_39 : decode cX5_tellPremises 39 = .ok (.iload_n 2, 1) := by decide +kernel
theorem dX5_tellPremises_40 : decode cX5_tellPremises 40 = .ok (.invokevirtual 214, 3) := by decide +kernel
theorem dX5_tellPremises_43 : decode cX5_tellPremises 43 = .ok (.invokevirtual 148, 3) := by decide +kernel
theorem dX5_tellPremises_46 : decode cX5_tellPremises 46 = .ok (.pop, 1) := by decide +kernel
theorem dX5_tellPremises_47 : decode cX5_tellPremises 47 = .ok (.iinc 2 1, 3) := by decide +kernel
theorem dX5_tellPremises_50 : decode cX5_tellPremises 50 = .ok (.goto (-48), 3) := by decide +kernel
theorem dX5_tellPremises_53 : decode cX5_tellPremises 53 = .ok (.return_, 1) := by decide +kernel
set_option maxRecDepth 20000 in
theorem ggX5_init_X4_init : GoodIn wsX5_init wsX4_init := goodIn_r _ [29, 30, 2, 3, 31, 32, 33, 34, 24, 35, 36, 37, 70, 71, 72] rfl (by decide +kernel)
set_option maxRecDepth 20000 in
theorem gX5_init_X4_init : GoodIn wsX5_init (wsX4_init) := ggX5_init_X4_init
set_option maxRecDepth 20000 in
theorem ggX5_init_X2_init : GoodIn wsX5_init wsX2_init := goodIn_r _ [39, 40, 2, 3, 24, 41, 42, 43, 44, 45, 82, 83, 84, 85, 86] rfl (by decide +kernel)
set_option maxRecDepth 20000 in
theorem gX5_init_X2_init_n23 : GoodIn wsX5_init (wsX2_init) := ggX5_init_X2_init
set_option maxRecDepth 20000 in
theorem ggX5_init_X1_init : GoodIn wsX5_init wsX1_init := goodIn_r _ [47, 48, 2, 3, 24, 49, 87] rfl (by decide +kernel)
set_option maxRecDepth 20000 in
theorem gX5_init_X1_init_n33 : GoodIn wsX5_init (wsX1_init) := ggX5_init_X1_init
set_option maxRecDepth 20000 in
theorem ggX5_init_J4_init_da8c8 : GoodIn wsX5_init wsJ4_init_da8c8 := goodIn_r _ [52, 53, 54, 55, 56, 57, 2, 3, 58, 59, 60, 61, 62, 63, 64, 65, 66, 67, 68, 69, 88, 89, 90, 91] rfl (by decide +kernel)
set_option maxRecDepth 20000 in
theorem gX5_init_J4_init_da8c8 : GoodIn wsX5_init (wsJ4_init_da8c8) := ggX5_init_J4_init_da8c8
set_option maxRecDepth 20000 in
theorem ggX5_axiom_X5_isTerm : GoodIn wsX5_axiom wsX5_isTerm := goodIn_r _ [6] rfl (by decide +kernel)
set_option maxRecDepth 20000 in
theorem gX5_axiom_X5_isTerm : GoodIn wsX5_axiom (va_wsS RX5 61 yX5_isTerm wsX5_isTerm) := goodIn_app (goodIn_of _ (by decide +kernel)) ggX5_axiom_X5_isTerm
set_option maxRecDepth 20000 in
theorem ggX5_axiom_X4_add : GoodIn wsX5_axiom wsX4_add := goodIn_r _ [11, 12, 13, 14, 15, 16, 10, 17, 18, 28, 29, 30] rfl (by decide +kernel)
set_option maxRecDepth 20000 in
theorem gX5_axiom_X4_add : GoodIn wsX5_axiom (wsV RX5 70 RX4 yX4_add wsX4_add) := goodIn_app (goodIn_of _ (by decide +kernel)) ggX5_axiom_X4_add
set_option maxRecDepth 20000 in
theorem ggX5_triple_X5_isTerm : GoodIn wsX5_triple wsX5_isTerm := goodIn_r _ [5] rfl (by decide +kernel)
set_option maxRecDepth 20000 in
theorem gX5_triple_X5_isTerm : GoodIn wsX5_triple (va_wsS RX5 61 yX5_isTerm wsX5_isTerm) := goodIn_app (goodIn_of _ (by decide +kernel)) ggX5_triple_X5_isTerm
set_option maxRecDepth 20000 in
theorem ggX5_triple_X4_find : GoodIn wsX5_triple wsX4_find := goodIn_r _ [10, 11, 12, 13, 14, 9, 15, 16, 17, 18, 19, 20, 21, 22, 23, 24, 25, 43, 44, 45] rfl (by decide +kernel)
set_option maxRecDepth 20000 in
theorem gX5_triple_X4_find : GoodIn wsX5_triple (wsV RX5 74 RX4 yX4_find wsX4_find) := goodIn_app (goodIn_of _ (by decide +kernel)) ggX5_triple_X4_find
set_option maxRecDepth 20000 in
theorem ggX5_triple_X4_add : GoodIn wsX5_triple wsX4_add := goodIn_r _ [29, 11, 20, 30, 31, 32, 9, 33, 25, 43, 44, 45] rfl (by decide +kernel)
set_option maxRecDepth 20000 in
theorem gX5_triple_X4_add : GoodIn wsX5_triple (wsV RX5 70 RX4 yX4_add wsX4_add) := goodIn_app (goodIn_of _ (by decide +kernel)) ggX5_triple_X4_add
set_option maxRecDepth 20000 in
theorem ggX5_row_X5_ruleNumbered : GoodIn wsX5_row wsX5_ruleNumbered := goodIn_r _ [5, 6] rfl (by decide +kernel)
set_option maxRecDepth 20000 in
theorem gX5_row_X5_ruleNumbered : GoodIn wsX5_row (va_wsS RX5 77 yX5_ruleNumbered wsX5_ruleNumbered) := goodIn_app (goodIn_of _ (by decide +kernel)) ggX5_row_X5_ruleNumbered
set_option maxRecDepth 20000 in
theorem ggX5_row_X5_isInstance : GoodIn wsX5_row wsX5_isInstance := goodIn_r _ [10, 11, 12, 13, 14, 15, 16, 17, 18, 19, 20, 21, 22, 23, 24, 25, 26, 27, 28, 4, 29, 189, 190, 191, 192, 193, 194, 195, 196, 197, 198, 199, 200] rfl (by decide +kernel)
set_option maxRecDepth 20000 in
theorem gX5_row_X5_isInstance : GoodIn wsX5_row (wsV RX5 81 RX5 yX5_isInstance wsX5_isInstance) := goodIn_app (goodIn_of _ (by decide +kernel)) ggX5_row_X5_isInstance
set_option maxRecDepth 20000 in
theorem ggX5_row_X2_has : GoodIn wsX5_row wsX2_has := goodIn_r _ [34, 35, 201, 202, 203, 204, 205] rfl (by decide +kernel)
set_option maxRecDepth 20000 in
theorem gX5_row_X2_has : GoodIn wsX5_row (wsV RX5 85 RX2 yX2_has wsX2_has) := goodIn_app (goodIn_of _ (by decide +kernel)) ggX5_row_X2_has
set_option maxRecDepth 20000 in
theorem ggX5_row_X3_takes : GoodIn wsX5_row wsX3_takes := goodIn_r _ [40, 41, 42, 43, 44, 45, 46, 47, 48, 49, 50, 51, 52, 53] rfl (by decide +kernel)
set_option maxRecDepth 20000 in
theorem gX5_row_X3_takes : GoodIn wsX5_row (wsV RX5 88 RX3 yX3_takes wsX3_takes) := goodIn_app (goodIn_of _ (by decide +kernel)) ggX5_row_X3_takes
set_option maxRecDepth 20000 in
theorem ggX5_row_X2_lay : GoodIn wsX5_row wsX2_lay := goodIn_r _ [57, 35, 58, 59, 60, 201, 202, 203, 204, 205] rfl (by decide +kernel)
set_option maxRecDepth 20000 in
theorem gX5_row_X2_lay : GoodIn wsX5_row (wsV RX5 94 RX2 yX2_lay wsX2_lay) := goodIn_app (goodIn_of _ (by decide +kernel)) ggX5_row_X2_lay
set_option maxRecDepth 20000 in
theorem ggX5_row_X2_addPremise : GoodIn wsX5_row wsX2_addPremise := goodIn_r _ [64, 65, 60, 66, 67, 68, 33, 69, 70, 31, 32, 34, 35, 201, 202, 203, 204, 205] rfl (by decide +kernel)
set_option maxRecDepth 20000 in
theorem gX5_row_X2_addPremise : GoodIn wsX5_row (wsV RX5 98 RX2 yX2_addPremise wsX2_addPremise) := goodIn_app (goodIn_of _ (by decide +kernel)) ggX5_row_X2_addPremise
set_option maxRecDepth 20000 in
theorem ggX5_row_X5_derive : GoodIn wsX5_row wsX5_derive := goodIn_r _ [74, 75, 76, 77, 78, 20, 79, 80, 81, 82, 83, 26, 84, 85, 86, 87, 4, 88, 1, 30, 31, 32, 33, 34, 35, 89, 90, 91, 92, 58, 70, 2, 3, 5, 6, 93, 94, 95, 96, 97, 98, 67, 68, 69, 60, 36, 37, 38, 39, 40, 41, 42, 43, 44, 45, 46, 47, 48, 49, 50, 51, 52, 53, 99, 100, 101, 102, 103, 104, 105, 106, 107, 108, 109, 110, 111, 112, 65, 66, 113, 114, 115, 116, 117, 23, 24, 25, 118, 119, 120, 121, 122, 123, 124, 125, 126, 127, 128, 129, 130, 131, 132, 133, 134, 135, 136, 137, 138, 139, 140, 141, 142, 143, 144, 145, 146, 147, 148, 149, 150, 151, 152, 153, 154, 155, 156, 157, 158, 159, 160, 161, 162, 163, 164, 165, 166, 167, 168, 169, 170, 171, 172, 173, 174, 175, 176, 177, 11, 12, 13, 14, 15, 16, 178, 179, 180, 181, 59, 182, 183, 184, 185, 22, 186, 187, 188, 189, 190, 191, 192, 193, 194, 195, 196, 197, 198, 199, 200, 201, 202, 203, 204, 205, 206] rfl (by decide +kernel)
set_option maxRecDepth 20000 in
theorem gX5_row_X5_derive : GoodIn wsX5_row (wsV RX5 102 RX5 yX5_derive wsX5_derive) := goodIn_app (goodIn_of _ (by decide +kernel)) ggX5_row_X5_derive
set_option maxRecDepth 20000 in
theorem ggX5_premise_X5_ruleOf : GoodIn wsX5_premise wsX5_ruleOf := goodIn_r _ [6, 1, 7, 8, 9, 10, 11, 12, 13, 14, 15, 16, 17, 18, 19, 20, 5, 21, 22, 178, 179, 180, 181, 182, 183, 184, 185, 186, 187, 188, 189, 190, 191] rfl (by decide +kernel)
set_option maxRecDepth 20000 in
theorem gX5_premise_X5_ruleOf : GoodIn wsX5_premise (wsV RX5 105 RX5 yX5_ruleOf wsX5_ruleOf) := goodIn_app (goodIn_of _ (by decide +kernel)) ggX5_premise_X5_ruleOf
set_option maxRecDepth 20000 in
theorem ggX5_premise_X2_has : GoodIn wsX5_premise wsX2_has := goodIn_r _ [11, 12, 187, 188, 189, 190, 191] rfl (by decide +kernel)
set_option maxRecDepth 20000 in
theorem gX5_premise_X2_has : GoodIn wsX5_premise (wsV RX5 85 RX2 yX2_has wsX2_has) := goodIn_app (goodIn_of _ (by decide +kernel)) ggX5_premise_X2_has
set_option maxRecDepth 20000 in
theorem ggX5_premise_X2_premiseCount : GoodIn wsX5_premise wsX2_premiseCount := goodIn_r _ [26, 27, 18, 8, 9, 10, 11, 12, 187, 188, 189, 190, 191] rfl (by decide +kernel)
set_option maxRecDepth 20000 in
theorem gX5_premise_X2_premiseCount : GoodIn wsX5_premise (wsV RX5 108 RX2 yX2_premiseCount wsX2_premiseCount) := goodIn_app (goodIn_of _ (by decide +kernel)) ggX5_premise_X2_premiseCount
set_option maxRecDepth 20000 in
theorem ggX5_premise_X3_takes : GoodIn wsX5_premise wsX3_takes := goodIn_r _ [32, 33, 34, 35, 36, 37, 38, 39, 40, 41, 42, 43, 44, 45] rfl (by decide +kernel)
set_option maxRecDepth 20000 in
theorem gX5_premise_X3_takes : GoodIn wsX5_premise (wsV RX5 88 RX3 yX3_takes wsX3_takes) := goodIn_app (goodIn_of _ (by decide +kernel)) ggX5_premise_X3_takes
set_option maxRecDepth 20000 in
theorem ggX5_premise_X2_addPremise : GoodIn wsX5_premise wsX2_addPremise := goodIn_r _ [49, 50, 27, 51, 24, 25, 10, 26, 18, 8, 9, 11, 12, 187, 188, 189, 190, 191] rfl (by decide +kernel)
set_option maxRecDepth 20000 in
theorem gX5_premise_X2_addPremise : GoodIn wsX5_premise (wsV RX5 98 RX2 yX2_addPremise wsX2_addPremise) := goodIn_app (goodIn_of _ (by decide +kernel)) ggX5_premise_X2_addPremise
set_option maxRecDepth 20000 in
theorem ggX5_premise_X2_last : GoodIn wsX5_premise wsX2_last := goodIn_r _ [55, 12, 187, 188, 189, 190, 191] rfl (by decide +kernel)
set_option maxRecDepth 20000 in
theorem gX5_premise_X2_last : GoodIn wsX5_premise (wsV RX5 112 RX2 yX2_last wsX2_last) := goodIn_app (goodIn_of _ (by decide +kernel)) ggX5_premise_X2_last
set_option maxRecDepth 20000 in
theorem ggX5_premise_X5_derive : GoodIn wsX5_premise wsX5_derive := goodIn_r _ [59, 60, 61, 62, 63, 64, 65, 66, 67, 68, 69, 70, 71, 2, 3, 4, 5, 6, 1, 7, 8, 9, 10, 11, 12, 13, 14, 15, 16, 17, 18, 19, 20, 21, 22, 72, 73, 74, 75, 76, 23, 24, 25, 26, 27, 28, 29, 30, 31, 32, 33, 34, 35, 36, 37, 38, 39, 40, 41, 42, 43, 44, 45, 77, 78, 79, 80, 81, 82, 83, 84, 85, 86, 87, 88, 89, 90, 50, 51, 91, 92, 93, 94, 95, 96, 97, 98, 99, 100, 101, 102, 103, 104, 105, 106, 107, 108, 109, 110, 111, 112, 113, 114, 115, 116, 117, 118, 119, 120, 121, 122, 123, 124, 125, 126, 127, 128, 129, 130, 131, 132, 133, 134, 135, 136, 137, 138, 139, 140, 141, 142, 143, 144, 145, 146, 147, 148, 149, 150, 151, 152, 153, 154, 155, 156, 157, 158, 159, 160, 161, 162, 163, 164, 165, 166, 167, 168, 169, 170, 171, 172, 173, 174, 175, 176, 177, 178, 179, 180, 181, 182, 183, 184, 185, 186, 192, 193, 194, 187, 188, 189, 190, 191, 195] rfl (by decide +kernel)
set_option maxRecDepth 20000 in
theorem gX5_premise_X5_derive : GoodIn wsX5_premise (wsV RX5 102 RX5 yX5_derive wsX5_derive) := goodIn_app (goodIn_of _ (by decide +kernel)) ggX5_premise_X5_derive
set_option maxRecDepth 20000 in
theorem ggX5_check_X2_has : GoodIn wsX5_check wsX2_has := goodIn_r _ [8, 9, 51, 52, 53, 54, 55] rfl (by decide +kernel)
set_option maxRecDepth 20000 in
theorem gX5_check_X2_has : GoodIn wsX5_check (wsV RX5 85 RX2 yX2_has wsX2_has) := goodIn_app (goodIn_of _ (by decide +kernel)) ggX5_check_X2_has
set_option maxRecDepth 20000 in
theorem ggX5_check_X5_markProof : GoodIn wsX5_check wsX5_markProof := goodIn_r _ [14, 15, 1, 4, 5, 6, 7, 8, 9, 16, 17, 18, 19, 20, 21, 22, 23, 24, 25, 26, 27, 42, 43, 44, 45, 46, 47, 48, 49, 50, 51, 52, 53, 54, 55] rfl (by decide +kernel)
set_option maxRecDepth 20000 in
theorem gX5_check_X5_markProof : GoodIn wsX5_check (wsV RX5 115 RX5 yX5_markProof wsX5_markProof) := goodIn_app (goodIn_of _ (by decide +kernel)) ggX5_check_X5_markProof
set_option maxRecDepth 20000 in
theorem ggX5_check_X5_leastBroken : GoodIn wsX5_check wsX5_leastBroken := goodIn_r _ [31, 15, 3, 32, 33, 34, 35, 36, 37, 38, 39, 40, 41, 42, 43, 44, 45, 46, 47, 48, 49, 50, 56, 57, 58] rfl (by decide +kernel)
set_option maxRecDepth 20000 in
theorem gX5_check_X5_leastBroken : GoodIn wsX5_check (wsV RX5 118 RX5 yX5_leastBroken wsX5_leastBroken) := goodIn_app (goodIn_of _ (by decide +kernel)) ggX5_check_X5_leastBroken
set_option maxRecDepth 20000 in
theorem ggX5_check_X4_has : GoodIn wsX5_check wsX4_has := goodIn_r _ [36, 37, 38, 39, 35, 40, 41, 56, 57, 58] rfl (by decide +kernel)
set_option maxRecDepth 20000 in
theorem gX5_check_X4_has : GoodIn wsX5_check (wsV RX5 121 RX4 yX4_has wsX4_has) := goodIn_app (goodIn_of _ (by decide +kernel)) ggX5_check_X4_has
set_option maxRecDepth 20000 in
theorem ggX5_rows_X2_has : GoodIn wsX5_rows wsX2_has := goodIn_r _ [7, 8, 35, 36, 37, 38, 39] rfl (by decide +kernel)
set_option maxRecDepth 20000 in
theorem gX5_rows_X2_has : GoodIn wsX5_rows (wsV RX5 85 RX2 yX2_has wsX2_has) := goodIn_app (goodIn_of _ (by decide +kernel)) ggX5_rows_X2_has
set_option maxRecDepth 20000 in
theorem ggX5_rows_X5_markProof : GoodIn wsX5_rows wsX5_markProof := goodIn_r _ [13, 2, 1, 3, 4, 5, 6, 7, 8, 14, 15, 16, 17, 18, 19, 20, 21, 22, 23, 24, 25, 26, 27, 28, 29, 30, 31, 32, 33, 34, 35, 36, 37, 38, 39] rfl (by decide +kernel)
set_option maxRecDepth 20000 in
theorem gX5_rows_X5_markProof : GoodIn wsX5_rows (wsV RX5 115 RX5 yX5_markProof wsX5_markProof) := goodIn_app (goodIn_of _ (by decide +kernel)) ggX5_rows_X5_markProof
set_option maxRecDepth 20000 in
theorem ggX5_size_X2_has : GoodIn wsX5_size wsX2_has := goodIn_r _ [7, 8, 40, 41, 42, 43, 44] rfl (by decide +kernel)
set_option maxRecDepth 20000 in
theorem gX5_size_X2_has : GoodIn wsX5_size (wsV RX5 85 RX2 yX2_has wsX2_has) := goodIn_app (goodIn_of _ (by decide +kernel)) ggX5_size_X2_has
set_option maxRecDepth 20000 in
theorem ggX5_size_X5_sizeAbovePremises : GoodIn wsX5_size wsX5_sizeAbovePremises := goodIn_r _ [13, 1, 2, 14, 15, 16, 17, 18, 19, 20, 21, 6, 22, 23, 24, 4, 5, 7, 8, 25, 26, 27, 28, 29, 30, 3, 31, 32, 33, 34, 35, 36, 37, 38, 39, 40, 41, 42, 43, 44] rfl (by decide +kernel)
set_option maxRecDepth 20000 in
theorem gX5_size_X5_sizeAbovePremises : GoodIn wsX5_size (wsV RX5 122 RX5 yX5_sizeAbovePremises wsX5_sizeAbovePremises) := goodIn_app (goodIn_of _ (by decide +kernel)) ggX5_size_X5_sizeAbovePremises
set_option maxRecDepth 20000 in
theorem ggX5_drop_X2_has : GoodIn wsX5_drop wsX2_has := goodIn_r _ [10, 11, 74, 75, 76, 77, 78] rfl (by decide +kernel)
set_option maxRecDepth 20000 in
theorem gX5_drop_X2_has : GoodIn wsX5_drop (wsV RX5 85 RX2 yX2_has wsX2_has) := goodIn_app (goodIn_of _ (by decide +kernel)) ggX5_drop_X2_has
set_option maxRecDepth 20000 in
theorem ggX5_drop_X5_markProof : GoodIn wsX5_drop wsX5_markProof := goodIn_r _ [16, 2, 1, 6, 7, 8, 9, 10, 11, 17, 18, 19, 20, 21, 22, 23, 24, 25, 26, 27, 28, 65, 66, 67, 68, 69, 70, 71, 72, 73, 74, 75, 76, 77, 78] rfl (by decide +kernel)
set_option maxRecDepth 20000 in
theorem gX5_drop_X5_markProof : GoodIn wsX5_drop (wsV RX5 115 RX5 yX5_markProof wsX5_markProof) := goodIn_app (goodIn_of _ (by decide +kernel)) ggX5_drop_X5_markProof
set_option maxRecDepth 20000 in
theorem ggX5_drop_X2_move : GoodIn wsX5_drop wsX2_move := goodIn_r _ [32, 27, 33, 34, 21, 22, 7, 8, 9, 10, 11, 28, 18, 19, 20, 74, 75, 76, 77, 78] rfl (by decide +kernel)
set_option maxRecDepth 20000 in
theorem gX5_drop_X2_move : GoodIn wsX5_drop (wsV RX5 125 RX2 yX2_move wsX2_move) := goodIn_app (goodIn_of _ (by decide +kernel)) ggX5_drop_X2_move
set_option maxRecDepth 20000 in
theorem ggX5_drop_X4_put : GoodIn wsX5_drop wsX4_put := goodIn_r _ [39, 40, 41, 42, 38, 43, 44, 45, 46, 47, 48, 49, 50, 51, 52, 53, 79, 80, 81] rfl (by decide +kernel)
set_option maxRecDepth 20000 in
theorem gX5_drop_X4_put : GoodIn wsX5_drop (wsV RX5 129 RX4 yX4_put wsX4_put) := goodIn_app (goodIn_of _ (by decide +kernel)) ggX5_drop_X4_put
set_option maxRecDepth 20000 in
theorem ggX5_drop_X2_keepOnly : GoodIn wsX5_drop wsX2_keepOnly := goodIn_r _ [57, 11, 58, 59, 60, 61, 62, 63, 64, 74, 75, 76, 77, 78] rfl (by decide +kernel)
set_option maxRecDepth 20000 in
theorem gX5_drop_X2_keepOnly : GoodIn wsX5_drop (wsV RX5 133 RX2 yX2_keepOnly wsX2_keepOnly) := goodIn_app (goodIn_of _ (by decide +kernel)) ggX5_drop_X2_keepOnly
set_option maxRecDepth 20000 in
theorem ggX5_name_X2_has : GoodIn wsX5_name wsX2_has := goodIn_r _ [6, 7, 23, 24, 25, 26, 27] rfl (by decide +kernel)
set_option maxRecDepth 20000 in
theorem gX5_name_X2_has : GoodIn wsX5_name (wsV RX5 85 RX2 yX2_has wsX2_has) := goodIn_app (goodIn_of _ (by decide +kernel)) ggX5_name_X2_has
set_option maxRecDepth 20000 in
theorem ggX5_name_X2_ruleNumber : GoodIn wsX5_name wsX2_ruleNumber := goodIn_r _ [11, 12, 13, 3, 4, 5, 6, 7, 23, 24, 25, 26, 27] rfl (by decide +kernel)
set_option maxRecDepth 20000 in
theorem gX5_name_X2_ruleNumber : GoodIn wsX5_name (wsV RX5 136 RX2 yX2_ruleNumber wsX2_ruleNumber) := goodIn_app (goodIn_of _ (by decide +kernel)) ggX5_name_X2_ruleNumber
set_option maxRecDepth 20000 in
theorem ggX5_states_X2_has : GoodIn wsX5_states wsX2_has := goodIn_r _ [7, 8, 29, 30, 31, 32, 33] rfl (by decide +kernel)
set_option maxRecDepth 20000 in
theorem gX5_states_X2_has : GoodIn wsX5_states (wsV RX5 85 RX2 yX2_has wsX2_has) := goodIn_app (goodIn_of _ (by decide +kernel)) ggX5_states_X2_has
set_option maxRecDepth 20000 in
theorem ggX5_states_X4_kind : GoodIn wsX5_states wsX4_kind := goodIn_r _ [13, 14, 34, 35, 36] rfl (by decide +kernel)
set_option maxRecDepth 20000 in
theorem gX5_states_X4_kind : GoodIn wsX5_states (wsV RX5 139 RX4 yX4_kind wsX4_kind) := goodIn_app (goodIn_of _ (by decide +kernel)) ggX5_states_X4_kind
set_option maxRecDepth 20000 in
theorem ggX5_states_X4_number : GoodIn wsX5_states wsX4_number := goodIn_r _ [18, 14, 19, 34, 35, 36] rfl (by decide +kernel)
set_option maxRecDepth 20000 in
theorem gX5_states_X4_number : GoodIn wsX5_states (wsV RX5 142 RX4 yX4_number wsX4_number) := goodIn_app (goodIn_of _ (by decide +kernel)) ggX5_states_X4_number
set_option maxRecDepth 20000 in
theorem ggX5_sentence_X5_ruleOf : GoodIn wsX5_sentence wsX5_ruleOf := goodIn_r _ [6, 7, 8, 9, 10, 11, 12, 13, 14, 15, 16, 17, 18, 19, 20, 21, 5, 22, 23, 305, 306, 307, 308, 309, 310, 311, 312, 313, 314, 315, 316, 317, 318] rfl (by decide +kernel)
set_option maxRecDepth 20000 in
theorem gX5_sentence_X5_ruleOf : GoodIn wsX5_sentence (wsV RX5 105 RX5 yX5_ruleOf wsX5_ruleOf) := goodIn_app (goodIn_of _ (by decide +kernel)) ggX5_sentence_X5_ruleOf
set_option maxRecDepth 20000 in
theorem ggX5_sentence_J4_setLength_d00df : GoodIn wsX5_sentence wsJ4_setLength_d00df := goodIn_r _ [28, 29, 30, 31, 32, 33, 34, 35, 36, 37, 38, 39, 40, 41, 42, 43, 44, 45, 46, 47, 48, 49, 50, 51, 52, 53, 54, 55, 56, 57, 58, 59, 60, 61, 62, 63, 64, 65, 66, 67, 68, 69, 70, 71, 72, 73, 74, 75, 76, 77, 78, 79, 80, 81, 82, 83, 84, 85, 86, 87, 88, 89, 90, 91, 92, 93, 94, 95, 96, 97, 98, 99, 100, 319, 320, 321, 322] rfl (by decide +kernel)
set_option maxRecDepth 20000 in
theorem gX5_sentence_J4_setLength_d00df : GoodIn wsX5_sentence (wsV RX5 145 RJ4 yJ4_setLength_d00df wsJ4_setLength_d00df) := goodIn_app (goodIn_of _ (by decide +kernel)) ggX5_sentence_J4_setLength_d00df
set_option maxRecDepth 20000 in
theorem ggX5_sentence_J4_append_bf812 : GoodIn wsX5_sentence wsJ4_append_bf812 := goodIn_r _ [104, 105, 106, 31, 107, 33, 108, 35, 36, 109, 110, 111, 112, 38, 39, 40, 41, 42, 43, 44, 45, 46, 47, 48, 49, 50, 51, 52, 53, 54, 55, 56, 57, 58, 59, 60, 61, 62, 63, 64, 65, 66, 67, 68, 69, 70, 71, 72, 73, 74, 75, 76, 77, 78, 79, 80, 81, 82, 83, 84, 85, 113, 114, 115, 116, 117, 118, 119, 98, 120, 121, 122, 123, 124, 125, 126, 127, 128, 129, 130, 131, 132, 133, 134, 135, 136, 137, 138, 139, 140, 141, 142, 143, 144, 145, 146, 319, 320, 321, 322] rfl (by decide +kernel)
set_option maxRecDepth 20000 in
theorem gX5_sentence_J4_append_bf812 : GoodIn wsX5_sentence (wsV RX5 148 RJ4 yJ4_append_bf812 wsJ4_append_bf812) := goodIn_app (goodIn_of _ (by decide +kernel)) ggX5_sentence_J4_append_bf812
set_option maxRecDepth 20000 in
theorem ggX5_sentence_J4_append_15ec4 : GoodIn wsX5_sentence wsJ4_append_15ec4 := goodIn_r _ [150, 151, 152, 31, 153, 33, 154, 35, 155, 156, 157, 158, 159, 36, 38, 39, 40, 41, 42, 43, 44, 45, 46, 47, 48, 49, 50, 51, 52, 53, 54, 55, 56, 57, 58, 59, 60, 61, 62, 63, 64, 65, 66, 67, 68, 69, 70, 71, 72, 73, 74, 75, 76, 77, 78, 79, 80, 81, 82, 83, 84, 85, 160, 161, 98, 162, 121, 122, 123, 124, 125, 126, 127, 128, 129, 130, 131, 132, 133, 134, 135, 136, 142, 143, 144, 145, 146, 163, 164, 165, 166, 167, 168, 169, 170, 171, 172, 173, 174, 175, 176, 177, 178, 179, 180, 181, 182, 183, 184, 185, 186, 187, 188, 189, 190, 191, 192, 193, 194, 195, 196, 197, 198, 88, 199, 200, 201, 202, 203, 204, 205, 206, 207, 208, 209, 210, 211, 212, 213, 214, 215, 216, 217, 319, 320, 321, 322] rfl (by decide +kernel)
set_option maxRecDepth 20000 in
theorem gX5_sentence_J4_append_15ec4 : GoodIn wsX5_sentence (wsV RX5 154 RJ4 yJ4_append_15ec4 wsJ4_append_15ec4) := goodIn_app (goodIn_of _ (by decide +kernel)) ggX5_sentence_J4_append_15ec4
set_option maxRecDepth 20000 in
theorem ggX5_sentence_X5_tellStatement : GoodIn wsX5_sentence wsX5_tellStatement := goodIn_r _ [221, 1, 222, 223, 224, 225, 5, 226, 227, 228, 229, 230, 231, 232, 233, 234, 235, 236, 237, 238, 239, 240, 164, 165, 130, 166, 167, 168, 169, 170, 171, 172, 173, 241, 242, 243, 244, 245, 246, 247, 248, 249, 250, 88, 251, 252, 253, 254, 132, 255, 256, 135, 257, 258, 259, 98, 260, 261, 262, 263, 125, 126, 127, 264, 265, 266, 267, 121, 145, 146, 101, 102, 103, 27, 104, 105, 106, 31, 107, 33, 108, 35, 36, 109, 110, 111, 112, 38, 39, 40, 41, 42, 43, 44, 45, 46, 47, 48, 49, 50, 51, 52, 53, 54, 55, 56, 57, 58, 59, 60, 61, 62, 63, 64, 65, 66, 67, 68, 69, 70, 71, 72, 73, 74, 75, 76, 77, 78, 79, 80, 81, 82, 83, 84, 85, 113, 114, 115, 116, 117, 118, 119, 120, 122, 123, 124, 128, 129, 131, 133, 134, 136, 137, 138, 139, 140, 141, 142, 143, 144, 268, 269, 270, 271, 272, 273, 274, 275, 276, 277, 278, 185, 186, 187, 188, 189, 190, 191, 192, 193, 194, 195, 196, 197, 198, 199, 200, 201, 202, 203, 204, 205, 206, 207, 208, 209, 210, 211, 279, 280, 281, 305, 306, 307, 308, 309, 310, 311, 312, 313, 323, 324, 325, 319, 320, 321, 322] rfl (by decide +kernel)
set_option maxRecDepth 20000 in
theorem gX5_sentence_X5_tellStatement : GoodIn wsX5_sentence (wsV RX5 157 RX5 yX5_tellStatement wsX5_tellStatement) := goodIn_app (goodIn_of _ (by decide +kernel)) ggX5_sentence_X5_tellStatement
set_option maxRecDepth 20000 in
theorem ggX5_sentence_X5_tellPremises : GoodIn wsX5_sentence wsX5_tellPremises := goodIn_r _ [285, 7, 1, 286, 287, 288, 11, 289, 290, 19, 9, 10, 12, 13, 147, 148, 149, 27, 150, 151, 152, 31, 153, 33, 154, 35, 155, 156, 157, 158, 159, 36, 38, 39, 40, 41, 42, 43, 44, 45, 46, 47, 48, 49, 50, 51, 52, 53, 54, 55, 56, 57, 58, 59, 60, 61, 62, 63, 64, 65, 66, 67, 68, 69, 70, 71, 72, 73, 74, 75, 76, 77, 78, 79, 80, 81, 82, 83, 84, 85, 160, 161, 98, 162, 121, 122, 123, 124, 125, 126, 127, 128, 129, 130, 131, 132, 133, 134, 135, 136, 142, 143, 144, 145, 146, 163, 164, 165, 166, 167, 168, 169, 170, 171, 172, 173, 174, 175, 176, 177, 178, 179, 180, 181, 182, 183, 184, 185, 186, 187, 188, 189, 190, 191, 192, 193, 194, 195, 196, 197, 198, 88, 199, 200, 201, 202, 203, 204, 205, 206, 207, 208, 209, 210, 211, 212, 213, 214, 215, 216, 217, 291, 292, 293, 294, 295, 296, 101, 102, 103, 104, 105, 106, 107, 108, 109, 110, 111, 112, 113, 114, 115, 116, 117, 118, 119, 120, 137, 138, 139, 140, 141, 305, 306, 307, 308, 309, 310, 311, 312, 313, 314, 315, 316, 317, 318, 319, 320, 321, 322] rfl (by decide +kernel)
set_option maxRecDepth 20000 in
theorem gX5_sentence_X5_tellPremises : GoodIn wsX5_sentence (wsV RX5 166 RX5 yX5_tellPremises wsX5_tellPremises) := goodIn_app (goodIn_of _ (by decide +kernel)) ggX5_sentence_X5_tellPremises
set_option maxRecDepth 20000 in
theorem ggX5_sentence_J4_append_cf468 : GoodIn wsX5_sentence wsJ4_append_cf468 := goodIn_r _ [271, 272, 273, 31, 274, 33, 275, 35, 36, 38, 39, 40, 41, 42, 43, 44, 45, 46, 47, 48, 49, 50, 51, 52, 53, 54, 55, 56, 57, 58, 59, 60, 61, 62, 63, 64, 65, 66, 67, 68, 69, 70, 71, 72, 73, 74, 75, 76, 77, 78, 79, 80, 81, 82, 83, 84, 85, 276, 277, 88, 278, 185, 186, 187, 188, 189, 190, 191, 98, 192, 193, 194, 195, 196, 197, 198, 199, 200, 201, 202, 203, 204, 205, 125, 126, 127, 206, 207, 130, 208, 132, 209, 210, 135, 211, 142, 143, 144, 121, 145, 146, 279, 280, 281, 261, 262, 263, 264, 253, 254, 255, 256, 257, 319, 320, 321, 322] rfl (by decide +kernel)
set_option maxRecDepth 20000 in
theorem gX5_sentence_J4_append_cf468 : GoodIn wsX5_sentence (wsV RX5 169 RJ4 yJ4_append_cf468 wsJ4_append_cf468) := goodIn_app (goodIn_of _ (by decide +kernel)) ggX5_sentence_J4_append_cf468
set_option maxRecDepth 20000 in
theorem ggX5_sentence_J4_length_8abf5 : GoodIn wsX5_sentence wsJ4_length_8abf5 := goodIn_r _ [300, 301, 302, 31, 303, 33, 304, 35, 319, 320, 321, 322] rfl (by decide +kernel)
set_option maxRecDepth 20000 in
theorem gX5_sentence_J4_length_8abf5 : GoodIn wsX5_sentence (wsV RX5 172 RJ4 yJ4_length_8abf5 wsJ4_length_8abf5) := goodIn_app (goodIn_of _ (by decide +kernel)) ggX5_sentence_J4_length_8abf5
set_option maxRecDepth 20000 in
theorem ggX5_at_J4_length_8abf5 : GoodIn wsX5_at wsJ4_length_8abf5 := goodIn_r _ [6, 7, 8, 9, 10, 11, 12, 13, 56, 57, 58, 59] rfl (by decide +kernel)
set_option maxRecDepth 20000 in
theorem gX5_at_J4_length_8abf5 : GoodIn wsX5_at (wsV RX5 172 RJ4 yJ4_length_8abf5 wsJ4_length_8abf5) := goodIn_app (goodIn_of _ (by decide +kernel)) ggX5_at_J4_length_8abf5
set_option maxRecDepth 20000 in
theorem ggX5_at_J4_charAt_5068e : GoodIn wsX5_at wsJ4_charAt_5068e := goodIn_r _ [17, 18, 19, 9, 20, 11, 21, 22, 23, 13, 24, 25, 26, 27, 28, 29, 30, 31, 32, 33, 34, 35, 36, 37, 38, 39, 40, 41, 42, 43, 44, 45, 46, 56, 57, 58, 59] rfl (by decide +kernel)
