theorem dX0_init_0 : decode cX0_init 0 = .ok (.aload_n 0, 1) := by decide +kernel
theorem dX0_init_1 : decode cX0_init 1 = .ok (.invokespecial 3, 3) := by decide +kernel
theorem dX0_init_4 : decode cX0_init 4 = .ok (.aload_n 0, 1) := by decide +kernel
theorem dX0_init_5 : decode cX0_init 5 = .ok (.iconst 3, 1) := by decide +kernel
theorem dX0_init_6 : decode cX0_init 6 = .ok (.newarray .int, 2) := by decide +kernel
theorem dX0_init_8 : decode cX0_init 8 = .ok (.putfield 9, 3) := by decide +kernel
theorem dX0_init_11 : decode cX0_init 11 = .ok (.return_, 1) := by decide +kernel
theorem dX0_isTold_0 : decode cX0_isTold 0 = .ok (.aload_n 0, 1) := by decide +kernel
theorem dX0_isTold_1 : decode cX0_isTold 1 = .ok (.getfield 15, 3) := by decide +kernel
theorem dX0_isTold_4 : decode cX0_isTold 4 = .ok (.ifCond .le 7, 3) := by decide +kernel
theorem dX0_isTold_7 : decode cX0_isTold 7 = .ok (.iconst 1, 1) := by decide +kernel
theorem dX0_isTold_8 : decode cX0_isTold 8 = .ok (.goto 4, 3) := by decide +kernel
theorem dX0_isTold_11 : decode cX0_isTold 11 = .ok (.iconst 0, 1) := by decide +kernel
theorem dX0_isTold_12 : decode cX0_isTold 12 = .ok (.ireturn, 1) := by decide +kernel
theorem dX0_become_0 : decode cX0_become 0 = .ok (.aload_n 0, 1) := by decide +kernel
theorem dX0_become_1 : decode cX0_become 1 = .ok (.iload_n 1, 1) := by decide +kernel
theorem dX0_become_2 : decode cX0_become 2 = .ok (.putfield 15, 3) := by decide +kernel
theorem dX0_become_5 : decode cX0_become 5 = .ok (.aload_n 0, 1) := by decide +kernel
theorem dX0_become_6 : decode cX0_become 6 = .ok (.iload_n 2, 1) := by decide +kernel
theorem dX0_become_7 : decode cX0_become 7 = .ok (.putfield 19, 3) := by decide +kernel
theorem dX0_become_10 : decode cX0_become 10 = .ok (.aload_n 0, 1) := by decide +kernel
theorem dX0_become_11 : decode cX0_become 11 = .ok (.getfield 9, 3) := by decide +kernel
theorem dX0_become_14 : decode cX0_become 14 = .ok (.iconst 0, 1) := by decide +kernel
theorem dX0_become_15 : decode cX0_become 15 = .ok (.invokestatic 22, 3) := by decide +kernel
theorem dX0_become_18 : decode cX0_become 18 = .ok (.return_, 1) := by decide +kernel
theorem dX1_init_0 : decode cX1_init 0 = .ok (.aload_n 0, 1) := by decide +kernel
theorem dX1_init_1 : decode cX1_init 1 = .ok (.invokespecial 3, 3) := by decide +kernel
theorem dX1_init_4 : decode cX1_init 4 = .ok (.aload_n 0, 1) := by decide +kernel
theorem dX1_init_5 : decode cX1_init 5 = .ok (.bipush 6, 2) := by decide +kernel
theorem dX1_init_7 : decode cX1_init 7 = .ok (.anewarray 9, 3) := by decide +kernel
theorem dX1_init_10 : decode cX1_init 10 = .ok (.putfield 11, 3) := by decide +kernel
theorem dX1_init_13 : decode cX1_init 13 = .ok (.aload_n 0, 1) := by decide +kernel
theorem dX1_init_14 : decode cX1_init 14 = .ok (.new 17, 3) := by decide +kernel
theorem dX1_init_17 : decode cX1_init 17 = .ok (.dup, 1) := by decide +kernel
theorem dX1_init_18 : decode cX1_init 18 = .ok (.invokespecial 19, 3) := by decide +kernel
theorem dX1_init_21 : decode cX1_init 21 = .ok (.putfield 20, 3) := by decide +kernel
theorem dX1_init_24 : decode cX1_init 24 = .ok (.aload_n 0, 1) := by decide +kernel
theorem dX1_init_25 : decode cX1_init 25 = .ok (.new 17, 3) := by decide +kernel
theorem dX1_init_28 : decode cX1_init 28 = .ok (.dup, 1) := by decide +kernel
theorem dX1_init_29 : decode cX1_init 29 = .ok (.invokespecial 19, 3) := by decide +kernel
theorem dX1_init_32 : decode cX1_init 32 = .ok (.putfield 24, 3) := by decide +kernel
theorem dX1_init_35 : decode cX1_init 35 = .ok (.aload_n 0, 1) := by decide +kernel
theorem dX1_init_36 : decode cX1_init 36 = .ok (.new 27, 3) := by decide +kernel
theorem dX1_init_39 : decode cX1_init 39 = .ok (.dup, 1) := by decide +kernel
theorem dX1_init_40 : decode cX1_init 40 = .ok (.iload_n 1, 1) := by decide +kernel
theorem dX1_init_41 : decode cX1_init 41 = .ok (.invokespecial 29, 3) := by decide +kernel
theorem dX1_init_44 : decode cX1_init 44 = .ok (.putfield 32, 3) := by decide +kernel
theorem dX1_init_47 : decode cX1_init 47 = .ok (.aload_n 0, 1) := by decide +kernel
theorem dX1_init_48 : decode cX1_init 48 = .ok (.iload_n 1, 1) := by decide +kernel
theorem dX1_init_49 : decode cX1_init 49 = .ok (.iconst 2, 1) := by decide +kernel
theorem dX1_init_50 : decode cX1_init 50 = .ok (.iadd, 1) := by decide +kernel
theorem dX1_init_51 : decode cX1_init 51 = .ok (.newarray .int, 2) := by decide +kernel
theorem dX1_init_53 : decode cX1_init 53 = .ok (.putfield 36, 3) := by decide +kernel
theorem dX1_init_56 : decode cX1_init 56 = .ok (.aload_n 0, 1) := by decide +kernel
theorem dX1_init_57 : decode cX1_init 57 = .ok (.iload_n 1, 1) := by decide +kernel
theorem dX1_init_58 : decode cX1_init 58 = .ok (.iconst 1, 1) := by decide +kernel
theorem dX1_init_59 : decode cX1_init 59 = .ok (.iadd, 1) := by decide +kernel
theorem dX1_init_60 : decode cX1_init 60 = .ok (.newarray .int, 2) := by decide +kernel
theorem dX1_init_62 : decode cX1_init 62 = .ok (.putfield 40, 3) := by decide +kernel
theorem dX1_init_65 : decode cX1_init 65 = .ok (.iconst 0, 1) := by decide +kernel
theorem dX1_init_66 : decode cX1_init 66 = .ok (.istore_n 2, 1) := by decide +kernel
theorem dX1_init_67 : decode cX1_init 67 = .ok (.iload_n 2, 1) := by decide +kernel
theorem dX1_init_68 : decode cX1_init 68 = .ok (.bipush 6, 2) := by decide +kernel
theorem dX1_init_70 : decode cX1_init 70 = .ok (.if_icmp .ge 22, 3) := by decide +kernel
theorem dX1_init_73 : decode cX1_init 73 = .ok (.aload_n 0, 1) := by decide +kernel
theorem dX1_init_74 : decode cX1_init 74 = .ok (.getfield 11, 3) := by decide +kernel
theorem dX1_init_77 : decode cX1_init 77 = .ok (.iload_n 2, 1) := by decide +kernel
theorem dX1_init_78 : decode cX1_init 78 = .ok (.new 9, 3) := by decide +kernel
theorem dX1_init_81 : decode cX1_init 81 = .ok (.dup, 1) := by decide +kernel
theorem dX1_init_82 : decode cX1_init 82 = .ok (.invokespecial 43, 3) := by decide +kernel
theorem dX1_init_85 : decode cX1_init 85 = .ok (.aastore, 1) := by decide +kernel
theorem dX1_init_86 : decode cX1_init 86 = .ok (.iinc 2 1, 3) := by decide +kernel
theorem dX1_init_89 : decode cX1_init 89 = .ok (.goto (-22), 3) := by decide +kernel
theorem dX1_init_92 : decode cX1_init 92 = .ok (.return_, 1) := by decide +kernel
theorem dX1_cutBest_0 : decode cX1_cutBest 0 = .ok (.aload_n 0, 1) := by decide +kernel
theorem dX1_cutBest_1 : decode cX1_cutBest 1 = .ok (.getfield 32, 3) := by decide +kernel
theorem dX1_cutBest_4 : decode cX1_cutBest 4 = .ok (.getfield 44, 3) := by decide +kernel
theorem dX1_cutBest_7 : decode cX1_cutBest 7 = .ok (.istore_n 1, 1) := by decide +kernel
theorem dX1_cutBest_8 : decode cX1_cutBest 8 = .ok (.iload_n 1, 1) := by decide +kernel
theorem dX1_cutBest_9 : decode cX1_cutBest 9 = .ok (.ifCond .lt 14, 3) := by decide +kernel
theorem dX1_cutBest_12 : decode cX1_cutBest 12 = .ok (.aload_n 0, 1) := by decide +kernel
theorem dX1_cutBest_13 : decode cX1_cutBest 13 = .ok (.iload_n 1, 1) := by decide +kernel
theorem dX1_cutBest_14 : decode cX1_cutBest 14 = .ok (.invokevirtual 48, 3) := by decide +kernel
theorem dX1_cutBest_17 : decode cX1_cutBest 17 = .ok (.iinc 1 (-1), 3) := by decide +kernel
theorem dX1_cutBest_20 : decode cX1_cutBest 20 = .ok (.goto (-12), 3) := by decide +kernel
theorem dX1_cutBest_23 : decode cX1_cutBest 23 = .ok (.aload_n 0, 1) := by decide +kernel
theorem dX1_cutBest_24 : decode cX1_cutBest 24 = .ok (.getfield 24, 3) := by decide +kernel
theorem dX1_cutBest_27 : decode cX1_cutBest 27 = .ok (.invokevirtual 51, 3) := by decide +kernel
theorem dX1_cutBest_30 : decode cX1_cutBest 30 = .ok (.iconst 0, 1) := by decide +kernel
theorem dX1_cutBest_31 : decode cX1_cutBest 31 = .ok (.istore_n 1, 1) := by decide +kernel
theorem dX1_cutBest_32 : decode cX1_cutBest 32 = .ok (.iconst 0, 1) := by decide +kernel
theorem dX1_cutBest_33 : decode cX1_cutBest 33 = .ok (.istore_n 2, 1) := by decide +kernel
theorem dX1_cutBest_34 : decode cX1_cutBest 34 = .ok (.iload_n 2, 1) := by decide +kernel
theorem dX1_cutBest_35 : decode cX1_cutBest 35 = .ok (.aload_n 0, 1) := by decide +kernel
theorem dX1_cutBest_36 : decode cX1_cutBest 36 = .ok (.getfield 32, 3) := by decide +kernel
theorem dX1_cutBest_39 : decode cX1_cutBest 39 = .ok (.getfield 44, 3) := by decide +kernel
theorem dX1_cutBest_42 : decode cX1_cutBest 42 = .ok (.if_icmp .gt 57, 3) := by decide +kernel
theorem dX1_cutBest_45 : decode cX1_cutBest 45 = .ok (.iload_n 2, 1) := by decide +kernel
theorem dX1_cutBest_46 : decode cX1_cutBest 46 = .ok (.iload_n 1, 1) := by decide +kernel
theorem dX1_cutBest_47 : decode cX1_cutBest 47 = .ok (.if_icmp .lt 46, 3) := by decide +kernel
theorem dX1_cutBest_50 : decode cX1_cutBest 50 = .ok (.aload_n 0, 1) := by decide +kernel
theorem dX1_cutBest_51 : decode cX1_cutBest 51 = .ok (.getfield 40, 3) := by decide +kernel
theorem dX1_cutBest_54 : decode cX1_cutBest 54 = .ok (.iload_n 2, 1) := by decide +kernel
theorem dX1_cutBest_55 : decode cX1_cutBest 55 = .ok (.iaload, 1) := by decide +kernel
theorem dX1_cutBest_56 : decode cX1_cutBest 56 = .ok (.iconst (-1), 1) := by decide +kernel
theorem dX1_cutBest_57 : decode cX1_cutBest 57 = .ok (.if_icmp .eq 36, 3) := by decide +kernel
theorem dX1_cutBest_60 : decode cX1_cutBest 60 = .ok (.aload_n 0, 1) := by decide +kernel
theorem dX1_cutBest_61 : decode cX1_cutBest 61 = .ok (.aload_n 0, 1) := by decide +kernel
theorem dX1_cutBest_62 : decode cX1_cutBest 62 = .ok (.getfield 40, 3) := by decide +kernel
theorem dX1_cutBest_65 : decode cX1_cutBest 65 = .ok (.iload_n 2, 1) := by decide +kernel
theorem dX1_cutBest_66 : decode cX1_cutBest 66 = .ok (.iaload, 1) := by decide +kernel
theorem dX1_cutBest_67 : decode cX1_cutBest 67 = .ok (.iload_n 2, 1) := by decide +kernel
theorem dX1_cutBest_68 : decode cX1_cutBest 68 = .ok (.invokevirtual 54, 3) := by decide +kernel
theorem dX1_cutBest_71 : decode cX1_cutBest 71 = .ok (.ifCond .eq 22, 3) := by decide +kernel
theorem dX1_cutBest_74 : decode cX1_cutBest 74 = .ok (.iload_n 2, 1) := by decide +kernel
theorem dX1_cutBest_75 : decode cX1_cutBest 75 = .ok (.aload_n 0, 1) := by decide +kernel
theorem dX1_cutBest_76 : decode cX1_cutBest 76 = .ok (.getfield 11, 3) := by decide +kernel
theorem dX1_cutBest_79 : decode cX1_cutBest 79 = .ok (.aload_n 0, 1) := by decide +kernel
theorem dX1_cutBest_80 : decode cX1_cutBest 80 = .ok (.getfield 40, 3) := by decide +kernel
theorem dX1_cutBest_83 : decode cX1_cutBest 83 = .ok (.iload_n 2, 1) := by decide +kernel
theorem dX1_cutBest_84 : decode cX1_cutBest 84 = .ok (.iaload, 1) := by decide +kernel
theorem dX1_cutBest_85 : decode cX1_cutBest 85 = .ok (.aaload, 1) := by decide +kernel
theorem dX1_cutBest_86 : decode cX1_cutBest 86 = .ok (.getfield 58, 3) := by decide +kernel
theorem dX1_cutBest_89 : decode cX1_cutBest 89 = .ok (.iadd, 1) := by decide +kernel
theorem dX1_cutBest_90 : decode cX1_cutBest 90 = .ok (.iconst 1, 1) := by decide +kernel
theorem dX1_cutBest_91 : decode cX1_cutBest 91 = .ok (.iadd, 1) := by decide +kernel
theorem dX1_cutBest_92 : decode cX1_cutBest 92 = .ok (.istore_n 1, 1) := by decide +kernel
theorem dX1_cutBest_93 : decode cX1_cutBest 93 = .ok (.iinc 2 1, 3) := by decide +kernel
theorem dX1_cutBest_96 : decode cX1_cutBest 96 = .ok (.goto (-62), 3) := by decide +kernel
theorem dX1_cutBest_99 : decode cX1_cutBest 99 = .ok (.aload_n 0, 1) := by decide +kernel
theorem dX1_cutBest_100 : decode cX1_cutBest 100 = .ok (.invokevirtual 61, 3) := by decide +kernel
theorem dX1_cutBest_103 : decode cX1_cutBest 103 = .ok (.ireturn, 1) := by decide +kernel
theorem dX1_choose_0 : decode cX1_choose 0 = .ok (.aload_n 0, 1) := by decide +kernel
theorem dX1_choose_1 : decode cX1_choose 1 = .ok (.getfield 32, 3) := by decide +kernel
theorem dX1_choose_4 : decode cX1_choose 4 = .ok (.iload_n 1, 1) := by decide +kernel
theorem dX1_choose_5 : decode cX1_choose 5 = .ok (.invokevirtual 65, 3) := by decide +kernel
theorem dX1_choose_8 : decode cX1_choose 8 = .ok (.aload_n 0, 1) := by decide +kernel
theorem dX1_choose_9 : decode cX1_choose 9 = .ok (.getfield 36, 3) := by decide +kernel
theorem dX1_choose_12 : decode cX1_choose 12 = .ok (.iload_n 1, 1) := by decide +kernel
theorem dX1_choose_13 : decode cX1_choose 13 = .ok (.aload_n 0, 1) := by decide +kernel
theorem dX1_choose_14 : decode cX1_choose 14 = .ok (.getfield 36, 3) := by decide +kernel
theorem dX1_choose_17 : decode cX1_choose 17 = .ok (.iload_n 1, 1) := by decide +kernel
theorem dX1_choose_18 : decode cX1_choose 18 = .ok (.iconst 1, 1) := by decide +kernel
theorem dX1_choose_19 : decode cX1_choose 19 = .ok (.iadd, 1) := by decide +kernel
theorem dX1_choose_20 : decode cX1_choose 20 = .ok (.iaload, 1) := by decide +kernel
theorem dX1_choose_21 : decode cX1_choose 21 = .ok (.iastore, 1) := by decide +kernel
theorem dX1_choose_22 : decode cX1_choose 22 = .ok (.aload_n 0, 1) := by decide +kernel
theorem dX1_choose_23 : decode cX1_choose 23 = .ok (.getfield 40, 3) := by decide +kernel
theorem dX1_choose_26 : decode cX1_choose 26 = .ok (.iload_n 1, 1) := by decide +kernel
theorem dX1_choose_27 : decode cX1_choose 27 = .ok (.iconst (-1), 1) := by decide +kernel
theorem dX1_choose_28 : decode cX1_choose 28 = .ok (.iastore, 1) := by decide +kernel
theorem dX1_choose_29 : decode cX1_choose 29 = .ok (.iconst 0, 1) := by decide +kernel
theorem dX1_choose_30 : decode cX1_choose 30 = .ok (.istore_n 2, 1) := by decide +kernel
theorem dX1_choose_31 : decode cX1_choose 31 = .ok (.iload_n 2, 1) := by decide +kernel
theorem dX1_choose_32 : decode cX1_choose 32 = .ok (.bipush 6, 2) := by decide +kernel
theorem dX1_choose_34 : decode cX1_choose 34 = .ok (.if_icmp .ge 77, 3) := by decide +kernel
theorem dX1_choose_37 : decode cX1_choose 37 = .ok (.aload_n 0, 1) := by decide +kernel
theorem dX1_choose_38 : decode cX1_choose 38 = .ok (.iload_n 1, 1) := by decide +kernel
theorem dX1_choose_39 : decode cX1_choose 39 = .ok (.aload_n 0, 1) := by decide +kernel
theorem dX1_choose_40 : decode cX1_choose 40 = .ok (.getfield 11, 3) := by decide +kernel
theorem dX1_choose_43 : decode cX1_choose 43 = .ok (.iload_n 2, 1) := by decide +kernel
theorem dX1_choose_44 : decode cX1_choose 44 = .ok (.aaload, 1) := by decide +kernel
theorem dX1_choose_45 : decode cX1_choose 45 = .ok (.invokevirtual 68, 3) := by decide +kernel
theorem dX1_choose_48 : decode cX1_choose 48 = .ok (.istore_n 3, 1) := by decide +kernel
theorem dX1_choose_49 : decode cX1_choose 49 = .ok (.iload_n 3, 1) := by decide +kernel
theorem dX1_choose_50 : decode cX1_choose 50 = .ok (.iconst (-1), 1) := by decide +kernel
theorem dX1_choose_51 : decode cX1_choose 51 = .ok (.if_icmp .ne 6, 3) := by decide +kernel
theorem dX1_choose_54 : decode cX1_choose 54 = .ok (.goto 51, 3) := by decide +kernel
theorem dX1_choose_57 : decode cX1_choose 57 = .ok (.iload_n 3, 1) := by decide +kernel
theorem dX1_choose_58 : decode cX1_choose 58 = .ok (.aload_n 0, 1) := by decide +kernel
theorem dX1_choose_59 : decode cX1_choose 59 = .ok (.getfield 36, 3) := by decide +kernel
theorem dX1_choose_62 : decode cX1_choose 62 = .ok (.iload_n 1, 1) := by decide +kernel
theorem dX1_choose_63 : decode cX1_choose 63 = .ok (.aload_n 0, 1) := by decide +kernel
theorem dX1_choose_64 : decode cX1_choose 64 = .ok (.getfield 11, 3) := by decide +kernel
theorem dX1_choose_67 : decode cX1_choose 67 = .ok (.iload_n 2, 1) := by decide +kernel
theorem dX1_choose_68 : decode cX1_choose 68 = .ok (.aaload, 1) := by decide +kernel
theorem dX1_choose_69 : decode cX1_choose 69 = .ok (.getfield 58, 3) := by decide +kernel
theorem dX1_choose_72 : decode cX1_choose 72 = .ok (.iadd, 1) := by decide +kernel
theorem dX1_choose_73 : decode cX1_choose 73 = .ok (.iconst 1, 1) := by decide +kernel
theorem dX1_choose_74 : decode cX1_choose 74 = .ok (.iadd, 1) := by decide +kernel
theorem dX1_choose_75 : decode cX1_choose 75 = .ok (.iaload, 1) := by decide +kernel
theorem dX1_choose_76 : decode cX1_choose 76 = .ok (.iadd, 1) := by decide +kernel
theorem dX1_choose_77 : decode cX1_choose 77 = .ok (.istore 4, 2) := by decide +kernel
theorem dX1_choose_79 : decode cX1_choose 79 = .ok (.iload 4, 2) := by decide +kernel
theorem dX1_choose_81 : decode cX1_choose 81 = .ok (.aload_n 0, 1) := by decide +kernel
theorem dX1_choose_82 : decode cX1_choose 82 = .ok (.getfield 36, 3) := by decide +kernel
theorem dX1_choose_85 : decode cX1_choose 85 = .ok (.iload_n 1, 1) := by decide +kernel
theorem dX1_choose_86 : decode cX1_choose 86 = .ok (.iaload, 1) := by decide +kernel
theorem dX1_choose_87 : decode cX1_choose 87 = .ok (.if_icmp .le 18, 3) := by decide +kernel
theorem dX1_choose_90 : decode cX1_choose 90 = .ok (.aload_n 0, 1) := by decide +kernel
theorem dX1_choose_91 : decode cX1_choose 91 = .ok (.getfield 36, 3) := by decide +kernel
theorem dX1_choose_94 : decode cX1_choose 94 = .ok (.iload_n 1, 1) := by decide +kernel
theorem dX1_choose_95 : decode cX1_choose 95 = .ok (.iload 4, 2) := by decide +kernel
theorem dX1_choose_97 : decode cX1_choose 97 = .ok (.iastore, 1) := by decide +kernel
theorem dX1_choose_98 : decode cX1_choose 98 = .ok (.aload_n 0, 1) := by decide +kernel
theorem dX1_choose_99 : decode cX1_choose 99 = .ok (.getfield 40, 3) := by decide +kernel
theorem dX1_choose_102 : decode cX1_choose 102 = .ok (.iload_n 1, 1) := by decide +kernel
theorem dX1_choose_103 : decode cX1_choose 103 = .ok (.iload_n 2, 1) := by decide +kernel
theorem dX1_choose_104 : decode cX1_choose 104 = .ok (.iastore, 1) := by decide +kernel
theorem dX1_choose_105 : decode cX1_choose 105 = .ok (.iinc 2 1, 3) := by decide +kernel
theorem dX1_choose_108 : decode cX1_choose 108 = .ok (.goto (-77), 3) := by decide +kernel
theorem dX1_choose_111 : decode cX1_choose 111 = .ok (.return_, 1) := by decide +kernel
theorem dX1_cutAsTold_0 : decode cX1_cutAsTold 0 = .ok (.aload_n 0, 1) := by decide +kernel
theorem dX1_cutAsTold_1 : decode cX1_cutAsTold 1 = .ok (.getfield 24, 3) := by decide +kernel
theorem dX1_cutAsTold_4 : decode cX1_cutAsTold 4 = .ok (.invokevirtual 51, 3) := by decide +kernel
theorem dX1_cutAsTold_7 : decode cX1_cutAsTold 7 = .ok (.iconst 0, 1) := by decide +kernel
theorem dX1_cutAsTold_8 : decode cX1_cutAsTold 8 = .ok (.istore_n 3, 1) := by decide +kernel
theorem dX1_cutAsTold_9 : decode cX1_cutAsTold 9 = .ok (.iconst 0, 1) := by decide +kernel
theorem dX1_cutAsTold_10 : decode cX1_cutAsTold 10 = .ok (.istore 4, 2) := by decide +kernel
theorem dX1_cutAsTold_12 : decode cX1_cutAsTold 12 = .ok (.iload 4, 2) := by decide +kernel
theorem dX1_cutAsTold_14 : decode cX1_cutAsTold 14 = .ok (.bipush 64, 2) := by decide +kernel
theorem dX1_cutAsTold_16 : decode cX1_cutAsTold 16 = .ok (.if_icmp .ge 77, 3) := by decide +kernel
theorem dX1_cutAsTold_19 : decode cX1_cutAsTold 19 = .ok (.lload_n 1, 1) := by decide +kernel
theorem dX1_cutAsTold_20 : decode cX1_cutAsTold 20 = .ok (.iload 4, 2) := by decide +kernel
theorem dX1_cutAsTold_22 : decode cX1_cutAsTold 22 = .ok (.lushr, 1) := by decide +kernel
theorem dX1_cutAsTold_23 : decode cX1_cutAsTold 23 = .ok (.l2i, 1) := by decide +kernel
theorem dX1_cutAsTold_24 : decode cX1_cutAsTold 24 = .ok (.sipush 255, 3) := by decide +kernel
theorem dX1_cutAsTold_27 : decode cX1_cutAsTold 27 = .ok (.iand, 1) := by decide +kernel
theorem dX1_cutAsTold_28 : decode cX1_cutAsTold 28 = .ok (.istore 5, 2) := by decide +kernel
theorem dX1_cutAsTold_30 : decode cX1_cutAsTold 30 = .ok (.iload 5, 2) := by decide +kernel
theorem dX1_cutAsTold_32 : decode cX1_cutAsTold 32 = .ok (.ifCond .ne 6, 3) := by decide +kernel
theorem dX1_cutAsTold_35 : decode cX1_cutAsTold 35 = .ok (.goto 52, 3) := by decide +kernel
theorem dX1_cutAsTold_38 : decode cX1_cutAsTold 38 = .ok (.iload 5, 2) := by decide +kernel
theorem dX1_cutAsTold_40 : decode cX1_cutAsTold 40 = .ok (.iconst 1, 1) := by decide +kernel
theorem dX1_cutAsTold_41 : decode cX1_cutAsTold 41 = .ok (.isub, 1) := by decide +kernel
theorem dX1_cutAsTold_42 : decode cX1_cutAsTold 42 = .ok (.bipush 6, 2) := by decide +kernel
theorem dX1_cutAsTold_44 : decode cX1_cutAsTold 44 = .ok (.irem, 1) := by decide +kernel
theorem dX1_cutAsTold_45 : decode cX1_cutAsTold 45 = .ok (.istore 6, 2) := by decide +kernel
theorem dX1_cutAsTold_47 : decode cX1_cutAsTold 47 = .ok (.iload_n 3, 1) := by decide +kernel
theorem dX1_cutAsTold_48 : decode cX1_cutAsTold 48 = .ok (.iload 5, 2) := by decide +kernel
theorem dX1_cutAsTold_50 : decode cX1_cutAsTold 50 = .ok (.iconst 1, 1) := by decide +kernel
theorem dX1_cutAsTold_51 : decode cX1_cutAsTold 51 = .ok (.isub, 1) := by decide +kernel
theorem dX1_cutAsTold_52 : decode cX1_cutAsTold 52 = .ok (.bipush 6, 2) := by decide +kernel
theorem dX1_cutAsTold_54 : decode cX1_cutAsTold 54 = .ok (.idiv, 1) := by decide +kernel
theorem dX1_cutAsTold_55 : decode cX1_cutAsTold 55 = .ok (.iadd, 1) := by decide +kernel
theorem dX1_cutAsTold_56 : decode cX1_cutAsTold 56 = .ok (.istore 7, 2) := by decide +kernel
theorem dX1_cutAsTold_58 : decode cX1_cutAsTold 58 = .ok (.aload_n 0, 1) := by decide +kernel
theorem dX1_cutAsTold_59 : decode cX1_cutAsTold 59 = .ok (.iload 6, 2) := by decide +kernel
theorem dX1_cutAsTold_61 : decode cX1_cutAsTold 61 = .ok (.iload 7, 2) := by decide +kernel
theorem dX1_cutAsTold_63 : decode cX1_cutAsTold 63 = .ok (.invokevirtual 54, 3) := by decide +kernel
theorem dX1_cutAsTold_66 : decode cX1_cutAsTold 66 = .ok (.ifCond .ne 5, 3) := by decide +kernel
theorem dX1_cutAsTold_69 : decode cX1_cutAsTold 69 = .ok (.iconst (-1), 1) := by decide +kernel
theorem dX1_cutAsTold_70 : decode cX1_cutAsTold 70 = .ok (.ireturn, 1) := by decide +kernel
theorem dX1_cutAsTold_71 : decode cX1_cutAsTold 71 = .ok (.iload 7, 2) := by decide +kernel
theorem dX1_cutAsTold_73 : decode cX1_cutAsTold 73 = .ok (.aload_n 0, 1) := by decide +kernel
theorem dX1_cutAsTold_74 : decode cX1_cutAsTold 74 = .ok (.getfield 11, 3) := by decide +kernel
theorem dX1_cutAsTold_77 : decode cX1_cutAsTold 77 = .ok (.iload 6, 2) := by decide +kernel
theorem dX1_cutAsTold_79 : decode cX1_cutAsTold 79 = .ok (.aaload, 1) := by decide +kernel
theorem dX1_cutAsTold_80 : decode cX1_cutAsTold 80 = .ok (.getfield 58, 3) := by decide +kernel
theorem dX1_cutAsTold_83 : decode cX1_cutAsTold 83 = .ok (.iadd, 1) := by decide +kernel
theorem dX1_cutAsTold_84 : decode cX1_cutAsTold 84 = .ok (.iconst 1, 1) := by decide +kernel
theorem dX1_cutAsTold_85 : decode cX1_cutAsTold 85 = .ok (.iadd, 1) := by decide +kernel
theorem dX1_cutAsTold_86 : decode cX1_cutAsTold 86 = .ok (.istore_n 3, 1) := by decide +kernel
theorem dX1_cutAsTold_87 : decode cX1_cutAsTold 87 = .ok (.iinc 4 8, 3) := by decide +kernel
theorem dX1_cutAsTold_90 : decode cX1_cutAsTold 90 = .ok (.goto (-78), 3) := by decide +kernel
theorem dX1_cutAsTold_93 : decode cX1_cutAsTold 93 = .ok (.aload_n 0, 1) := by decide +kernel
theorem dX1_cutAsTold_94 : decode cX1_cutAsTold 94 = .ok (.invokevirtual 61, 3) := by decide +kernel
theorem dX1_cutAsTold_97 : decode cX1_cutAsTold 97 = .ok (.ireturn, 1) := by decide +kernel
theorem dX1_addLog_0 : decode cX1_addLog 0 = .ok (.iload_n 2, 1) := by decide +kernel
theorem dX1_addLog_1 : decode cX1_addLog 1 = .ok (.aload_n 0, 1) := by decide +kernel
theorem dX1_addLog_2 : decode cX1_addLog 2 = .ok (.getfield 32, 3) := by decide +kernel
theorem dX1_addLog_5 : decode cX1_addLog 5 = .ok (.getfield 44, 3) := by decide +kernel
theorem dX1_addLog_8 : decode cX1_addLog 8 = .ok (.if_icmp .le 5, 3) := by decide +kernel
theorem dX1_addLog_11 : decode cX1_addLog 11 = .ok (.iconst 0, 1) := by decide +kernel
theorem dX1_addLog_12 : decode cX1_addLog 12 = .ok (.ireturn, 1) := by decide +kernel
theorem dX1_addLog_13 : decode cX1_addLog 13 = .ok (.aload_n 0, 1) := by decide +kernel
theorem dX1_addLog_14 : decode cX1_addLog 14 = .ok (.getfield 32, 3) := by decide +kernel
theorem dX1_addLog_17 : decode cX1_addLog 17 = .ok (.iload_n 2, 1) := by decide +kernel
theorem dX1_addLog_18 : decode cX1_addLog 18 = .ok (.invokevirtual 65, 3) := by decide +kernel
theorem dX1_addLog_21 : decode cX1_addLog 21 = .ok (.aload_n 0, 1) := by decide +kernel
theorem dX1_addLog_22 : decode cX1_addLog 22 = .ok (.iload_n 2, 1) := by decide +kernel
theorem dX1_addLog_23 : decode cX1_addLog 23 = .ok (.aload_n 0, 1) := by decide +kernel
theorem dX1_addLog_24 : decode cX1_addLog 24 = .ok (.getfield 11, 3) := by decide +kernel
theorem dX1_addLog_27 : decode cX1_addLog 27 = .ok (.iload_n 1, 1) := by decide +kernel
theorem dX1_addLog_28 : decode cX1_addLog 28 = .ok (.aaload, 1) := by decide +kernel
theorem dX1_addLog_29 : decode cX1_addLog 29 = .ok (.invokevirtual 68, 3) := by decide +kernel
theorem dX1_addLog_32 : decode cX1_addLog 32 = .ok (.istore_n 3, 1) := by decide +kernel
theorem dX1_addLog_33 : decode cX1_addLog 33 = .ok (.iload_n 3, 1) := by decide +kernel
theorem dX1_addLog_34 : decode cX1_addLog 34 = .ok (.iconst (-1), 1) := by decide +kernel
theorem dX1_addLog_35 : decode cX1_addLog 35 = .ok (.if_icmp .ne 5, 3) := by decide +kernel
theorem dX1_addLog_38 : decode cX1_addLog 38 = .ok (.iconst 0, 1) := by decide +kernel
theorem dX1_addLog_39 : decode cX1_addLog 39 = .ok (.ireturn, 1) := by decide +kernel
theorem dX1_addLog_40 : decode cX1_addLog 40 = .ok (.aload_n 0, 1) := by decide +kernel
theorem dX1_addLog_41 : decode cX1_addLog 41 = .ok (.getfield 11, 3) := by decide +kernel
theorem dX1_addLog_44 : decode cX1_addLog 44 = .ok (.iload_n 1, 1) := by decide +kernel
theorem dX1_addLog_45 : decode cX1_addLog 45 = .ok (.aaload, 1) := by decide +kernel
theorem dX1_addLog_46 : decode cX1_addLog 46 = .ok (.getfield 58, 3) := by decide +kernel
theorem dX1_addLog_49 : decode cX1_addLog 49 = .ok (.istore 4, 2) := by decide +kernel
theorem dX1_addLog_51 : decode cX1_addLog 51 = .ok (.aload_n 0, 1) := by decide +kernel
theorem dX1_addLog_52 : decode cX1_addLog 52 = .ok (.getfield 24, 3) := by decide +kernel
theorem dX1_addLog_55 : decode cX1_addLog 55 = .ok (.iload_n 2, 1) := by decide +kernel
theorem dX1_addLog_56 : decode cX1_addLog 56 = .ok (.iload_n 1, 1) := by decide +kernel
theorem dX1_addLog_57 : decode cX1_addLog 57 = .ok (.aload_n 0, 1) := by decide +kernel
theorem dX1_addLog_58 : decode cX1_addLog 58 = .ok (.getfield 32, 3) := by decide +kernel
theorem dX1_addLog_61 : decode cX1_addLog 61 = .ok (.getfield 72, 3) := by decide +kernel
theorem dX1_addLog_64 : decode cX1_addLog 64 = .ok (.iload 4, 2) := by decide +kernel
theorem dX1_addLog_66 : decode cX1_addLog 66 = .ok (.iaload, 1) := by decide +kernel
theorem dX1_addLog_67 : decode cX1_addLog 67 = .ok (.aload_n 0, 1) := by decide +kernel
theorem dX1_addLog_68 : decode cX1_addLog 68 = .ok (.getfield 32, 3) := by decide +kernel
theorem dX1_addLog_71 : decode cX1_addLog 71 = .ok (.getfield 75, 3) := by decide +kernel
theorem dX1_addLog_74 : decode cX1_addLog 74 = .ok (.iload 4, 2) := by decide +kernel
theorem dX1_addLog_76 : decode cX1_addLog 76 = .ok (.iaload, 1) := by decide +kernel
theorem dX1_addLog_77 : decode cX1_addLog 77 = .ok (.iload_n 3, 1) := by decide +kernel
theorem dX1_addLog_78 : decode cX1_addLog 78 = .ok (.invokevirtual 78, 3) := by decide +kernel
theorem dX1_addLog_81 : decode cX1_addLog 81 = .ok (.iconst 1, 1) := by decide +kernel
theorem dX1_addLog_82 : decode cX1_addLog 82 = .ok (.ireturn, 1) := by decide +kernel
theorem dX1_priceFrom_0 : decode cX1_priceFrom 0 = .ok (.aload_n 2, 1) := by decide +kernel
theorem dX1_priceFrom_1 : decode cX1_priceFrom 1 = .ok (.getfield 58, 3) := by decide +kernel
theorem dX1_priceFrom_4 : decode cX1_priceFrom 4 = .ok (.istore_n 3, 1) := by decide +kernel
theorem dX1_priceFrom_5 : decode cX1_priceFrom 5 = .ok (.aload_n 2, 1) := by decide +kernel
theorem dX1_priceFrom_6 : decode cX1_priceFrom 6 = .ok (.invokevirtual 82, 3) := by decide +kernel
theorem dX1_priceFrom_9 : decode cX1_priceFrom 9 = .ok (.ifCond .eq 32, 3) := by decide +kernel
theorem dX1_priceFrom_12 : decode cX1_priceFrom 12 = .ok (.iload_n 1, 1) := by decide +kernel
theorem dX1_priceFrom_13 : decode cX1_priceFrom 13 = .ok (.iload_n 3, 1) := by decide +kernel
theorem dX1_priceFrom_14 : decode cX1_priceFrom 14 = .ok (.iadd, 1) := by decide +kernel
theorem dX1_priceFrom_15 : decode cX1_priceFrom 15 = .ok (.aload_n 0, 1) := by decide +kernel
theorem dX1_priceFrom_16 : decode cX1_priceFrom 16 = .ok (.getfield 32, 3) := by decide +kernel
theorem dX1_priceFrom_19 : decode cX1_priceFrom 19 = .ok (.getfield 44, 3) := by decide +kernel
theorem dX1_priceFrom_22 : decode cX1_priceFrom 22 = .ok (.if_icmp .gt 19, 3) := by decide +kernel
theorem dX1_priceFrom_25 : decode cX1_priceFrom 25 = .ok (.aload_n 0, 1) := by decide +kernel
theorem dX1_priceFrom_26 : decode cX1_priceFrom 26 = .ok (.getfield 32, 3) := by decide +kernel
theorem dX1_priceFrom_29 : decode cX1_priceFrom 29 = .ok (.getfield 72, 3) := by decide +kernel
theorem dX1_priceFrom_32 : decode cX1_priceFrom 32 = .ok (.iload_n 3, 1) := by decide +kernel
theorem dX1_priceFrom_33 : decode cX1_priceFrom 33 = .ok (.iaload, 1) := by decide +kernel
theorem dX1_priceFrom_34 : decode cX1_priceFrom 34 = .ok (.aload_n 2, 1) := by decide +kernel
theorem dX1_priceFrom_35 : decode cX1_priceFrom 35 = .ok (.getfield 86, 3) := by decide +kernel
theorem dX1_priceFrom_38 : decode cX1_priceFrom 38 = .ok (.if_icmp .ge 5, 3) := by decide +kernel
theorem dX1_priceFrom_41 : decode cX1_priceFrom 41 = .ok (.iconst (-1), 1) := by decide +kernel
theorem dX1_priceFrom_42 : decode cX1_priceFrom 42 = .ok (.ireturn, 1) := by decide +kernel
theorem dX1_priceFrom_43 : decode cX1_priceFrom 43 = .ok (.aload_n 2, 1) := by decide +kernel
theorem dX1_priceFrom_44 : decode cX1_priceFrom 44 = .ok (.getfield 89, 3) := by decide +kernel
theorem dX1_priceFrom_47 : decode cX1_priceFrom 47 = .ok (.aload_n 0, 1) := by decide +kernel
theorem dX1_priceFrom_48 : decode cX1_priceFrom 48 = .ok (.getfield 32, 3) := by decide +kernel
theorem dX1_priceFrom_51 : decode cX1_priceFrom 51 = .ok (.getfield 72, 3) := by decide +kernel
theorem dX1_priceFrom_54 : decode cX1_priceFrom 54 = .ok (.iload_n 3, 1) := by decide +kernel
theorem dX1_priceFrom_55 : decode cX1_priceFrom 55 = .ok (.iaload, 1) := by decide +kernel
theorem dX1_priceFrom_56 : decode cX1_priceFrom 56 = .ok (.bipush 50, 2) := by decide +kernel
theorem dX1_priceFrom_58 : decode cX1_priceFrom 58 = .ok (.idiv, 1) := by decide +kernel
theorem dX1_priceFrom_59 : decode cX1_priceFrom 59 = .ok (.aload_n 0, 1) := by decide +kernel
theorem dX1_priceFrom_60 : decode cX1_priceFrom 60 = .ok (.getfield 32, 3) := by decide +kernel
theorem dX1_priceFrom_63 : decode cX1_priceFrom 63 = .ok (.getfield 75, 3) := by decide +kernel
theorem dX1_priceFrom_66 : decode cX1_priceFrom 66 = .ok (.iload_n 3, 1) := by decide +kernel
theorem dX1_priceFrom_67 : decode cX1_priceFrom 67 = .ok (.iaload, 1) := by decide +kernel
theorem dX1_priceFrom_68 : decode cX1_priceFrom 68 = .ok (.invokestatic 92, 3) := by decide +kernel
theorem dX1_priceFrom_71 : decode cX1_priceFrom 71 = .ok (.iaload, 1) := by decide +kernel
theorem dX1_priceFrom_72 : decode cX1_priceFrom 72 = .ok (.ireturn, 1) := by decide +kernel
theorem dX1_keepSpare_0 : decode cX1_keepSpare 0 = .ok (.aload_n 0, 1) := by decide +kernel
theorem dX1_keepSpare_1 : decode cX1_keepSpare 1 = .ok (.getfield 24, 3) := by decide +kernel
theorem dX1_keepSpare_4 : decode cX1_keepSpare 4 = .ok (.astore_n 1, 1) := by decide +kernel
theorem dX1_keepSpare_5 : decode cX1_keepSpare 5 = .ok (.aload_n 0, 1) := by decide +kernel
theorem dX1_keepSpare_6 : decode cX1_keepSpare 6 = .ok (.aload_n 0, 1) := by decide +kernel
theorem dX1_keepSpare_7 : decode cX1_keepSpare 7 = .ok (.getfield 20, 3) := by decide +kernel
theorem dX1_keepSpare_10 : decode cX1_keepSpare 10 = .ok (.putfield 24, 3) := by decide +kernel
theorem dX1_keepSpare_13 : decode cX1_keepSpare 13 = .ok (.aload_n 0, 1) := by decide +kernel
theorem dX1_keepSpare_14 : decode cX1_keepSpare 14 = .ok (.aload_n 1, 1) := by decide +kernel
theorem dX1_keepSpare_15 : decode cX1_keepSpare 15 = .ok (.putfield 20, 3) := by decide +kernel
theorem dX1_keepSpare_18 : decode cX1_keepSpare 18 = .ok (.aload_n 1, 1) := by decide +kernel
theorem dX1_keepSpare_19 : decode cX1_keepSpare 19 = .ok (.getfield 96, 3) := by decide +kernel
theorem dX1_keepSpare_22 : decode cX1_keepSpare 22 = .ok (.ireturn, 1) := by decide +kernel
theorem dX2_init_0 : decode cX2_init 0 = .ok (.aload_n 0, 1) := by decide +kernel
theorem dX2_init_1 : decode cX2_init 1 = .ok (.invokespecial 3, 3) := by decide +kernel
theorem dX2_init_4 : decode cX2_init 4 = .ok (.aload_n 0, 1) := by decide +kernel
theorem dX2_init_5 : decode cX2_init 5 = .ok (.bipush 6, 2) := by decide +kernel
theorem dX2_init_7 : decode cX2_init 7 = .ok (.newarray .int, 2) := by decide +kernel
theorem dX2_init_9 : decode cX2_init 9 = .ok (.putfield 9, 3) := by decide +kernel
theorem dX2_init_12 : decode cX2_init 12 = .ok (.aload_n 0, 1) := by decide +kernel
theorem dX2_init_13 : decode cX2_init 13 = .ok (.bipush 6, 2) := by decide +kernel
theorem dX2_init_15 : decode cX2_init 15 = .ok (.newarray .int, 2) := by decide +kernel
theorem dX2_init_17 : decode cX2_init 17 = .ok (.putfield 15, 3) := by decide +kernel
theorem dX2_init_20 : decode cX2_init 20 = .ok (.aload_n 0, 1) := by decide +kernel
theorem dX2_init_21 : decode cX2_init 21 = .ok (.bipush 6, 2) := by decide +kernel
theorem dX2_init_23 : decode cX2_init 23 = .ok (.newarray .int, 2) := by decide +kernel
theorem dX2_init_25 : decode cX2_init 25 = .ok (.putfield 18, 3) := by decide +kernel
theorem dX2_init_28 : decode cX2_init 28 = .ok (.aload_n 0, 1) := by decide +kernel
theorem dX2_init_29 : decode cX2_init 29 = .ok (.sipush 9101, 3) := by decide +kernel
theorem dX2_init_32 : decode cX2_init 32 = .ok (.newarray .int, 2) := by decide +kernel
theorem dX2_init_34 : decode cX2_init 34 = .ok (.putfield 21, 3) := by decide +kernel
theorem dX2_init_37 : decode cX2_init 37 = .ok (.return_, 1) := by decide +kernel
theorem dX2_solve_0 : decode cX2_solve 0 = .ok (.aload_n 0, 1) := by decide +kernel
theorem dX2_solve_1 : decode cX2_solve 1 = .ok (.invokevirtual 24, 3) := by decide +kernel
theorem dX2_solve_4 : decode cX2_solve 4 = .ok (.istore_n 1, 1) := by decide +kernel
theorem dX2_solve_5 : decode cX2_solve 5 = .ok (.aload_n 0, 1) := by decide +kernel
theorem dX2_solve_6 : decode cX2_solve 6 = .ok (.getfield 21, 3) := by decide +kernel
theorem dX2_solve_9 : decode cX2_solve 9 = .ok (.iconst 0, 1) := by decide +kernel
theorem dX2_solve_10 : decode cX2_solve 10 = .ok (.iconst (-1), 1) := by decide +kernel
theorem dX2_solve_11 : decode cX2_solve 11 = .ok (.iastore, 1) := by decide +kernel
theorem dX2_solve_12 : decode cX2_solve 12 = .ok (.iconst 0, 1) := by decide +kernel
theorem dX2_solve_13 : decode cX2_solve 13 = .ok (.istore_n 2, 1) := by decide +kernel
theorem dX2_solve_14 : decode cX2_solve 14 = .ok (.iload_n 2, 1) := by decide +kernel
theorem dX2_solve_15 : decode cX2_solve 15 = .ok (.iload_n 1, 1) := by decide +kernel
theorem dX2_solve_16 : decode cX2_solve 16 = .ok (.if_icmp .gt 24, 3) := by decide +kernel
theorem dX2_solve_19 : decode cX2_solve 19 = .ok (.aload_n 0, 1) := by decide +kernel
theorem dX2_solve_20 : decode cX2_solve 20 = .ok (.getfield 21, 3) := by decide +kernel
theorem dX2_solve_23 : decode cX2_solve 23 = .ok (.iload_n 2, 1) := by decide +kernel
theorem dX2_solve_24 : decode cX2_solve 24 = .ok (.iaload, 1) := by decide +kernel
theorem dX2_solve_25 : decode cX2_solve 25 = .ok (.iconst (-1), 1) := by decide +kernel
theorem dX2_solve_26 : decode cX2_solve 26 = .ok (.if_icmp .ne 8, 3) := by decide +kernel
theorem dX2_solve_29 : decode cX2_solve 29 = .ok (.aload_n 0, 1) := by decide +kernel
theorem dX2_solve_30 : decode cX2_solve 30 = .ok (.iload_n 2, 1) := by decide +kernel
theorem dX2_solve_31 : decode cX2_solve 31 = .ok (.invokevirtual 28, 3) := by decide +kernel
theorem dX2_solve_34 : decode cX2_solve 34 = .ok (.iinc 2 1, 3) := by decide +kernel
theorem dX2_solve_37 : decode cX2_solve 37 = .ok (.goto (-23), 3) := by decide +kernel
theorem dX2_solve_40 : decode cX2_solve 40 = .ok (.iload_n 1, 1) := by decide +kernel
theorem dX2_solve_41 : decode cX2_solve 41 = .ok (.istore_n 2, 1) := by decide +kernel
theorem dX2_solve_42 : decode cX2_solve 42 = .ok (.iload_n 2, 1) := by decide +kernel
theorem dX2_solve_43 : decode cX2_solve 43 = .ok (.ifCond .lt 30, 3) := by decide +kernel
theorem dX2_solve_46 : decode cX2_solve 46 = .ok (.aload_n 0, 1) := by decide +kernel
theorem dX2_solve_47 : decode cX2_solve 47 = .ok (.getfield 21, 3) := by decide +kernel
theorem dX2_solve_50 : decode cX2_solve 50 = .ok (.iload_n 2, 1) := by decide +kernel
theorem dX2_solve_51 : decode cX2_solve 51 = .ok (.iaload, 1) := by decide +kernel
theorem dX2_solve_52 : decode cX2_solve 52 = .ok (.iconst (-1), 1) := by decide +kernel
theorem dX2_solve_53 : decode cX2_solve 53 = .ok (.if_icmp .ne 14, 3) := by decide +kernel
theorem dX2_solve_56 : decode cX2_solve 56 = .ok (.aload_n 0, 1) := by decide +kernel
theorem dX2_solve_57 : decode cX2_solve 57 = .ok (.getfield 21, 3) := by decide +kernel
theorem dX2_solve_60 : decode cX2_solve 60 = .ok (.iload_n 2, 1) := by decide +kernel
theorem dX2_solve_61 : decode cX2_solve 61 = .ok (.aload_n 0, 1) := by decide +kernel
theorem dX2_solve_62 : decode cX2_solve 62 = .ok (.iload_n 2, 1) := by decide +kernel
theorem dX2_solve_63 : decode cX2_solve 63 = .ok (.invokevirtual 32, 3) := by decide +kernel
theorem dX2_solve_66 : decode cX2_solve 66 = .ok (.iastore, 1) := by decide +kernel
theorem dX2_solve_67 : decode cX2_solve 67 = .ok (.iinc 2 (-1), 3) := by decide +kernel
theorem dX2_solve_70 : decode cX2_solve 70 = .ok (.goto (-28), 3) := by decide +kernel
theorem dX2_solve_73 : decode cX2_solve 73 = .ok (.aload_n 0, 1) := by decide +kernel
theorem dX2_solve_74 : decode cX2_solve 74 = .ok (.getfield 21, 3) := by decide +kernel
theorem dX2_solve_77 : decode cX2_solve 77 = .ok (.iconst 0, 1) := by decide +kernel
theorem dX2_solve_78 : decode cX2_solve 78 = .ok (.iaload, 1) := by decide +kernel
theorem dX2_solve_79 : decode cX2_solve 79 = .ok (.ireturn, 1) := by decide +kernel
theorem dX2_lay_0 : decode cX2_lay 0 = .ok (.aload_n 1, 1) := by decide +kernel
theorem dX2_lay_1 : decode cX2_lay 1 = .ok (.iconst 0, 1) := by decide +kernel
theorem dX2_lay_2 : decode cX2_lay 2 = .ok (.putfield 36, 3) := by decide +kernel
theorem dX2_lay_5 : decode cX2_lay 5 = .ok (.iconst 0, 1) := by decide +kernel
theorem dX2_lay_6 : decode cX2_lay 6 = .ok (.istore_n 2, 1) := by decide +kernel
theorem dX2_lay_7 : decode cX2_lay 7 = .ok (.iconst 0, 1) := by decide +kernel
theorem dX2_lay_8 : decode cX2_lay 8 = .ok (.istore_n 3, 1) := by decide +kernel
theorem dX2_lay_9 : decode cX2_lay 9 = .ok (.iload_n 3, 1) := by decide +kernel
theorem dX2_lay_10 : decode cX2_lay 10 = .ok (.sipush 180, 3) := by decide +kernel
theorem dX2_lay_13 : decode cX2_lay 13 = .ok (.if_icmp .ge 40, 3) := by decide +kernel
theorem dX2_lay_16 : decode cX2_lay 16 = .ok (.aload_n 0, 1) := by decide +kernel
theorem dX2_lay_17 : decode cX2_lay 17 = .ok (.iload_n 2, 1) := by decide +kernel
theorem dX2_lay_18 : decode cX2_lay 18 = .ok (.invokevirtual 42, 3) := by decide +kernel
theorem dX2_lay_21 : decode cX2_lay 21 = .ok (.istore 4, 2) := by decide +kernel
theorem dX2_lay_23 : decode cX2_lay 23 = .ok (.iload 4, 2) := by decide +kernel
theorem dX2_lay_25 : decode cX2_lay 25 = .ok (.iconst (-1), 1) := by decide +kernel
theorem dX2_lay_26 : decode cX2_lay 26 = .ok (.if_icmp .ne 4, 3) := by decide +kernel
theorem dX2_lay_29 : decode cX2_lay 29 = .ok (.return_, 1) := by decide +kernel
theorem dX2_lay_30 : decode cX2_lay 30 = .ok (.aload_n 1, 1) := by decide +kernel
theorem dX2_lay_31 : decode cX2_lay 31 = .ok (.iload 4, 2) := by decide +kernel
theorem dX2_lay_33 : decode cX2_lay 33 = .ok (.iload_n 2, 1) := by decide +kernel
theorem dX2_lay_34 : decode cX2_lay 34 = .ok (.invokevirtual 45, 3) := by decide +kernel
theorem dX2_lay_37 : decode cX2_lay 37 = .ok (.iload_n 2, 1) := by decide +kernel
theorem dX2_lay_38 : decode cX2_lay 38 = .ok (.aload_n 0, 1) := by decide +kernel
theorem dX2_lay_39 : decode cX2_lay 39 = .ok (.getfield 9, 3) := by decide +kernel
theorem dX2_lay_42 : decode cX2_lay 42 = .ok (.iload 4, 2) := by decide +kernel
theorem dX2_lay_44 : decode cX2_lay 44 = .ok (.iaload, 1) := by decide +kernel
theorem dX2_lay_45 : decode cX2_lay 45 = .ok (.iadd, 1) := by decide +kernel
theorem dX2_lay_46 : decode cX2_lay 46 = .ok (.istore_n 2, 1) := by decide +kernel
theorem dX2_lay_47 : decode cX2_lay 47 = .ok (.iinc 3 1, 3) := by decide +kernel
theorem dX2_lay_50 : decode cX2_lay 50 = .ok (.goto (-41), 3) := by decide +kernel
theorem dX2_lay_53 : decode cX2_lay 53 = .ok (.return_, 1) := by decide +kernel
theorem dX2_farthestLimit_0 : decode cX2_farthestLimit 0 = .ok (.iconst 0, 1) := by decide +kernel
theorem dX2_farthestLimit_1 : decode cX2_farthestLimit 1 = .ok (.istore_n 1, 1) := by decide +kernel
theorem dX2_farthestLimit_2 : decode cX2_farthestLimit 2 = .ok (.iconst 0, 1) := by decide +kernel
theorem dX2_farthestLimit_3 : decode cX2_farthestLimit 3 = .ok (.istore_n 2, 1) := by decide +kernel
theorem dX2_farthestLimit_4 : decode cX2_farthestLimit 4 = .ok (.iload_n 2, 1) := by decide +kernel
theorem dX2_farthestLimit_5 : decode cX2_farthestLimit 5 = .ok (.bipush 6, 2) := by decide +kernel
theorem dX2_farthestLimit_7 : decode cX2_farthestLimit 7 = .ok (.if_icmp .ge 38, 3) := by decide +kernel
theorem dX2_farthestLimit_10 : decode cX2_farthestLimit 10 = .ok (.aload_n 0, 1) := by decide +kernel
theorem dX2_farthestLimit_11 : decode cX2_farthestLimit 11 = .ok (.getfield 18, 3) := by decide +kernel
theorem dX2_farthestLimit_14 : decode cX2_farthestLimit 14 = .ok (.iload_n 2, 1) := by decide +kernel
theorem dX2_farthestLimit_15 : decode cX2_farthestLimit 15 = .ok (.aload_n 0, 1) := by decide +kernel
theorem dX2_farthestLimit_16 : decode cX2_farthestLimit 16 = .ok (.getfield 18, 3) := by decide +kernel
theorem dX2_farthestLimit_19 : decode cX2_farthestLimit 19 = .ok (.iload_n 2, 1) := by decide +kernel
theorem dX2_farthestLimit_20 : decode cX2_farthestLimit 20 = .ok (.iaload, 1) := by decide +kernel
theorem dX2_farthestLimit_21 : decode cX2_farthestLimit 21 = .ok (.sipush 9100, 3) := by decide +kernel
theorem dX2_farthestLimit_24 : decode cX2_farthestLimit 24 = .ok (.invokestatic 49, 3) := by decide +kernel
theorem dX2_farthestLimit_27 : decode cX2_farthestLimit 27 = .ok (.iastore, 1) := by decide +kernel
theorem dX2_farthestLimit_28 : decode cX2_farthestLimit 28 = .ok (.iload_n 1, 1) := by decide +kernel
theorem dX2_farthestLimit_29 : decode cX2_farthestLimit 29 = .ok (.aload_n 0, 1) := by decide +kernel
theorem dX2_farthestLimit_30 : decode cX2_farthestLimit 30 = .ok (.getfield 18, 3) := by decide +kernel
theorem dX2_farthestLimit_33 : decode cX2_farthestLimit 33 = .ok (.iload_n 2, 1) := by decide +kernel
theorem dX2_farthestLimit_34 : decode cX2_farthestLimit 34 = .ok (.iaload, 1) := by decide +kernel
theorem dX2_farthestLimit_35 : decode cX2_farthestLimit 35 = .ok (.invokestatic 55, 3) := by decide +kernel
theorem dX2_farthestLimit_38 : decode cX2_farthestLimit 38 = .ok (.istore_n 1, 1) := by decide +kernel
theorem dX2_farthestLimit_39 : decode cX2_farthestLimit 39 = .ok (.iinc 2 1, 3) := by decide +kernel
theorem dX2_farthestLimit_42 : decode cX2_farthestLimit 42 = .ok (.goto (-38), 3) := by decide +kernel
theorem dX2_farthestLimit_45 : decode cX2_farthestLimit 45 = .ok (.iload_n 1, 1) := by decide +kernel
theorem dX2_farthestLimit_46 : decode cX2_farthestLimit 46 = .ok (.ireturn, 1) := by decide +kernel
theorem dX2_reachOnFrom_0 : decode cX2_reachOnFrom 0 = .ok (.iconst 0, 1) := by decide +kernel
theorem dX2_reachOnFrom_1 : decode cX2_reachOnFrom 1 = .ok (.istore_n 2, 1) := by decide +kernel
theorem dX2_reachOnFrom_2 : decode cX2_reachOnFrom 2 = .ok (.iload_n 2, 1) := by decide +kernel
theorem dX2_reachOnFrom_3 : decode cX2_reachOnFrom 3 = .ok (.bipush 6, 2) := by decide +kernel
theorem dX2_reachOnFrom_5 : decode cX2_reachOnFrom 5 = .ok (.if_icmp .ge 35, 3) := by decide +kernel
theorem dX2_reachOnFrom_8 : decode cX2_reachOnFrom 8 = .ok (.iload_n 1, 1) := by decide +kernel
theorem dX2_reachOnFrom_9 : decode cX2_reachOnFrom 9 = .ok (.aload_n 0, 1) := by decide +kernel
theorem dX2_reachOnFrom_10 : decode cX2_reachOnFrom 10 = .ok (.getfield 9, 3) := by decide +kernel
theorem dX2_reachOnFrom_13 : decode cX2_reachOnFrom 13 = .ok (.iload_n 2, 1) := by decide +kernel
theorem dX2_reachOnFrom_14 : decode cX2_reachOnFrom 14 = .ok (.iaload, 1) := by decide +kernel
theorem dX2_reachOnFrom_15 : decode cX2_reachOnFrom 15 = .ok (.iadd, 1) := by decide +kernel
theorem dX2_reachOnFrom_16 : decode cX2_reachOnFrom 16 = .ok (.istore_n 3, 1) := by decide +kernel
theorem dX2_reachOnFrom_17 : decode cX2_reachOnFrom 17 = .ok (.iload_n 3, 1) := by decide +kernel
theorem dX2_reachOnFrom_18 : decode cX2_reachOnFrom 18 = .ok (.aload_n 0, 1) := by decide +kernel
theorem dX2_reachOnFrom_19 : decode cX2_reachOnFrom 19 = .ok (.getfield 18, 3) := by decide +kernel
theorem dX2_reachOnFrom_22 : decode cX2_reachOnFrom 22 = .ok (.iload_n 2, 1) := by decide +kernel
theorem dX2_reachOnFrom_23 : decode cX2_reachOnFrom 23 = .ok (.iaload, 1) := by decide +kernel
theorem dX2_reachOnFrom_24 : decode cX2_reachOnFrom 24 = .ok (.if_icmp .gt 10, 3) := by decide +kernel
theorem dX2_reachOnFrom_27 : decode cX2_reachOnFrom 27 = .ok (.aload_n 0, 1) := by decide +kernel
theorem dX2_reachOnFrom_28 : decode cX2_reachOnFrom 28 = .ok (.getfield 21, 3) := by decide +kernel
theorem dX2_reachOnFrom_31 : decode cX2_reachOnFrom 31 = .ok (.iload_n 3, 1) := by decide +kernel
theorem dX2_reachOnFrom_32 : decode cX2_reachOnFrom 32 = .ok (.iconst (-1), 1) := by decide +kernel
theorem dX2_reachOnFrom_33 : decode cX2_reachOnFrom 33 = .ok (.iastore, 1) := by decide +kernel
theorem dX2_reachOnFrom_34 : decode cX2_reachOnFrom 34 = .ok (.iinc 2 1, 3) := by decide +kernel
theorem dX2_reachOnFrom_37 : decode cX2_reachOnFrom 37 = .ok (.goto (-35), 3) := by decide +kernel
theorem dX2_reachOnFrom_40 : decode cX2_reachOnFrom 40 = .ok (.return_, 1) := by decide +kernel
theorem dX2_mostFrom_0 : decode cX2_mostFrom 0 = .ok (.iconst 0, 1) := by decide +kernel
theorem dX2_mostFrom_1 : decode cX2_mostFrom 1 = .ok (.istore_n 2, 1) := by decide +kernel
theorem dX2_mostFrom_2 : decode cX2_mostFrom 2 = .ok (.iconst 0, 1) := by decide +kernel
theorem dX2_mostFrom_3 : decode cX2_mostFrom 3 = .ok (.istore_n 3, 1) := by decide +kernel
theorem dX2_mostFrom_4 : decode cX2_mostFrom 4 = .ok (.iload_n 3, 1) := by decide +kernel
theorem dX2_mostFrom_5 : decode cX2_mostFrom 5 = .ok (.bipush 6, 2) := by decide +kernel
theorem dX2_mostFrom_7 : decode cX2_mostFrom 7 = .ok (.if_icmp .ge 49, 3) := by decide +kernel
theorem dX2_mostFrom_10 : decode cX2_mostFrom 10 = .ok (.iload_n 1, 1) := by decide +kernel
theorem dX2_mostFrom_11 : decode cX2_mostFrom 11 = .ok (.aload_n 0, 1) := by decide +kernel
theorem dX2_mostFrom_12 : decode cX2_mostFrom 12 = .ok (.getfield 9, 3) := by decide +kernel
theorem dX2_mostFrom_15 : decode cX2_mostFrom 15 = .ok (.iload_n 3, 1) := by decide +kernel
theorem dX2_mostFrom_16 : decode cX2_mostFrom 16 = .ok (.iaload, 1) := by decide +kernel
theorem dX2_mostFrom_17 : decode cX2_mostFrom 17 = .ok (.iadd, 1) := by decide +kernel
theorem dX2_mostFrom_18 : decode cX2_mostFrom 18 = .ok (.istore 4, 2) := by decide +kernel
theorem dX2_mostFrom_20 : decode cX2_mostFrom 20 = .ok (.iload 4, 2) := by decide +kernel
theorem dX2_mostFrom_22 : decode cX2_mostFrom 22 = .ok (.aload_n 0, 1) := by decide +kernel
theorem dX2_mostFrom_23 : decode cX2_mostFrom 23 = .ok (.getfield 18, 3) := by decide +kernel
theorem dX2_mostFrom_26 : decode cX2_mostFrom 26 = .ok (.iload_n 3, 1) := by decide +kernel
theorem dX2_mostFrom_27 : decode cX2_mostFrom 27 = .ok (.iaload, 1) := by decide +kernel
theorem dX2_mostFrom_28 : decode cX2_mostFrom 28 = .ok (.if_icmp .gt 22, 3) := by decide +kernel
theorem dX2_mostFrom_31 : decode cX2_mostFrom 31 = .ok (.iload_n 2, 1) := by decide +kernel
theorem dX2_mostFrom_32 : decode cX2_mostFrom 32 = .ok (.aload_n 0, 1) := by decide +kernel
theorem dX2_mostFrom_33 : decode cX2_mostFrom 33 = .ok (.getfield 15, 3) := by decide +kernel
theorem dX2_mostFrom_36 : decode cX2_mostFrom 36 = .ok (.iload_n 3, 1) := by decide +kernel
theorem dX2_mostFrom_37 : decode cX2_mostFrom 37 = .ok (.iaload, 1) := by decide +kernel
theorem dX2_mostFrom_38 : decode cX2_mostFrom 38 = .ok (.aload_n 0, 1) := by decide +kernel
theorem dX2_mostFrom_39 : decode cX2_mostFrom 39 = .ok (.getfield 21, 3) := by decide +kernel
theorem dX2_mostFrom_42 : decode cX2_mostFrom 42 = .ok (.iload 4, 2) := by decide +kernel
theorem dX2_mostFrom_44 : decode cX2_mostFrom 44 = .ok (.iaload, 1) := by decide +kernel
theorem dX2_mostFrom_45 : decode cX2_mostFrom 45 = .ok (.iadd, 1) := by decide +kernel
theorem dX2_mostFrom_46 : decode cX2_mostFrom 46 = .ok (.invokestatic 55, 3) := by decide +kernel
theorem dX2_mostFrom_49 : decode cX2_mostFrom 49 = .ok (.istore_n 2, 1) := by decide +kernel
theorem dX2_mostFrom_50 : decode cX2_mostFrom 50 = .ok (.iinc 3 1, 3) := by decide +kernel
theorem dX2_mostFrom_53 : decode cX2_mostFrom 53 = .ok (.goto (-49), 3) := by decide +kernel
theorem dX2_mostFrom_56 : decode cX2_mostFrom 56 = .ok (.iload_n 2, 1) := by decide +kernel
theorem dX2_mostFrom_57 : decode cX2_mostFrom 57 = .ok (.ireturn, 1) := by decide +kernel
theorem dX2_lowestFrom_0 : decode cX2_lowestFrom 0 = .ok (.iconst 0, 1) := by decide +kernel
theorem dX2_lowestFrom_1 : decode cX2_lowestFrom 1 = .ok (.istore_n 2, 1) := by decide +kernel
theorem dX2_lowestFrom_2 : decode cX2_lowestFrom 2 = .ok (.iload_n 2, 1) := by decide +kernel
theorem dX2_lowestFrom_3 : decode cX2_lowestFrom 3 = .ok (.bipush 6, 2) := by decide +kernel
theorem dX2_lowestFrom_5 : decode cX2_lowestFrom 5 = .ok (.if_icmp .ge 52, 3) := by decide +kernel
theorem dX2_lowestFrom_8 : decode cX2_lowestFrom 8 = .ok (.iload_n 1, 1) := by decide +kernel
theorem dX2_lowestFrom_9 : decode cX2_lowestFrom 9 = .ok (.aload_n 0, 1) := by decide +kernel
theorem dX2_lowestFrom_10 : decode cX2_lowestFrom 10 = .ok (.getfield 9, 3) := by decide +kernel
theorem dX2_lowestFrom_13 : decode cX2_lowestFrom 13 = .ok (.iload_n 2, 1) := by decide +kernel
theorem dX2_lowestFrom_14 : decode cX2_lowestFrom 14 = .ok (.iaload, 1) := by decide +kernel
theorem dX2_lowestFrom_15 : decode cX2_lowestFrom 15 = .ok (.iadd, 1) := by decide +kernel
theorem dX2_lowestFrom_16 : decode cX2_lowestFrom 16 = .ok (.istore_n 3, 1) := by decide +kernel
theorem dX2_lowestFrom_17 : decode cX2_lowestFrom 17 = .ok (.iload_n 3, 1) := by decide +kernel
theorem dX2_lowestFrom_18 : decode cX2_lowestFrom 18 = .ok (.aload_n 0, 1) := by decide +kernel
theorem dX2_lowestFrom_19 : decode cX2_lowestFrom 19 = .ok (.getfield 18, 3) := by decide +kernel
theorem dX2_lowestFrom_22 : decode cX2_lowestFrom 22 = .ok (.iload_n 2, 1) := by decide +kernel
theorem dX2_lowestFrom_23 : decode cX2_lowestFrom 23 = .ok (.iaload, 1) := by decide +kernel
theorem dX2_lowestFrom_24 : decode cX2_lowestFrom 24 = .ok (.if_icmp .gt 27, 3) := by decide +kernel
theorem dX2_lowestFrom_27 : decode cX2_lowestFrom 27 = .ok (.aload_n 0, 1) := by decide +kernel
theorem dX2_lowestFrom_28 : decode cX2_lowestFrom 28 = .ok (.getfield 15, 3) := by decide +kernel
theorem dX2_lowestFrom_31 : decode cX2_lowestFrom 31 = .ok (.iload_n 2, 1) := by decide +kernel
theorem dX2_lowestFrom_32 : decode cX2_lowestFrom 32 = .ok (.iaload, 1) := by decide +kernel
theorem dX2_lowestFrom_33 : decode cX2_lowestFrom 33 = .ok (.aload_n 0, 1) := by decide +kernel
theorem dX2_lowestFrom_34 : decode cX2_lowestFrom 34 = .ok (.getfield 21, 3) := by decide +kernel
theorem dX2_lowestFrom_37 : decode cX2_lowestFrom 37 = .ok (.iload_n 3, 1) := by decide +kernel
theorem dX2_lowestFrom_38 : decode cX2_lowestFrom 38 = .ok (.iaload, 1) := by decide +kernel
theorem dX2_lowestFrom_39 : decode cX2_lowestFrom 39 = .ok (.iadd, 1) := by decide +kernel
theorem dX2_lowestFrom_40 : decode cX2_lowestFrom 40 = .ok (.aload_n 0, 1) := by decide +kernel
theorem dX2_lowestFrom_41 : decode cX2_lowestFrom 41 = .ok (.getfield 21, 3) := by decide +kernel
theorem dX2_lowestFrom_44 : decode cX2_lowestFrom 44 = .ok (.iload_n 1, 1) := by decide +kernel
theorem dX2_lowestFrom_45 : decode cX2_lowestFrom 45 = .ok (.iaload, 1) := by decide +kernel
theorem dX2_lowestFrom_46 : decode cX2_lowestFrom 46 = .ok (.if_icmp .ne 5, 3) := by decide +kernel
theorem dX2_lowestFrom_49 : decode cX2_lowestFrom 49 = .ok (.iload_n 2, 1) := by decide +kernel
theorem dX2_lowestFrom_50 : decode cX2_lowestFrom 50 = .ok (.ireturn, 1) := by decide +kernel
theorem dX2_lowestFrom_51 : decode cX2_lowestFrom 51 = .ok (.iinc 2 1, 3) := by decide +kernel
theorem dX2_lowestFrom_54 : decode cX2_lowestFrom 54 = .ok (.goto (-52), 3) := by decide +kernel
theorem dX2_lowestFrom_57 : decode cX2_lowestFrom 57 = .ok (.iconst (-1), 1) := by decide +kernel
theorem dX2_lowestFrom_58 : decode cX2_lowestFrom 58 = .ok (.ireturn, 1) := by decide +kernel
theorem dX3_init_0 : decode cX3_init 0 = .ok (.aload_n 0, 1) := by decide +kernel
theorem dX3_init_1 : decode cX3_init 1 = .ok (.invokespecial 3, 3) := by decide +kernel
theorem dX3_init_4 : decode cX3_init 4 = .ok (.aload_n 0, 1) := by decide +kernel
theorem dX3_init_5 : decode cX3_init 5 = .ok (.sipush 240, 3) := by decide +kernel
theorem dX3_init_8 : decode cX3_init 8 = .ok (.newarray .int, 2) := by decide +kernel
theorem dX3_init_10 : decode cX3_init 10 = .ok (.putfield 9, 3) := by decide +kernel
theorem dX3_init_13 : decode cX3_init 13 = .ok (.return_, 1) := by decide +kernel
theorem dX3_clear_0 : decode cX3_clear 0 = .ok (.aload_n 0, 1) := by decide +kernel
theorem dX3_clear_1 : decode cX3_clear 1 = .ok (.iconst 0, 1) := by decide +kernel
theorem dX3_clear_2 : decode cX3_clear 2 = .ok (.putfield 15, 3) := by decide +kernel
theorem dX3_clear_5 : decode cX3_clear 5 = .ok (.aload_n 0, 1) := by decide +kernel
theorem dX3_clear_6 : decode cX3_clear 6 = .ok (.iconst 0, 1) := by decide +kernel
theorem dX3_clear_7 : decode cX3_clear 7 = .ok (.putfield 19, 3) := by decide +kernel
theorem dX3_clear_10 : decode cX3_clear 10 = .ok (.return_, 1) := by decide +kernel
theorem dX3_add_0 : decode cX3_add 0 = .ok (.aload_n 0, 1) := by decide +kernel
theorem dX3_add_1 : decode cX3_add 1 = .ok (.getfield 15, 3) := by decide +kernel
theorem dX3_add_4 : decode cX3_add 4 = .ok (.bipush 40, 2) := by decide +kernel
theorem dX3_add_6 : decode cX3_add 6 = .ok (.if_icmp .lt 4, 3) := by decide +kernel
theorem dX3_add_9 : decode cX3_add 9 = .ok (.return_, 1) := by decide +kernel
theorem dX3_add_10 : decode cX3_add 10 = .ok (.aload_n 0, 1) := by decide +kernel
theorem dX3_add_11 : decode cX3_add 11 = .ok (.getfield 15, 3) := by decide +kernel
theorem dX3_add_14 : decode cX3_add 14 = .ok (.bipush 6, 2) := by decide +kernel
theorem dX3_add_16 : decode cX3_add 16 = .ok (.imul, 1) := by decide +kernel
theorem dX3_add_17 : decode cX3_add 17 = .ok (.istore 6, 2) := by decide +kernel
theorem dX3_add_19 : decode cX3_add 19 = .ok (.aload_n 0, 1) := by decide +kernel
theorem dX3_add_20 : decode cX3_add 20 = .ok (.getfield 9, 3) := by decide +kernel
theorem dX3_add_23 : decode cX3_add 23 = .ok (.iload 6, 2) := by decide +kernel
theorem dX3_add_25 : decode cX3_add 25 = .ok (.iconst 0, 1) := by decide +kernel
theorem dX3_add_26 : decode cX3_add 26 = .ok (.iadd, 1) := by decide +kernel
theorem dX3_add_27 : decode cX3_add 27 = .ok (.iload_n 1, 1) := by decide +kernel
theorem dX3_add_28 : decode cX3_add 28 = .ok (.iastore, 1) := by decide +kernel
theorem dX3_add_29 : decode cX3_add 29 = .ok (.aload_n 0, 1) := by decide +kernel
theorem dX3_add_30 : decode cX3_add 30 = .ok (.getfield 9, 3) := by decide +kernel
theorem dX3_add_33 : decode cX3_add 33 = .ok (.iload 6, 2) := by decide +kernel
theorem dX3_add_35 : decode cX3_add 35 = .ok (.iconst 1, 1) := by decide +kernel
theorem dX3_add_36 : decode cX3_add 36 = .ok (.iadd, 1) := by decide +kernel
theorem dX3_add_37 : decode cX3_add 37 = .ok (.iload_n 2, 1) := by decide +kernel
theorem dX3_add_38 : decode cX3_add 38 = .ok (.iastore, 1) := by decide +kernel
theorem dX3_add_39 : decode cX3_add 39 = .ok (.aload_n 0, 1) := by decide +kernel
theorem dX3_add_40 : decode cX3_add 40 = .ok (.getfield 9, 3) := by decide +kernel
theorem dX3_add_43 : decode cX3_add 43 = .ok (.iload 6, 2) := by decide +kernel
theorem dX3_add_45 : decode cX3_add 45 = .ok (.iconst 2, 1) := by decide +kernel
theorem dX3_add_46 : decode cX3_add 46 = .ok (.iadd, 1) := by decide +kernel
theorem dX3_add_47 : decode cX3_add 47 = .ok (.iload_n 3, 1) := by decide +kernel
theorem dX3_add_48 : decode cX3_add 48 = .ok (.iastore, 1) := by decide +kernel
theorem dX3_add_49 : decode cX3_add 49 = .ok (.aload_n 0, 1) := by decide +kernel
theorem dX3_add_50 : decode cX3_add 50 = .ok (.getfield 9, 3) := by decide +kernel
theorem dX3_add_53 : decode cX3_add 53 = .ok (.iload 6, 2) := by decide +kernel
theorem dX3_add_55 : decode cX3_add 55 = .ok (.iconst 3, 1) := by decide +kernel
theorem dX3_add_56 : decode cX3_add 56 = .ok (.iadd, 1) := by decide +kernel
theorem dX3_add_57 : decode cX3_add 57 = .ok (.iload_n 3, 1) := by decide +kernel
theorem dX3_add_58 : decode cX3_add 58 = .ok (.bipush 50, 2) := by decide +kernel
theorem dX3_add_60 : decode cX3_add 60 = .ok (.idiv, 1) := by decide +kernel
theorem dX3_add_61 : decode cX3_add 61 = .ok (.iastore, 1) := by decide +kernel
theorem dX3_add_62 : decode cX3_add 62 = .ok (.aload_n 0, 1) := by decide +kernel
theorem dX3_add_63 : decode cX3_add 63 = .ok (.getfield 9, 3) := by decide +kernel
theorem dX3_add_66 : decode cX3_add 66 = .ok (.iload 6, 2) := by decide +kernel
theorem dX3_add_68 : decode cX3_add 68 = .ok (.iconst 4, 1) := by decide +kernel
theorem dX3_add_69 : decode cX3_add 69 = .ok (.iadd, 1) := by decide +kernel
theorem dX3_add_70 : decode cX3_add 70 = .ok (.iload 4, 2) := by decide +kernel
theorem dX3_add_72 : decode cX3_add 72 = .ok (.iastore, 1) := by decide +kernel
theorem dX3_add_73 : decode cX3_add 73 = .ok (.aload_n 0, 1) := by decide +kernel
theorem dX3_add_74 : decode cX3_add 74 = .ok (.getfield 9, 3) := by decide +kernel
theorem dX3_add_77 : decode cX3_add 77 = .ok (.iload 6, 2) := by decide +kernel
theorem dX3_add_79 : decode cX3_add 79 = .ok (.iconst 5, 1) := by decide +kernel
theorem dX3_add_80 : decode cX3_add 80 = .ok (.iadd, 1) := by decide +kernel
theorem dX3_add_81 : decode cX3_add 81 = .ok (.iload 5, 2) := by decide +kernel
theorem dX3_add_83 : decode cX3_add 83 = .ok (.iastore, 1) := by decide +kernel
theorem dX3_add_84 : decode cX3_add 84 = .ok (.aload_n 0, 1) := by decide +kernel
theorem dX3_add_85 : decode cX3_add 85 = .ok (.dup, 1) := by decide +kernel
theorem dX3_add_86 : decode cX3_add 86 = .ok (.getfield 15, 3) := by decide +kernel
theorem dX3_add_89 : decode cX3_add 89 = .ok (.iconst 1, 1) := by decide +kernel
theorem dX3_add_90 : decode cX3_add 90 = .ok (.iadd, 1) := by decide +kernel
theorem dX3_add_91 : decode cX3_add 91 = .ok (.putfield 15, 3) := by decide +kernel
theorem dX3_add_94 : decode cX3_add 94 = .ok (.aload_n 0, 1) := by decide +kernel
theorem dX3_add_95 : decode cX3_add 95 = .ok (.dup, 1) := by decide +kernel
theorem dX3_add_96 : decode cX3_add 96 = .ok (.getfield 19, 3) := by decide +kernel
theorem dX3_add_99 : decode cX3_add 99 = .ok (.iload 5, 2) := by decide +kernel
theorem dX3_add_101 : decode cX3_add 101 = .ok (.iadd, 1) := by decide +kernel
theorem dX3_add_102 : decode cX3_add 102 = .ok (.putfield 19, 3) := by decide +kernel
theorem dX3_add_105 : decode cX3_add 105 = .ok (.return_, 1) := by decide +kernel
theorem dX3_fact_0 : decode cX3_fact 0 = .ok (.aload_n 0, 1) := by decide +kernel
theorem dX3_fact_1 : decode cX3_fact 1 = .ok (.getfield 9, 3) := by decide +kernel
theorem dX3_fact_4 : decode cX3_fact 4 = .ok (.iload_n 1, 1) := by decide +kernel
theorem dX3_fact_5 : decode cX3_fact 5 = .ok (.bipush 6, 2) := by decide +kernel
theorem dX3_fact_7 : decode cX3_fact 7 = .ok (.imul, 1) := by decide +kernel
theorem dX3_fact_8 : decode cX3_fact 8 = .ok (.iload_n 2, 1) := by decide +kernel
theorem dX3_fact_9 : decode cX3_fact 9 = .ok (.iadd, 1) := by decide +kernel
theorem dX3_fact_10 : decode cX3_fact 10 = .ok (.iaload, 1) := by decide +kernel
theorem dX3_fact_11 : decode cX3_fact 11 = .ok (.ireturn, 1) := by decide +kernel
theorem dX4_init_0 : decode cX4_init 0 = .ok (.aload_n 0, 1) := by decide +kernel
theorem dX4_init_1 : decode cX4_init 1 = .ok (.invokespecial 1, 3) := by decide +kernel
theorem dX4_init_4 : decode cX4_init 4 = .ok (.aload_n 0, 1) := by decide +kernel
theorem dX4_init_5 : decode cX4_init 5 = .ok (.iload_n 1, 1) := by decide +kernel
theorem dX4_init_6 : decode cX4_init 6 = .ok (.newarray .int, 2) := by decide +kernel
theorem dX4_init_8 : decode cX4_init 8 = .ok (.putfield 7, 3) := by decide +kernel
theorem dX4_init_11 : decode cX4_init 11 = .ok (.aload_n 0, 1) := by decide +kernel
theorem dX4_init_12 : decode cX4_init 12 = .ok (.iload_n 1, 1) := by decide +kernel
theorem dX4_init_13 : decode cX4_init 13 = .ok (.newarray .int, 2) := by decide +kernel
theorem dX4_init_15 : decode cX4_init 15 = .ok (.putfield 13, 3) := by decide +kernel
theorem dX4_init_18 : decode cX4_init 18 = .ok (.return_, 1) := by decide +kernel
theorem dX4_add_0 : decode cX4_add 0 = .ok (.aload_n 0, 1) := by decide +kernel
theorem dX4_add_1 : decode cX4_add 1 = .ok (.getfield 16, 3) := by decide +kernel
theorem dX4_add_4 : decode cX4_add 4 = .ok (.aload_n 0, 1) := by decide +kernel
theorem dX4_add_5 : decode cX4_add 5 = .ok (.getfield 7, 3) := by decide +kernel
theorem dX4_add_8 : decode cX4_add 8 = .ok (.arraylength, 1) := by decide +kernel
theorem dX4_add_9 : decode cX4_add 9 = .ok (.if_icmp .ge 33, 3) := by decide +kernel
theorem dX4_add_12 : decode cX4_add 12 = .ok (.aload_n 0, 1) := by decide +kernel
theorem dX4_add_13 : decode cX4_add 13 = .ok (.getfield 7, 3) := by decide +kernel
theorem dX4_add_16 : decode cX4_add 16 = .ok (.aload_n 0, 1) := by decide +kernel
theorem dX4_add_17 : decode cX4_add 17 = .ok (.getfield 16, 3) := by decide +kernel
theorem dX4_add_20 : decode cX4_add 20 = .ok (.iload_n 1, 1) := by decide +kernel
theorem dX4_add_21 : decode cX4_add 21 = .ok (.iastore, 1) := by decide +kernel
theorem dX4_add_22 : decode cX4_add 22 = .ok (.aload_n 0, 1) := by decide +kernel
theorem dX4_add_23 : decode cX4_add 23 = .ok (.getfield 13, 3) := by decide +kernel
theorem dX4_add_26 : decode cX4_add 26 = .ok (.aload_n 0, 1) := by decide +kernel
theorem dX4_add_27 : decode cX4_add 27 = .ok (.getfield 16, 3) := by decide +kernel
theorem dX4_add_30 : decode cX4_add 30 = .ok (.iload_n 2, 1) := by decide +kernel
theorem dX4_add_31 : decode cX4_add 31 = .ok (.iastore, 1) := by decide +kernel
theorem dX4_add_32 : decode cX4_add 32 = .ok (.aload_n 0, 1) := by decide +kernel
theorem dX4_add_33 : decode cX4_add 33 = .ok (.dup, 1) := by decide +kernel
theorem dX4_add_34 : decode cX4_add 34 = .ok (.getfield 16, 3) := by decide +kernel
theorem dX4_add_37 : decode cX4_add 37 = .ok (.iconst 1, 1) := by decide +kernel
theorem dX4_add_38 : decode cX4_add 38 = .ok (.iadd, 1) := by decide +kernel
theorem dX4_add_39 : decode cX4_add 39 = .ok (.putfield 16, 3) := by decide +kernel
theorem dX4_add_42 : decode cX4_add 42 = .ok (.return_, 1) := by decide +kernel
theorem dX4_countOf_0 : decode cX4_countOf 0 = .ok (.iconst 0, 1) := by decide +kernel
theorem dX4_countOf_1 : decode cX4_countOf 1 = .ok (.istore_n 2, 1) := by decide +kernel
theorem dX4_countOf_2 : decode cX4_countOf 2 = .ok (.iconst 0, 1) := by decide +kernel
theorem dX4_countOf_3 : decode cX4_countOf 3 = .ok (.istore_n 3, 1) := by decide +kernel
theorem dX4_countOf_4 : decode cX4_countOf 4 = .ok (.iload_n 3, 1) := by decide +kernel
theorem dX4_countOf_5 : decode cX4_countOf 5 = .ok (.aload_n 0, 1) := by decide +kernel
theorem dX4_countOf_6 : decode cX4_countOf 6 = .ok (.getfield 16, 3) := by decide +kernel
theorem dX4_countOf_9 : decode cX4_countOf 9 = .ok (.if_icmp .ge 22, 3) := by decide +kernel
theorem dX4_countOf_12 : decode cX4_countOf 12 = .ok (.aload_n 0, 1) := by decide +kernel
theorem dX4_countOf_13 : decode cX4_countOf 13 = .ok (.getfield 7, 3) := by decide +kernel
theorem dX4_countOf_16 : decode cX4_countOf 16 = .ok (.iload_n 3, 1) := by decide +kernel
theorem dX4_countOf_17 : decode cX4_countOf 17 = .ok (.iaload, 1) := by decide +kernel
theorem dX4_countOf_18 : decode cX4_countOf 18 = .ok (.iload_n 1, 1) := by decide +kernel
theorem dX4_countOf_19 : decode cX4_countOf 19 = .ok (.if_icmp .ne 6, 3) := by decide +kernel
theorem dX4_countOf_22 : decode cX4_countOf 22 = .ok (.iinc 2 1, 3) := by decide +kernel
theorem dX4_countOf_25 : decode cX4_countOf 25 = .ok (.iinc 3 1, 3) := by decide +kernel
theorem dX4_countOf_28 : decode cX4_countOf 28 = .ok (.goto (-24), 3) := by decide +kernel
theorem dX4_countOf_31 : decode cX4_countOf 31 = .ok (.iload_n 2, 1) := by decide +kernel
theorem dX4_countOf_32 : decode cX4_countOf 32 = .ok (.ireturn, 1) := by decide +kernel
theorem dX5_init_0 : decode cX5_init 0 = .ok (.aload_n 0, 1) := by decide +kernel
theorem dX5_init_1 : decode cX5_init 1 = .ok (.invokespecial 3, 3) := by decide +kernel
theorem dX5_init_4 : decode cX5_init 4 = .ok (.aload_n 0, 1) := by decide +kernel
theorem dX5_init_5 : decode cX5_init 5 = .ok (.bipush 57, 2) := by decide +kernel
theorem dX5_init_7 : decode cX5_init 7 = .ok (.newarray .int, 2) := by decide +kernel
theorem dX5_init_9 : decode cX5_init 9 = .ok (.putfield 9, 3) := by decide +kernel
theorem dX5_init_12 : decode cX5_init 12 = .ok (.return_, 1) := by decide +kernel
theorem dX5_isTold_0 : decode cX5_isTold 0 = .ok (.aload_n 0, 1) := by decide +kernel
theorem dX5_isTold_1 : decode cX5_isTold 1 = .ok (.getfield 15, 3) := by decide +kernel
theorem dX5_isTold_4 : decode cX5_isTold 4 = .ok (.ifCond .le 7, 3) := by decide +kernel
theorem dX5_isTold_7 : decode cX5_isTold 7 = .ok (.iconst 1, 1) := by decide +kernel
theorem dX5_isTold_8 : decode cX5_isTold 8 = .ok (.goto 4, 3) := by decide +kernel
theorem dX5_isTold_11 : decode cX5_isTold 11 = .ok (.iconst 0, 1) := by decide +kernel
theorem dX5_isTold_12 : decode cX5_isTold 12 = .ok (.ireturn, 1) := by decide +kernel
theorem dX5_become_0 : decode cX5_become 0 = .ok (.aload_n 0, 1) := by decide +kernel
theorem dX5_become_1 : decode cX5_become 1 = .ok (.iload_n 1, 1) := by decide +kernel
theorem dX5_become_2 : decode cX5_become 2 = .ok (.putfield 15, 3) := by decide +kernel
theorem dX5_become_5 : decode cX5_become 5 = .ok (.aload_n 0, 1) := by decide +kernel
theorem dX5_become_6 : decode cX5_become 6 = .ok (.iload_n 2, 1) := by decide +kernel
theorem dX5_become_7 : decode cX5_become 7 = .ok (.putfield 19, 3) := by decide +kernel
theorem dX5_become_10 : decode cX5_become 10 = .ok (.aload_n 0, 1) := by decide +kernel
theorem dX5_become_11 : decode cX5_become 11 = .ok (.getfield 9, 3) := by decide +kernel
theorem dX5_become_14 : decode cX5_become 14 = .ok (.iconst 0, 1) := by decide +kernel
theorem dX5_become_15 : decode cX5_become 15 = .ok (.invokestatic 22, 3) := by decide +kernel
theorem dX5_become_18 : decode cX5_become 18 = .ok (.return_, 1) := by decide +kernel
theorem dX5_slot_0 : decode cX5_slot 0 = .ok (.iload_n 0, 1) := by decide +kernel
theorem dX5_slot_1 : decode cX5_slot 1 = .ok (.iconst 3, 1) := by decide +kernel
theorem dX5_slot_2 : decode cX5_slot 2 = .ok (.imul, 1) := by decide +kernel
theorem dX5_slot_3 : decode cX5_slot 3 = .ok (.iload_n 1, 1) := by decide +kernel
theorem dX5_slot_4 : decode cX5_slot 4 = .ok (.iadd, 1) := by decide +kernel
theorem dX5_slot_5 : decode cX5_slot 5 = .ok (.iconst 1, 1) := by decide +kernel
theorem dX5_slot_6 : decode cX5_slot 6 = .ok (.isub, 1) := by decide +kernel
theorem dX5_slot_7 : decode cX5_slot 7 = .ok (.ireturn, 1) := by decide +kernel
theorem dX6_init_0 : decode cX6_init 0 = .ok (.aload_n 0, 1) := by decide +kernel
theorem dX6_init_1 : decode cX6_init 1 = .ok (.invokespecial 3, 3) := by decide +kernel
theorem dX6_init_4 : decode cX6_init 4 = .ok (.aload_n 0, 1) := by decide +kernel
theorem dX6_init_5 : decode cX6_init 5 = .ok (.bipush 6, 2) := by decide +kernel
theorem dX6_init_7 : decode cX6_init 7 = .ok (.newarray .int, 2) := by decide +kernel
theorem dX6_init_9 : decode cX6_init 9 = .ok (.putfield 9, 3) := by decide +kernel
theorem dX6_init_12 : decode cX6_init 12 = .ok (.aload_n 0, 1) := by decide +kernel
theorem dX6_init_13 : decode cX6_init 13 = .ok (.iconst 4, 1) := by decide +kernel
theorem dX6_init_14 : decode cX6_init 14 = .ok (.newarray .int, 2) := by decide +kernel
theorem dX6_init_16 : decode cX6_init 16 = .ok (.putfield 15, 3) := by decide +kernel
theorem dX6_init_19 : decode cX6_init 19 = .ok (.aload_n 0, 1) := by decide +kernel
theorem dX6_init_20 : decode cX6_init 20 = .ok (.iconst 4, 1) := by decide +kernel
theorem dX6_init_21 : decode cX6_init 21 = .ok (.newarray .int, 2) := by decide +kernel
theorem dX6_init_23 : decode cX6_init 23 = .ok (.putfield 18, 3) := by decide +kernel
theorem dX6_init_26 : decode cX6_init 26 = .ok (.return_, 1) := by decide +kernel
theorem dX6_additionFor_0 : decode cX6_additionFor 0 = .ok (.iconst 0, 1) := by decide +kernel
theorem dX6_additionFor_1 : decode cX6_additionFor 1 = .ok (.istore_n 2, 1) := by decide +kernel
theorem dX6_additionFor_2 : decode cX6_additionFor 2 = .ok (.iconst 0, 1) := by decide +kernel
theorem dX6_additionFor_3 : decode cX6_additionFor 3 = .ok (.istore_n 3, 1) := by decide +kernel
theorem dX6_additionFor_4 : decode cX6_additionFor 4 = .ok (.iload_n 3, 1) := by decide +kernel
theorem dX6_additionFor_5 : decode cX6_additionFor 5 = .ok (.iconst 4, 1) := by decide +kernel
theorem dX6_additionFor_6 : decode cX6_additionFor 6 = .ok (.if_icmp .ge 44, 3) := by decide +kernel
theorem dX6_additionFor_9 : decode cX6_additionFor 9 = .ok (.aload_n 0, 1) := by decide +kernel
theorem dX6_additionFor_10 : decode cX6_additionFor 10 = .ok (.getfield 15, 3) := by decide +kernel
theorem dX6_additionFor_13 : decode cX6_additionFor 13 = .ok (.iload_n 3, 1) := by decide +kernel
theorem dX6_additionFor_14 : decode cX6_additionFor 14 = .ok (.iaload, 1) := by decide +kernel
theorem dX6_additionFor_15 : decode cX6_additionFor 15 = .ok (.ifCond .le 29, 3) := by decide +kernel
theorem dX6_additionFor_18 : decode cX6_additionFor 18 = .ok (.aload_n 0, 1) := by decide +kernel
theorem dX6_additionFor_19 : decode cX6_additionFor 19 = .ok (.getfield 15, 3) := by decide +kernel
theorem dX6_additionFor_22 : decode cX6_additionFor 22 = .ok (.iload_n 3, 1) := by decide +kernel
theorem dX6_additionFor_23 : decode cX6_additionFor 23 = .ok (.iaload, 1) := by decide +kernel
theorem dX6_additionFor_24 : decode cX6_additionFor 24 = .ok (.aload_n 0, 1) := by decide +kernel
theorem dX6_additionFor_25 : decode cX6_additionFor 25 = .ok (.getfield 9, 3) := by decide +kernel
theorem dX6_additionFor_28 : decode cX6_additionFor 28 = .ok (.iload_n 1, 1) := by decide +kernel
theorem dX6_additionFor_29 : decode cX6_additionFor 29 = .ok (.iaload, 1) := by decide +kernel
theorem dX6_additionFor_30 : decode cX6_additionFor 30 = .ok (.if_icmp .gt 14, 3) := by decide +kernel
theorem dX6_additionFor_33 : decode cX6_additionFor 33 = .ok (.iload_n 2, 1) := by decide +kernel
theorem dX6_additionFor_34 : decode cX6_additionFor 34 = .ok (.aload_n 0, 1) := by decide +kernel
theorem dX6_additionFor_35 : decode cX6_additionFor 35 = .ok (.getfield 18, 3) := by decide +kernel
theorem dX6_additionFor_38 : decode cX6_additionFor 38 = .ok (.iload_n 3, 1) := by decide +kernel
theorem dX6_additionFor_39 : decode cX6_additionFor 39 = .ok (.iaload, 1) := by decide +kernel
theorem dX6_additionFor_40 : decode cX6_additionFor 40 = .ok (.invokestatic 21, 3) := by decide +kernel
theorem dX6_additionFor_43 : decode cX6_additionFor 43 = .ok (.istore_n 2, 1) := by decide +kernel
theorem dX6_additionFor_44 : decode cX6_additionFor 44 = .ok (.iinc 3 1, 3) := by decide +kernel
theorem dX6_additionFor_47 : decode cX6_additionFor 47 = .ok (.goto (-43), 3) := by decide +kernel
theorem dX6_additionFor_50 : decode cX6_additionFor 50 = .ok (.iload_n 2, 1) := by decide +kernel
theorem dX6_additionFor_51 : decode cX6_additionFor 51 = .ok (.ireturn, 1) := by decide +kernel
theorem dX6_deliver_0 : decode cX6_deliver 0 = .ok (.aload_n 0, 1) := by decide +kernel
theorem dX6_deliver_1 : decode cX6_deliver 1 = .ok (.getfield 9, 3) := by decide +kernel
theorem dX6_deliver_4 : decode cX6_deliver 4 = .ok (.iload_n 1, 1) := by decide +kernel
theorem dX6_deliver_5 : decode cX6_deliver 5 = .ok (.iconst 0, 1) := by decide +kernel
theorem dX6_deliver_6 : decode cX6_deliver 6 = .ok (.aload_n 0, 1) := by decide +kernel
theorem dX6_deliver_7 : decode cX6_deliver 7 = .ok (.getfield 9, 3) := by decide +kernel
theorem dX6_deliver_10 : decode cX6_deliver 10 = .ok (.iload_n 1, 1) := by decide +kernel
theorem dX6_deliver_11 : decode cX6_deliver 11 = .ok (.iaload, 1) := by decide +kernel
theorem dX6_deliver_12 : decode cX6_deliver 12 = .ok (.iload_n 2, 1) := by decide +kernel
theorem dX6_deliver_13 : decode cX6_deliver 13 = .ok (.isub, 1) := by decide +kernel
theorem dX6_deliver_14 : decode cX6_deliver 14 = .ok (.invokestatic 21, 3) := by decide +kernel
theorem dX6_deliver_17 : decode cX6_deliver 17 = .ok (.iastore, 1) := by decide +kernel
theorem dX6_deliver_18 : decode cX6_deliver 18 = .ok (.return_, 1) := by decide +kernel
theorem dX7_init_0 : decode cX7_init 0 = .ok (.aload_n 0, 1) := by decide +kernel
theorem dX7_init_1 : decode cX7_init 1 = .ok (.invokespecial 3, 3) := by decide +kernel
theorem dX7_init_4 : decode cX7_init 4 = .ok (.aload_n 0, 1) := by decide +kernel
theorem dX7_init_5 : decode cX7_init 5 = .ok (.iconst (-1), 1) := by decide +kernel
theorem dX7_init_6 : decode cX7_init 6 = .ok (.putfield 9, 3) := by decide +kernel
theorem dX7_init_9 : decode cX7_init 9 = .ok (.aload_n 0, 1) := by decide +kernel
theorem dX7_init_10 : decode cX7_init 10 = .ok (.new 15, 3) := by decide +kernel
theorem dX7_init_13 : decode cX7_init 13 = .ok (.dup, 1) := by decide +kernel
theorem dX7_init_14 : decode cX7_init 14 = .ok (.sipush 180, 3) := by decide +kernel
theorem dX7_init_17 : decode cX7_init 17 = .ok (.invokespecial 17, 3) := by decide +kernel
theorem dX7_init_20 : decode cX7_init 20 = .ok (.putfield 20, 3) := by decide +kernel
theorem dX7_init_23 : decode cX7_init 23 = .ok (.aload_n 0, 1) := by decide +kernel
theorem dX7_init_24 : decode cX7_init 24 = .ok (.new 15, 3) := by decide +kernel
theorem dX7_init_27 : decode cX7_init 27 = .ok (.dup, 1) := by decide +kernel
theorem dX7_init_28 : decode cX7_init 28 = .ok (.bipush 90, 2) := by decide +kernel
theorem dX7_init_30 : decode cX7_init 30 = .ok (.invokespecial 17, 3) := by decide +kernel
theorem dX7_init_33 : decode cX7_init 33 = .ok (.putfield 24, 3) := by decide +kernel
theorem dX7_init_36 : decode cX7_init 36 = .ok (.aload_n 0, 1) := by decide +kernel
theorem dX7_init_37 : decode cX7_init 37 = .ok (.bipush 6, 2) := by decide +kernel
theorem dX7_init_39 : decode cX7_init 39 = .ok (.newarray .int, 2) := by decide +kernel
theorem dX7_init_41 : decode cX7_init 41 = .ok (.putfield 27, 3) := by decide +kernel
theorem dX7_init_44 : decode cX7_init 44 = .ok (.return_, 1) := by decide +kernel
theorem dX7_stacks_0 : decode cX7_stacks 0 = .ok (.aload_n 0, 1) := by decide +kernel
theorem dX7_stacks_1 : decode cX7_stacks 1 = .ok (.getfield 9, 3) := by decide +kernel
theorem dX7_stacks_4 : decode cX7_stacks 4 = .ok (.iconst (-1), 1) := by decide +kernel
theorem dX7_stacks_5 : decode cX7_stacks 5 = .ok (.if_icmp .ne 7, 3) := by decide +kernel
theorem dX7_stacks_8 : decode cX7_stacks 8 = .ok (.iconst 1, 1) := by decide +kernel
theorem dX7_stacks_9 : decode cX7_stacks 9 = .ok (.goto 4, 3) := by decide +kernel
theorem dX7_stacks_12 : decode cX7_stacks 12 = .ok (.iconst 2, 1) := by decide +kernel
theorem dX7_stacks_13 : decode cX7_stacks 13 = .ok (.ireturn, 1) := by decide +kernel
theorem dX7_count_0 : decode cX7_count 0 = .ok (.aload_n 0, 1) := by decide +kernel
theorem dX7_count_1 : decode cX7_count 1 = .ok (.getfield 20, 3) := by decide +kernel
theorem dX7_count_4 : decode cX7_count 4 = .ok (.getfield 31, 3) := by decide +kernel
theorem dX7_count_7 : decode cX7_count 7 = .ok (.aload_n 0, 1) := by decide +kernel
theorem dX7_count_8 : decode cX7_count 8 = .ok (.invokevirtual 34, 3) := by decide +kernel
theorem dX7_count_11 : decode cX7_count 11 = .ok (.aload_n 0, 1) := by decide +kernel
theorem dX7_count_12 : decode cX7_count 12 = .ok (.getfield 24, 3) := by decide +kernel
theorem dX7_count_15 : decode cX7_count 15 = .ok (.getfield 31, 3) := by decide +kernel
theorem dX7_count_18 : decode cX7_count 18 = .ok (.imul, 1) := by decide +kernel
theorem dX7_count_19 : decode cX7_count 19 = .ok (.iadd, 1) := by decide +kernel
theorem dX7_count_20 : decode cX7_count 20 = .ok (.ireturn, 1) := by decide +kernel
theorem dX7_countOf_0 : decode cX7_countOf 0 = .ok (.aload_n 0, 1) := by decide +kernel
theorem dX7_countOf_1 : decode cX7_countOf 1 = .ok (.getfield 20, 3) := by decide +kernel
theorem dX7_countOf_4 : decode cX7_countOf 4 = .ok (.iload_n 1, 1) := by decide +kernel
theorem dX7_countOf_5 : decode cX7_countOf 5 = .ok (.invokevirtual 38, 3) := by decide +kernel
theorem dX7_countOf_8 : decode cX7_countOf 8 = .ok (.aload_n 0, 1) := by decide +kernel
theorem dX7_countOf_9 : decode cX7_countOf 9 = .ok (.invokevirtual 34, 3) := by decide +kernel
theorem dX7_countOf_12 : decode cX7_countOf 12 = .ok (.aload_n 0, 1) := by decide +kernel
theorem dX7_countOf_13 : decode cX7_countOf 13 = .ok (.getfield 24, 3) := by decide +kernel
theorem dX7_countOf_16 : decode cX7_countOf 16 = .ok (.iload_n 1, 1) := by decide +kernel
theorem dX7_countOf_17 : decode cX7_countOf 17 = .ok (.invokevirtual 38, 3) := by decide +kernel
theorem dX7_countOf_20 : decode cX7_countOf 20 = .ok (.imul, 1) := by decide +kernel
theorem dX7_countOf_21 : decode cX7_countOf 21 = .ok (.iadd, 1) := by decide +kernel
theorem dX7_countOf_22 : decode cX7_countOf 22 = .ok (.ireturn, 1) := by decide +kernel
theorem dX7_isBetterThan_0 : decode cX7_isBetterThan 0 = .ok (.aload_n 0, 1) := by decide +kernel
theorem dX7_isBetterThan_1 : decode cX7_isBetterThan 1 = .ok (.getfield 42, 3) := by decide +kernel
theorem dX7_isBetterThan_4 : decode cX7_isBetterThan 4 = .ok (.aload_n 1, 1) := by decide +kernel
theorem dX7_isBetterThan_5 : decode cX7_isBetterThan 5 = .ok (.getfield 42, 3) := by decide +kernel
theorem dX7_isBetterThan_8 : decode cX7_isBetterThan 8 = .ok (.if_icmp .eq 20, 3) := by decide +kernel
theorem dX7_isBetterThan_11 : decode cX7_isBetterThan 11 = .ok (.aload_n 0, 1) := by decide +kernel
theorem dX7_isBetterThan_12 : decode cX7_isBetterThan 12 = .ok (.getfield 42, 3) := by decide +kernel
theorem dX7_isBetterThan_15 : decode cX7_isBetterThan 15 = .ok (.aload_n 1, 1) := by decide +kernel
theorem dX7_isBetterThan_16 : decode cX7_isBetterThan 16 = .ok (.getfield 42, 3) := by decide +kernel
theorem dX7_isBetterThan_19 : decode cX7_isBetterThan 19 = .ok (.if_icmp .le 7, 3) := by decide +kernel
theorem dX7_isBetterThan_22 : decode cX7_isBetterThan 22 = .ok (.iconst 1, 1) := by decide +kernel
theorem dX7_isBetterThan_23 : decode cX7_isBetterThan 23 = .ok (.goto 4, 3) := by decide +kernel
theorem dX7_isBetterThan_26 : decode cX7_isBetterThan 26 = .ok (.iconst 0, 1) := by decide +kernel
theorem dX7_isBetterThan_27 : decode cX7_isBetterThan 27 = .ok (.ireturn, 1) := by decide +kernel
theorem dX7_isBetterThan_28 : decode cX7_isBetterThan 28 = .ok (.aload_n 0, 1) := by decide +kernel
theorem dX7_isBetterThan_29 : decode cX7_isBetterThan 29 = .ok (.getfield 9, 3) := by decide +kernel
theorem dX7_isBetterThan_32 : decode cX7_isBetterThan 32 = .ok (.iconst (-1), 1) := by decide +kernel
theorem dX7_isBetterThan_33 : decode cX7_isBetterThan 33 = .ok (.if_icmp .eq 26, 3) := by decide +kernel
theorem dX7_isBetterThan_36 : decode cX7_isBetterThan 36 = .ok (.aload_n 1, 1) := by decide +kernel
theorem dX7_isBetterThan_37 : decode cX7_isBetterThan 37 = .ok (.getfield 9, 3) := by decide +kernel
theorem dX7_isBetterThan_40 : decode cX7_isBetterThan 40 = .ok (.iconst (-1), 1) := by decide +kernel
theorem dX7_isBetterThan_41 : decode cX7_isBetterThan 41 = .ok (.if_icmp .eq 14, 3) := by decide +kernel
theorem dX7_isBetterThan_44 : decode cX7_isBetterThan 44 = .ok (.aload_n 0, 1) := by decide +kernel
theorem dX7_isBetterThan_45 : decode cX7_isBetterThan 45 = .ok (.getfield 9, 3) := by decide +kernel
theorem dX7_isBetterThan_48 : decode cX7_isBetterThan 48 = .ok (.aload_n 1, 1) := by decide +kernel
theorem dX7_isBetterThan_49 : decode cX7_isBetterThan 49 = .ok (.getfield 9, 3) := by decide +kernel
theorem dX7_isBetterThan_52 : decode cX7_isBetterThan 52 = .ok (.if_icmp .ge 7, 3) := by decide +kernel
theorem dX7_isBetterThan_55 : decode cX7_isBetterThan 55 = .ok (.iconst 1, 1) := by decide +kernel
theorem dX7_isBetterThan_56 : decode cX7_isBetterThan 56 = .ok (.goto 4, 3) := by decide +kernel
theorem dX7_isBetterThan_59 : decode cX7_isBetterThan 59 = .ok (.iconst 0, 1) := by decide +kernel
theorem dX7_isBetterThan_60 : decode cX7_isBetterThan 60 = .ok (.ireturn, 1) := by decide +kernel
theorem dX7_fact_0 : decode cX7_fact 0 = .ok (.iload_n 1, 1) := by decide +kernel
theorem dX7_fact_1 : decode cX7_fact 1 = .ok (.aload_n 0, 1) := by decide +kernel
theorem dX7_fact_2 : decode cX7_fact 2 = .ok (.getfield 20, 3) := by decide +kernel
theorem dX7_fact_5 : decode cX7_fact 5 = .ok (.getfield 31, 3) := by decide +kernel
theorem dX7_fact_8 : decode cX7_fact 8 = .ok (.if_icmp .ge 15, 3) := by decide +kernel
theorem dX7_fact_11 : decode cX7_fact 11 = .ok (.aload_n 0, 1) := by decide +kernel
theorem dX7_fact_12 : decode cX7_fact 12 = .ok (.aload_n 0, 1) := by decide +kernel
theorem dX7_fact_13 : decode cX7_fact 13 = .ok (.getfield 20, 3) := by decide +kernel
theorem dX7_fact_16 : decode cX7_fact 16 = .ok (.iload_n 1, 1) := by decide +kernel
theorem dX7_fact_17 : decode cX7_fact 17 = .ok (.iconst 0, 1) := by decide +kernel
theorem dX7_fact_18 : decode cX7_fact 18 = .ok (.iload_n 2, 1) := by decide +kernel
theorem dX7_fact_19 : decode cX7_fact 19 = .ok (.invokevirtual 45, 3) := by decide +kernel
theorem dX7_fact_22 : decode cX7_fact 22 = .ok (.ireturn, 1) := by decide +kernel
theorem dX7_fact_23 : decode cX7_fact 23 = .ok (.iload_n 1, 1) := by decide +kernel
theorem dX7_fact_24 : decode cX7_fact 24 = .ok (.aload_n 0, 1) := by decide +kernel
theorem dX7_fact_25 : decode cX7_fact 25 = .ok (.getfield 20, 3) := by decide +kernel
theorem dX7_fact_28 : decode cX7_fact 28 = .ok (.getfield 31, 3) := by decide +kernel
theorem dX7_fact_31 : decode cX7_fact 31 = .ok (.isub, 1) := by decide +kernel
theorem dX7_fact_32 : decode cX7_fact 32 = .ok (.istore_n 3, 1) := by decide +kernel
theorem dX7_fact_33 : decode cX7_fact 33 = .ok (.iload_n 3, 1) := by decide +kernel
theorem dX7_fact_34 : decode cX7_fact 34 = .ok (.aload_n 0, 1) := by decide +kernel
theorem dX7_fact_35 : decode cX7_fact 35 = .ok (.getfield 24, 3) := by decide +kernel
theorem dX7_fact_38 : decode cX7_fact 38 = .ok (.getfield 31, 3) := by decide +kernel
theorem dX7_fact_41 : decode cX7_fact 41 = .ok (.if_icmp .ge 15, 3) := by decide +kernel
theorem dX7_fact_44 : decode cX7_fact 44 = .ok (.aload_n 0, 1) := by decide +kernel
theorem dX7_fact_45 : decode cX7_fact 45 = .ok (.aload_n 0, 1) := by decide +kernel
theorem dX7_fact_46 : decode cX7_fact 46 = .ok (.getfield 24, 3) := by decide +kernel
theorem dX7_fact_49 : decode cX7_fact 49 = .ok (.iload_n 3, 1) := by decide +kernel
theorem dX7_fact_50 : decode cX7_fact 50 = .ok (.iconst 1, 1) := by decide +kernel
theorem dX7_fact_51 : decode cX7_fact 51 = .ok (.iload_n 2, 1) := by decide +kernel
theorem dX7_fact_52 : decode cX7_fact 52 = .ok (.invokevirtual 45, 3) := by decide +kernel
theorem dX7_fact_55 : decode cX7_fact 55 = .ok (.ireturn, 1) := by decide +kernel
theorem dX7_fact_56 : decode cX7_fact 56 = .ok (.aload_n 0, 1) := by decide +kernel
theorem dX7_fact_57 : decode cX7_fact 57 = .ok (.aload_n 0, 1) := by decide +kernel
theorem dX7_fact_58 : decode cX7_fact 58 = .ok (.getfield 24, 3) := by decide +kernel
theorem dX7_fact_61 : decode cX7_fact 61 = .ok (.iload_n 3, 1) := by decide +kernel
theorem dX7_fact_62 : decode cX7_fact 62 = .ok (.aload_n 0, 1) := by decide +kernel
theorem dX7_fact_63 : decode cX7_fact 63 = .ok (.getfield 24, 3) := by decide +kernel
theorem dX7_fact_66 : decode cX7_fact 66 = .ok (.getfield 31, 3) := by decide +kernel
theorem dX7_fact_69 : decode cX7_fact 69 = .ok (.isub, 1) := by decide +kernel
theorem dX7_fact_70 : decode cX7_fact 70 = .ok (.iconst 2, 1) := by decide +kernel
theorem dX7_fact_71 : decode cX7_fact 71 = .ok (.iload_n 2, 1) := by decide +kernel
theorem dX7_fact_72 : decode cX7_fact 72 = .ok (.invokevirtual 45, 3) := by decide +kernel
theorem dX7_fact_75 : decode cX7_fact 75 = .ok (.ireturn, 1) := by decide +kernel
theorem dX7_factOf_0 : decode cX7_factOf 0 = .ok (.iload 4, 2) := by decide +kernel
theorem dX7_factOf_2 : decode cX7_factOf 2 = .ok (.tableswitch 42 0 2 #[26, 33, 35], 26) := by decide +kernel
theorem dX7_factOf_28 : decode cX7_factOf 28 = .ok (.aload_n 1, 1) := by decide +kernel
theorem dX7_factOf_29 : decode cX7_factOf 29 = .ok (.getfield 49, 3) := by decide +kernel
theorem dX7_factOf_32 : decode cX7_factOf 32 = .ok (.iload_n 2, 1) := by decide +kernel
theorem dX7_factOf_33 : decode cX7_factOf 33 = .ok (.iaload, 1) := by decide +kernel
theorem dX7_factOf_34 : decode cX7_factOf 34 = .ok (.ireturn, 1) := by decide +kernel
theorem dX7_factOf_35 : decode cX7_factOf 35 = .ok (.iload_n 3, 1) := by decide +kernel
theorem dX7_factOf_36 : decode cX7_factOf 36 = .ok (.ireturn, 1) := by decide +kernel
theorem dX7_factOf_37 : decode cX7_factOf 37 = .ok (.aload_n 1, 1) := by decide +kernel
theorem dX7_factOf_38 : decode cX7_factOf 38 = .ok (.getfield 52, 3) := by decide +kernel
theorem dX7_factOf_41 : decode cX7_factOf 41 = .ok (.iload_n 2, 1) := by decide +kernel
theorem dX7_factOf_42 : decode cX7_factOf 42 = .ok (.iaload, 1) := by decide +kernel
theorem dX7_factOf_43 : decode cX7_factOf 43 = .ok (.ireturn, 1) := by decide +kernel
theorem dX7_factOf_44 : decode cX7_factOf 44 = .ok (.aload_n 0, 1) := by decide +kernel
theorem dX7_factOf_45 : decode cX7_factOf 45 = .ok (.getfield 27, 3) := by decide +kernel
theorem dX7_factOf_48 : decode cX7_factOf 48 = .ok (.aload_n 1, 1) := by decide +kernel
theorem dX7_factOf_49 : decode cX7_factOf 49 = .ok (.getfield 49, 3) := by decide +kernel
theorem dX7_factOf_52 : decode cX7_factOf 52 = .ok (.iload_n 2, 1) := by decide +kernel
theorem dX7_factOf_53 : decode cX7_factOf 53 = .ok (.iaload, 1) := by decide +kernel
theorem dX7_factOf_54 : decode cX7_factOf 54 = .ok (.iaload, 1) := by decide +kernel
theorem dX7_factOf_55 : decode cX7_factOf 55 = .ok (.ireturn, 1) := by decide +kernel
theorem dX8_init_0 : decode cX8_init 0 = .ok (.aload_n 0, 1) := by decide +kernel
theorem dX8_init_1 : decode cX8_init 1 = .ok (.invokespecial 3, 3) := by decide +kernel
theorem dX8_init_4 : decode cX8_init 4 = .ok (.aload_n 0, 1) := by decide +kernel
theorem dX8_init_5 : decode cX8_init 5 = .ok (.bipush 6, 2) := by decide +kernel
theorem dX8_init_7 : decode cX8_init 7 = .ok (.anewarray 9, 3) := by decide +kernel
theorem dX8_init_10 : decode cX8_init 10 = .ok (.putfield 11, 3) := by decide +kernel
theorem dX8_init_13 : decode cX8_init 13 = .ok (.aload_n 0, 1) := by decide +kernel
theorem dX8_init_14 : decode cX8_init 14 = .ok (.new 17, 3) := by decide +kernel
theorem dX8_init_17 : decode cX8_init 17 = .ok (.dup, 1) := by decide +kernel
theorem dX8_init_18 : decode cX8_init 18 = .ok (.invokespecial 19, 3) := by decide +kernel
theorem dX8_init_21 : decode cX8_init 21 = .ok (.putfield 20, 3) := by decide +kernel
theorem dX8_init_24 : decode cX8_init 24 = .ok (.aload_n 0, 1) := by decide +kernel
theorem dX8_init_25 : decode cX8_init 25 = .ok (.iconst 4, 1) := by decide +kernel
theorem dX8_init_26 : decode cX8_init 26 = .ok (.newarray .int, 2) := by decide +kernel
theorem dX8_init_28 : decode cX8_init 28 = .ok (.putfield 24, 3) := by decide +kernel
theorem dX8_init_31 : decode cX8_init 31 = .ok (.aload_n 0, 1) := by decide +kernel
theorem dX8_init_32 : decode cX8_init 32 = .ok (.new 28, 3) := by decide +kernel
theorem dX8_init_35 : decode cX8_init 35 = .ok (.dup, 1) := by decide +kernel
theorem dX8_init_36 : decode cX8_init 36 = .ok (.invokespecial 30, 3) := by decide +kernel
theorem dX8_init_39 : decode cX8_init 39 = .ok (.putfield 31, 3) := by decide +kernel
theorem dX8_init_42 : decode cX8_init 42 = .ok (.aload_n 0, 1) := by decide +kernel
theorem dX8_init_43 : decode cX8_init 43 = .ok (.bipush 6, 2) := by decide +kernel
theorem dX8_init_45 : decode cX8_init 45 = .ok (.newarray .int, 2) := by decide +kernel
theorem dX8_init_47 : decode cX8_init 47 = .ok (.putfield 35, 3) := by decide +kernel
theorem dX8_init_50 : decode cX8_init 50 = .ok (.aload_n 0, 1) := by decide +kernel
theorem dX8_init_51 : decode cX8_init 51 = .ok (.new 38, 3) := by decide +kernel
theorem dX8_init_54 : decode cX8_init 54 = .ok (.dup, 1) := by decide +kernel
theorem dX8_init_55 : decode cX8_init 55 = .ok (.invokespecial 40, 3) := by decide +kernel
theorem dX8_init_58 : decode cX8_init 58 = .ok (.putfield 41, 3) := by decide +kernel
theorem dX8_init_61 : decode cX8_init 61 = .ok (.aload_n 0, 1) := by decide +kernel
theorem dX8_init_62 : decode cX8_init 62 = .ok (.new 38, 3) := by decide +kernel
theorem dX8_init_65 : decode cX8_init 65 = .ok (.dup, 1) := by decide +kernel
theorem dX8_init_66 : decode cX8_init 66 = .ok (.invokespecial 40, 3) := by decide +kernel
theorem dX8_init_69 : decode cX8_init 69 = .ok (.putfield 45, 3) := by decide +kernel
theorem dX8_init_72 : decode cX8_init 72 = .ok (.iconst 0, 1) := by decide +kernel
theorem dX8_init_73 : decode cX8_init 73 = .ok (.istore_n 1, 1) := by decide +kernel
theorem dX8_init_74 : decode cX8_init 74 = .ok (.iload_n 1, 1) := by decide +kernel
theorem dX8_init_75 : decode cX8_init 75 = .ok (.bipush 6, 2) := by decide +kernel
theorem dX8_init_77 : decode cX8_init 77 = .ok (.if_icmp .ge 22, 3) := by decide +kernel
theorem dX8_init_80 : decode cX8_init 80 = .ok (.aload_n 0, 1) := by decide +kernel
theorem dX8_init_81 : decode cX8_init 81 = .ok (.getfield 11, 3) := by decide +kernel
theorem dX8_init_84 : decode cX8_init 84 = .ok (.iload_n 1, 1) := by decide +kernel
theorem dX8_init_85 : decode cX8_init 85 = .ok (.new 9, 3) := by decide +kernel
theorem dX8_init_88 : decode cX8_init 88 = .ok (.dup, 1) := by decide +kernel
theorem dX8_init_89 : decode cX8_init 89 = .ok (.invokespecial 48, 3) := by decide +kernel
theorem dX8_init_92 : decode cX8_init 92 = .ok (.aastore, 1) := by decide +kernel
theorem dX8_init_93 : decode cX8_init 93 = .ok (.iinc 1 1, 3) := by decide +kernel
theorem dX8_init_96 : decode cX8_init 96 = .ok (.goto (-22), 3) := by decide +kernel
theorem dX8_init_99 : decode cX8_init 99 = .ok (.return_, 1) := by decide +kernel
theorem dX8_sawThrough_0 : decode cX8_sawThrough 0 = .ok (.bipush 10, 2) := by decide +kernel
theorem dX8_sawThrough_2 : decode cX8_sawThrough 2 = .ok (.iload_n 1, 1) := by decide +kernel
theorem dX8_sawThrough_3 : decode cX8_sawThrough 3 = .ok (.imul, 1) := by decide +kernel
theorem dX8_sawThrough_4 : decode cX8_sawThrough 4 = .ok (.istore_n 3, 1) := by decide +kernel
theorem dX8_sawThrough_5 : decode cX8_sawThrough 5 = .ok (.aload_n 0, 1) := by decide +kernel
theorem dX8_sawThrough_6 : decode cX8_sawThrough 6 = .ok (.iload_n 3, 1) := by decide +kernel
theorem dX8_sawThrough_7 : decode cX8_sawThrough 7 = .ok (.iload_n 2, 1) := by decide +kernel
theorem dX8_sawThrough_8 : decode cX8_sawThrough 8 = .ok (.invokevirtual 49, 3) := by decide +kernel
theorem dX8_sawThrough_11 : decode cX8_sawThrough 11 = .ok (.aload_n 0, 1) := by decide +kernel
theorem dX8_sawThrough_12 : decode cX8_sawThrough 12 = .ok (.invokevirtual 53, 3) := by decide +kernel
theorem dX8_sawThrough_15 : decode cX8_sawThrough 15 = .ok (.aload_n 0, 1) := by decide +kernel
theorem dX8_sawThrough_16 : decode cX8_sawThrough 16 = .ok (.invokevirtual 56, 3) := by decide +kernel
theorem dX8_sawThrough_19 : decode cX8_sawThrough 19 = .ok (.iconst 0, 1) := by decide +kernel
theorem dX8_sawThrough_20 : decode cX8_sawThrough 20 = .ok (.istore 4, 2) := by decide +kernel
theorem dX8_sawThrough_22 : decode cX8_sawThrough 22 = .ok (.iload 4, 2) := by decide +kernel
theorem dX8_sawThrough_24 : decode cX8_sawThrough 24 = .ok (.iconst 4, 1) := by decide +kernel
theorem dX8_sawThrough_25 : decode cX8_sawThrough 25 = .ok (.if_icmp .ge 52, 3) := by decide +kernel
theorem dX8_sawThrough_28 : decode cX8_sawThrough 28 = .ok (.aload_n 0, 1) := by decide +kernel
theorem dX8_sawThrough_29 : decode cX8_sawThrough 29 = .ok (.getfield 24, 3) := by decide +kernel
theorem dX8_sawThrough_32 : decode cX8_sawThrough 32 = .ok (.iload 4, 2) := by decide +kernel
theorem dX8_sawThrough_34 : decode cX8_sawThrough 34 = .ok (.iaload, 1) := by decide +kernel
theorem dX8_sawThrough_35 : decode cX8_sawThrough 35 = .ok (.ifCond .le 36, 3) := by decide +kernel
theorem dX8_sawThrough_38 : decode cX8_sawThrough 38 = .ok (.aload_n 0, 1) := by decide +kernel
theorem dX8_sawThrough_39 : decode cX8_sawThrough 39 = .ok (.aload_n 0, 1) := by decide +kernel
theorem dX8_sawThrough_40 : decode cX8_sawThrough 40 = .ok (.getfield 24, 3) := by decide +kernel
theorem dX8_sawThrough_43 : decode cX8_sawThrough 43 = .ok (.iload 4, 2) := by decide +kernel
theorem dX8_sawThrough_45 : decode cX8_sawThrough 45 = .ok (.iaload, 1) := by decide +kernel
theorem dX8_sawThrough_46 : decode cX8_sawThrough 46 = .ok (.iload_n 3, 1) := by decide +kernel
theorem dX8_sawThrough_47 : decode cX8_sawThrough 47 = .ok (.invokevirtual 59, 3) := by decide +kernel
theorem dX8_sawThrough_50 : decode cX8_sawThrough 50 = .ok (.ifCond .eq 21, 3) := by decide +kernel
theorem dX8_sawThrough_53 : decode cX8_sawThrough 53 = .ok (.aload_n 0, 1) := by decide +kernel
theorem dX8_sawThrough_54 : decode cX8_sawThrough 54 = .ok (.getfield 45, 3) := by decide +kernel
theorem dX8_sawThrough_57 : decode cX8_sawThrough 57 = .ok (.aload_n 0, 1) := by decide +kernel
theorem dX8_sawThrough_58 : decode cX8_sawThrough 58 = .ok (.getfield 41, 3) := by decide +kernel
theorem dX8_sawThrough_61 : decode cX8_sawThrough 61 = .ok (.invokevirtual 63, 3) := by decide +kernel
theorem dX8_sawThrough_64 : decode cX8_sawThrough 64 = .ok (.ifCond .eq 7, 3) := by decide +kernel
theorem dX8_sawThrough_67 : decode cX8_sawThrough 67 = .ok (.aload_n 0, 1) := by decide +kernel
theorem dX8_sawThrough_68 : decode cX8_sawThrough 68 = .ok (.invokevirtual 56, 3) := by decide +kernel
theorem dX8_sawThrough_71 : decode cX8_sawThrough 71 = .ok (.iinc 4 1, 3) := by decide +kernel
theorem dX8_sawThrough_74 : decode cX8_sawThrough 74 = .ok (.goto (-52), 3) := by decide +kernel
theorem dX8_sawThrough_77 : decode cX8_sawThrough 77 = .ok (.iconst 0, 1) := by decide +kernel
theorem dX8_sawThrough_78 : decode cX8_sawThrough 78 = .ok (.istore 4, 2) := by decide +kernel
theorem dX8_sawThrough_80 : decode cX8_sawThrough 80 = .ok (.iload 4, 2) := by decide +kernel
theorem dX8_sawThrough_82 : decode cX8_sawThrough 82 = .ok (.bipush 6, 2) := by decide +kernel
theorem dX8_sawThrough_84 : decode cX8_sawThrough 84 = .ok (.if_icmp .ge 47, 3) := by decide +kernel
theorem dX8_sawThrough_87 : decode cX8_sawThrough 87 = .ok (.aload_n 0, 1) := by decide +kernel
theorem dX8_sawThrough_88 : decode cX8_sawThrough 88 = .ok (.getfield 41, 3) := by decide +kernel
theorem dX8_sawThrough_91 : decode cX8_sawThrough 91 = .ok (.getfield 67, 3) := by decide +kernel
theorem dX8_sawThrough_94 : decode cX8_sawThrough 94 = .ok (.iload 4, 2) := by decide +kernel
theorem dX8_sawThrough_96 : decode cX8_sawThrough 96 = .ok (.aload_n 0, 1) := by decide +kernel
theorem dX8_sawThrough_97 : decode cX8_sawThrough 97 = .ok (.getfield 31, 3) := by decide +kernel
theorem dX8_sawThrough_100 : decode cX8_sawThrough 100 = .ok (.getfield 70, 3) := by decide +kernel
theorem dX8_sawThrough_103 : decode cX8_sawThrough 103 = .ok (.iload 4, 2) := by decide +kernel
theorem dX8_sawThrough_105 : decode cX8_sawThrough 105 = .ok (.iaload, 1) := by decide +kernel
theorem dX8_sawThrough_106 : decode cX8_sawThrough 106 = .ok (.iastore, 1) := by decide +kernel
theorem dX8_sawThrough_107 : decode cX8_sawThrough 107 = .ok (.aload_n 0, 1) := by decide +kernel
theorem dX8_sawThrough_108 : decode cX8_sawThrough 108 = .ok (.getfield 20, 3) := by decide +kernel
theorem dX8_sawThrough_111 : decode cX8_sawThrough 111 = .ok (.iload 4, 2) := by decide +kernel
theorem dX8_sawThrough_113 : decode cX8_sawThrough 113 = .ok (.aload_n 0, 1) := by decide +kernel
theorem dX8_sawThrough_114 : decode cX8_sawThrough 114 = .ok (.getfield 41, 3) := by decide +kernel
theorem dX8_sawThrough_117 : decode cX8_sawThrough 117 = .ok (.iload 4, 2) := by decide +kernel
theorem dX8_sawThrough_119 : decode cX8_sawThrough 119 = .ok (.invokevirtual 71, 3) := by decide +kernel
theorem dX8_sawThrough_122 : decode cX8_sawThrough 122 = .ok (.invokevirtual 75, 3) := by decide +kernel
theorem dX8_sawThrough_125 : decode cX8_sawThrough 125 = .ok (.iinc 4 1, 3) := by decide +kernel
theorem dX8_sawThrough_128 : decode cX8_sawThrough 128 = .ok (.goto (-48), 3) := by decide +kernel
theorem dX8_sawThrough_131 : decode cX8_sawThrough 131 = .ok (.aload_n 0, 1) := by decide +kernel
theorem dX8_sawThrough_132 : decode cX8_sawThrough 132 = .ok (.getfield 41, 3) := by decide +kernel
theorem dX8_sawThrough_135 : decode cX8_sawThrough 135 = .ok (.getfield 78, 3) := by decide +kernel
theorem dX8_sawThrough_138 : decode cX8_sawThrough 138 = .ok (.ireturn, 1) := by decide +kernel
theorem dX8_prepare_0 : decode cX8_prepare 0 = .ok (.iconst 0, 1) := by decide +kernel
theorem dX8_prepare_1 : decode cX8_prepare 1 = .ok (.istore_n 3, 1) := by decide +kernel
theorem dX8_prepare_2 : decode cX8_prepare 2 = .ok (.iload_n 3, 1) := by decide +kernel
theorem dX8_prepare_3 : decode cX8_prepare 3 = .ok (.bipush 6, 2) := by decide +kernel
theorem dX8_prepare_5 : decode cX8_prepare 5 = .ok (.if_icmp .ge 90, 3) := by decide +kernel
theorem dX8_prepare_8 : decode cX8_prepare 8 = .ok (.aload_n 0, 1) := by decide +kernel
theorem dX8_prepare_9 : decode cX8_prepare 9 = .ok (.getfield 11, 3) := by decide +kernel
theorem dX8_prepare_12 : decode cX8_prepare 12 = .ok (.iload_n 3, 1) := by decide +kernel
theorem dX8_prepare_13 : decode cX8_prepare 13 = .ok (.aaload, 1) := by decide +kernel
theorem dX8_prepare_14 : decode cX8_prepare 14 = .ok (.astore 4, 2) := by decide +kernel
theorem dX8_prepare_16 : decode cX8_prepare 16 = .ok (.aload_n 0, 1) := by decide +kernel
theorem dX8_prepare_17 : decode cX8_prepare 17 = .ok (.getfield 31, 3) := by decide +kernel
theorem dX8_prepare_20 : decode cX8_prepare 20 = .ok (.getfield 82, 3) := by decide +kernel
theorem dX8_prepare_23 : decode cX8_prepare 23 = .ok (.iload_n 3, 1) := by decide +kernel
theorem dX8_prepare_24 : decode cX8_prepare 24 = .ok (.aload 4, 2) := by decide +kernel
theorem dX8_prepare_26 : decode cX8_prepare 26 = .ok (.getfield 85, 3) := by decide +kernel
theorem dX8_prepare_29 : decode cX8_prepare 29 = .ok (.aload_n 0, 1) := by decide +kernel
theorem dX8_prepare_30 : decode cX8_prepare 30 = .ok (.getfield 88, 3) := by decide +kernel
theorem dX8_prepare_33 : decode cX8_prepare 33 = .ok (.iadd, 1) := by decide +kernel
theorem dX8_prepare_34 : decode cX8_prepare 34 = .ok (.iastore, 1) := by decide +kernel
theorem dX8_prepare_35 : decode cX8_prepare 35 = .ok (.aload_n 0, 1) := by decide +kernel
theorem dX8_prepare_36 : decode cX8_prepare 36 = .ok (.getfield 31, 3) := by decide +kernel
theorem dX8_prepare_39 : decode cX8_prepare 39 = .ok (.getfield 70, 3) := by decide +kernel
theorem dX8_prepare_42 : decode cX8_prepare 42 = .ok (.iload_n 3, 1) := by decide +kernel
theorem dX8_prepare_43 : decode cX8_prepare 43 = .ok (.aload 4, 2) := by decide +kernel
theorem dX8_prepare_45 : decode cX8_prepare 45 = .ok (.invokevirtual 91, 3) := by decide +kernel
theorem dX8_prepare_48 : decode cX8_prepare 48 = .ok (.ifCond .eq 24, 3) := by decide +kernel
theorem dX8_prepare_51 : decode cX8_prepare 51 = .ok (.aload 4, 2) := by decide +kernel
theorem dX8_prepare_53 : decode cX8_prepare 53 = .ok (.getfield 95, 3) := by decide +kernel
theorem dX8_prepare_56 : decode cX8_prepare 56 = .ok (.iload_n 2, 1) := by decide +kernel
theorem dX8_prepare_57 : decode cX8_prepare 57 = .ok (.iconst 1, 1) := by decide +kernel
theorem dX8_prepare_58 : decode cX8_prepare 58 = .ok (.isub, 1) := by decide +kernel
theorem dX8_prepare_59 : decode cX8_prepare 59 = .ok (.iaload, 1) := by decide +kernel
theorem dX8_prepare_60 : decode cX8_prepare 60 = .ok (.aload_n 0, 1) := by decide +kernel
theorem dX8_prepare_61 : decode cX8_prepare 61 = .ok (.getfield 20, 3) := by decide +kernel
theorem dX8_prepare_64 : decode cX8_prepare 64 = .ok (.iload_n 3, 1) := by decide +kernel
theorem dX8_prepare_65 : decode cX8_prepare 65 = .ok (.invokevirtual 96, 3) := by decide +kernel
theorem dX8_prepare_68 : decode cX8_prepare 68 = .ok (.iadd, 1) := by decide +kernel
theorem dX8_prepare_69 : decode cX8_prepare 69 = .ok (.goto 4, 3) := by decide +kernel
theorem dX8_prepare_72 : decode cX8_prepare 72 = .ok (.iconst 0, 1) := by decide +kernel
theorem dX8_prepare_73 : decode cX8_prepare 73 = .ok (.iastore, 1) := by decide +kernel
theorem dX8_prepare_74 : decode cX8_prepare 74 = .ok (.aload_n 0, 1) := by decide +kernel
theorem dX8_prepare_75 : decode cX8_prepare 75 = .ok (.getfield 35, 3) := by decide +kernel
theorem dX8_prepare_78 : decode cX8_prepare 78 = .ok (.iload_n 3, 1) := by decide +kernel
theorem dX8_prepare_79 : decode cX8_prepare 79 = .ok (.iload_n 1, 1) := by decide +kernel
theorem dX8_prepare_80 : decode cX8_prepare 80 = .ok (.aload 4, 2) := by decide +kernel
theorem dX8_prepare_82 : decode cX8_prepare 82 = .ok (.getfield 99, 3) := by decide +kernel
theorem dX8_prepare_85 : decode cX8_prepare 85 = .ok (.invokestatic 102, 3) := by decide +kernel
theorem dX8_prepare_88 : decode cX8_prepare 88 = .ok (.iastore, 1) := by decide +kernel
theorem dX8_prepare_89 : decode cX8_prepare 89 = .ok (.iinc 3 1, 3) := by decide +kernel
theorem dX8_prepare_92 : decode cX8_prepare 92 = .ok (.goto (-90), 3) := by decide +kernel
theorem dX8_prepare_95 : decode cX8_prepare 95 = .ok (.return_, 1) := by decide +kernel
theorem dX8_tryWithoutCant_0 : decode cX8_tryWithoutCant 0 = .ok (.aload_n 0, 1) := by decide +kernel
theorem dX8_tryWithoutCant_1 : decode cX8_tryWithoutCant 1 = .ok (.getfield 45, 3) := by decide +kernel
theorem dX8_tryWithoutCant_4 : decode cX8_tryWithoutCant 4 = .ok (.iconst (-1), 1) := by decide +kernel
theorem dX8_tryWithoutCant_5 : decode cX8_tryWithoutCant 5 = .ok (.putfield 106, 3) := by decide +kernel
theorem dX8_tryWithoutCant_8 : decode cX8_tryWithoutCant 8 = .ok (.aload_n 0, 1) := by decide +kernel
theorem dX8_tryWithoutCant_9 : decode cX8_tryWithoutCant 9 = .ok (.getfield 45, 3) := by decide +kernel
theorem dX8_tryWithoutCant_12 : decode cX8_tryWithoutCant 12 = .ok (.getfield 109, 3) := by decide +kernel
theorem dX8_tryWithoutCant_15 : decode cX8_tryWithoutCant 15 = .ok (.iconst 0, 1) := by decide +kernel
theorem dX8_tryWithoutCant_16 : decode cX8_tryWithoutCant 16 = .ok (.putfield 113, 3) := by decide +kernel
theorem dX8_tryWithoutCant_19 : decode cX8_tryWithoutCant 19 = .ok (.aload_n 0, 1) := by decide +kernel
theorem dX8_tryWithoutCant_20 : decode cX8_tryWithoutCant 20 = .ok (.getfield 45, 3) := by decide +kernel
theorem dX8_tryWithoutCant_23 : decode cX8_tryWithoutCant 23 = .ok (.aload_n 0, 1) := by decide +kernel
theorem dX8_tryWithoutCant_24 : decode cX8_tryWithoutCant 24 = .ok (.bipush (-2), 2) := by decide +kernel
theorem dX8_tryWithoutCant_26 : decode cX8_tryWithoutCant 26 = .ok (.aload_n 0, 1) := by decide +kernel
theorem dX8_tryWithoutCant_27 : decode cX8_tryWithoutCant 27 = .ok (.getfield 88, 3) := by decide +kernel
theorem dX8_tryWithoutCant_30 : decode cX8_tryWithoutCant 30 = .ok (.imul, 1) := by decide +kernel
theorem dX8_tryWithoutCant_31 : decode cX8_tryWithoutCant 31 = .ok (.invokevirtual 118, 3) := by decide +kernel
theorem dX8_tryWithoutCant_34 : decode cX8_tryWithoutCant 34 = .ok (.putfield 78, 3) := by decide +kernel
theorem dX8_tryWithoutCant_37 : decode cX8_tryWithoutCant 37 = .ok (.return_, 1) := by decide +kernel
theorem dX8_tryHeight_0 : decode cX8_tryHeight 0 = .ok (.iload_n 2, 1) := by decide +kernel
theorem dX8_tryHeight_1 : decode cX8_tryHeight 1 = .ok (.iload_n 1, 1) := by decide +kernel
theorem dX8_tryHeight_2 : decode cX8_tryHeight 2 = .ok (.invokestatic 102, 3) := by decide +kernel
theorem dX8_tryHeight_5 : decode cX8_tryHeight 5 = .ok (.istore_n 3, 1) := by decide +kernel
theorem dX8_tryHeight_6 : decode cX8_tryHeight 6 = .ok (.iconst 0, 1) := by decide +kernel
theorem dX8_tryHeight_7 : decode cX8_tryHeight 7 = .ok (.istore 4, 2) := by decide +kernel
theorem dX8_tryHeight_9 : decode cX8_tryHeight 9 = .ok (.iload 4, 2) := by decide +kernel
theorem dX8_tryHeight_11 : decode cX8_tryHeight 11 = .ok (.bipush 6, 2) := by decide +kernel
theorem dX8_tryHeight_13 : decode cX8_tryHeight 13 = .ok (.if_icmp .ge 73, 3) := by decide +kernel
theorem dX8_tryHeight_16 : decode cX8_tryHeight 16 = .ok (.aload_n 0, 1) := by decide +kernel
theorem dX8_tryHeight_17 : decode cX8_tryHeight 17 = .ok (.getfield 11, 3) := by decide +kernel
theorem dX8_tryHeight_20 : decode cX8_tryHeight 20 = .ok (.iload 4, 2) := by decide +kernel
theorem dX8_tryHeight_22 : decode cX8_tryHeight 22 = .ok (.aaload, 1) := by decide +kernel
theorem dX8_tryHeight_23 : decode cX8_tryHeight 23 = .ok (.getfield 99, 3) := by decide +kernel
theorem dX8_tryHeight_26 : decode cX8_tryHeight 26 = .ok (.iload_n 1, 1) := by decide +kernel
theorem dX8_tryHeight_27 : decode cX8_tryHeight 27 = .ok (.if_icmp .ne 25, 3) := by decide +kernel
theorem dX8_tryHeight_30 : decode cX8_tryHeight 30 = .ok (.aload_n 0, 1) := by decide +kernel
theorem dX8_tryHeight_31 : decode cX8_tryHeight 31 = .ok (.getfield 31, 3) := by decide +kernel
theorem dX8_tryHeight_34 : decode cX8_tryHeight 34 = .ok (.getfield 70, 3) := by decide +kernel
theorem dX8_tryHeight_37 : decode cX8_tryHeight 37 = .ok (.iload 4, 2) := by decide +kernel
theorem dX8_tryHeight_39 : decode cX8_tryHeight 39 = .ok (.iaload, 1) := by decide +kernel
theorem dX8_tryHeight_40 : decode cX8_tryHeight 40 = .ok (.ifCond .le 12, 3) := by decide +kernel
theorem dX8_tryHeight_43 : decode cX8_tryHeight 43 = .ok (.iload_n 3, 1) := by decide +kernel
theorem dX8_tryHeight_44 : decode cX8_tryHeight 44 = .ok (.iconst (-1), 1) := by decide +kernel
theorem dX8_tryHeight_45 : decode cX8_tryHeight 45 = .ok (.if_icmp .eq 7, 3) := by decide +kernel
theorem dX8_tryHeight_48 : decode cX8_tryHeight 48 = .ok (.iconst 1, 1) := by decide +kernel
theorem dX8_tryHeight_49 : decode cX8_tryHeight 49 = .ok (.goto 4, 3) := by decide +kernel
theorem dX8_tryHeight_52 : decode cX8_tryHeight 52 = .ok (.iconst 0, 1) := by decide +kernel
theorem dX8_tryHeight_53 : decode cX8_tryHeight 53 = .ok (.istore 5, 2) := by decide +kernel
theorem dX8_tryHeight_55 : decode cX8_tryHeight 55 = .ok (.aload_n 0, 1) := by decide +kernel
theorem dX8_tryHeight_56 : decode cX8_tryHeight 56 = .ok (.getfield 31, 3) := by decide +kernel
theorem dX8_tryHeight_59 : decode cX8_tryHeight 59 = .ok (.getfield 121, 3) := by decide +kernel
theorem dX8_tryHeight_62 : decode cX8_tryHeight 62 = .ok (.iload 4, 2) := by decide +kernel
theorem dX8_tryHeight_64 : decode cX8_tryHeight 64 = .ok (.iload 5, 2) := by decide +kernel
theorem dX8_tryHeight_66 : decode cX8_tryHeight 66 = .ok (.ifCond .eq 12, 3) := by decide +kernel
theorem dX8_tryHeight_69 : decode cX8_tryHeight 69 = .ok (.iload_n 3, 1) := by decide +kernel
theorem dX8_tryHeight_70 : decode cX8_tryHeight 70 = .ok (.aload_n 0, 1) := by decide +kernel
theorem dX8_tryHeight_71 : decode cX8_tryHeight 71 = .ok (.getfield 88, 3) := by decide +kernel
theorem dX8_tryHeight_74 : decode cX8_tryHeight 74 = .ok (.iadd, 1) := by decide +kernel
theorem dX8_tryHeight_75 : decode cX8_tryHeight 75 = .ok (.goto 4, 3) := by decide +kernel
theorem dX8_tryHeight_78 : decode cX8_tryHeight 78 = .ok (.iconst (-1), 1) := by decide +kernel
theorem dX8_tryHeight_79 : decode cX8_tryHeight 79 = .ok (.iastore, 1) := by decide +kernel
theorem dX8_tryHeight_80 : decode cX8_tryHeight 80 = .ok (.iinc 4 1, 3) := by decide +kernel
theorem dX8_tryHeight_83 : decode cX8_tryHeight 83 = .ok (.goto (-74), 3) := by decide +kernel
theorem dX8_tryHeight_86 : decode cX8_tryHeight 86 = .ok (.aload_n 0, 1) := by decide +kernel
theorem dX8_tryHeight_87 : decode cX8_tryHeight 87 = .ok (.getfield 31, 3) := by decide +kernel
theorem dX8_tryHeight_90 : decode cX8_tryHeight 90 = .ok (.invokevirtual 124, 3) := by decide +kernel
theorem dX8_tryHeight_93 : decode cX8_tryHeight 93 = .ok (.istore 4, 2) := by decide +kernel
theorem dX8_tryHeight_95 : decode cX8_tryHeight 95 = .ok (.iload 4, 2) := by decide +kernel
theorem dX8_tryHeight_97 : decode cX8_tryHeight 97 = .ok (.ifCond .ne 5, 3) := by decide +kernel
theorem dX8_tryHeight_100 : decode cX8_tryHeight 100 = .ok (.iconst 0, 1) := by decide +kernel
theorem dX8_tryHeight_101 : decode cX8_tryHeight 101 = .ok (.ireturn, 1) := by decide +kernel
theorem dX8_tryHeight_102 : decode cX8_tryHeight 102 = .ok (.aload_n 0, 1) := by decide +kernel
theorem dX8_tryHeight_103 : decode cX8_tryHeight 103 = .ok (.getfield 31, 3) := by decide +kernel
theorem dX8_tryHeight_106 : decode cX8_tryHeight 106 = .ok (.aload_n 0, 1) := by decide +kernel
theorem dX8_tryHeight_107 : decode cX8_tryHeight 107 = .ok (.getfield 45, 3) := by decide +kernel
theorem dX8_tryHeight_110 : decode cX8_tryHeight 110 = .ok (.getfield 109, 3) := by decide +kernel
theorem dX8_tryHeight_113 : decode cX8_tryHeight 113 = .ok (.invokevirtual 128, 3) := by decide +kernel
theorem dX8_tryHeight_116 : decode cX8_tryHeight 116 = .ok (.aload_n 0, 1) := by decide +kernel
theorem dX8_tryHeight_117 : decode cX8_tryHeight 117 = .ok (.getfield 45, 3) := by decide +kernel
theorem dX8_tryHeight_120 : decode cX8_tryHeight 120 = .ok (.iload_n 1, 1) := by decide +kernel
theorem dX8_tryHeight_121 : decode cX8_tryHeight 121 = .ok (.putfield 106, 3) := by decide +kernel
theorem dX8_tryHeight_124 : decode cX8_tryHeight 124 = .ok (.aload_n 0, 1) := by decide +kernel
theorem dX8_tryHeight_125 : decode cX8_tryHeight 125 = .ok (.getfield 45, 3) := by decide +kernel
theorem dX8_tryHeight_128 : decode cX8_tryHeight 128 = .ok (.iload 4, 2) := by decide +kernel
theorem dX8_tryHeight_130 : decode cX8_tryHeight 130 = .ok (.iconst 2, 1) := by decide +kernel
theorem dX8_tryHeight_131 : decode cX8_tryHeight 131 = .ok (.aload_n 0, 1) := by decide +kernel
theorem dX8_tryHeight_132 : decode cX8_tryHeight 132 = .ok (.iload_n 1, 1) := by decide +kernel
theorem dX8_tryHeight_133 : decode cX8_tryHeight 133 = .ok (.invokevirtual 118, 3) := by decide +kernel
theorem dX8_tryHeight_136 : decode cX8_tryHeight 136 = .ok (.imul, 1) := by decide +kernel
theorem dX8_tryHeight_137 : decode cX8_tryHeight 137 = .ok (.iadd, 1) := by decide +kernel
theorem dX8_tryHeight_138 : decode cX8_tryHeight 138 = .ok (.putfield 78, 3) := by decide +kernel
theorem dX8_tryHeight_141 : decode cX8_tryHeight 141 = .ok (.iconst 1, 1) := by decide +kernel
theorem dX8_tryHeight_142 : decode cX8_tryHeight 142 = .ok (.ireturn, 1) := by decide +kernel
theorem dX8_stackFrom_0 : decode cX8_stackFrom 0 = .ok (.iconst 0, 1) := by decide +kernel
theorem dX8_stackFrom_1 : decode cX8_stackFrom 1 = .ok (.istore_n 2, 1) := by decide +kernel
theorem dX8_stackFrom_2 : decode cX8_stackFrom 2 = .ok (.iload_n 2, 1) := by decide +kernel
theorem dX8_stackFrom_3 : decode cX8_stackFrom 3 = .ok (.bipush 6, 2) := by decide +kernel
theorem dX8_stackFrom_5 : decode cX8_stackFrom 5 = .ok (.if_icmp .ge 74, 3) := by decide +kernel
theorem dX8_stackFrom_8 : decode cX8_stackFrom 8 = .ok (.aload_n 0, 1) := by decide +kernel
theorem dX8_stackFrom_9 : decode cX8_stackFrom 9 = .ok (.getfield 31, 3) := by decide +kernel
theorem dX8_stackFrom_12 : decode cX8_stackFrom 12 = .ok (.getfield 70, 3) := by decide +kernel
theorem dX8_stackFrom_15 : decode cX8_stackFrom 15 = .ok (.iload_n 2, 1) := by decide +kernel
theorem dX8_stackFrom_16 : decode cX8_stackFrom 16 = .ok (.iaload, 1) := by decide +kernel
theorem dX8_stackFrom_17 : decode cX8_stackFrom 17 = .ok (.ifCond .le 27, 3) := by decide +kernel
theorem dX8_stackFrom_20 : decode cX8_stackFrom 20 = .ok (.aload_n 0, 1) := by decide +kernel
theorem dX8_stackFrom_21 : decode cX8_stackFrom 21 = .ok (.getfield 35, 3) := by decide +kernel
theorem dX8_stackFrom_24 : decode cX8_stackFrom 24 = .ok (.iload_n 2, 1) := by decide +kernel
theorem dX8_stackFrom_25 : decode cX8_stackFrom 25 = .ok (.iaload, 1) := by decide +kernel
theorem dX8_stackFrom_26 : decode cX8_stackFrom 26 = .ok (.iconst (-1), 1) := by decide +kernel
theorem dX8_stackFrom_27 : decode cX8_stackFrom 27 = .ok (.if_icmp .eq 17, 3) := by decide +kernel
theorem dX8_stackFrom_30 : decode cX8_stackFrom 30 = .ok (.aload_n 0, 1) := by decide +kernel
theorem dX8_stackFrom_31 : decode cX8_stackFrom 31 = .ok (.getfield 35, 3) := by decide +kernel
theorem dX8_stackFrom_34 : decode cX8_stackFrom 34 = .ok (.iload_n 2, 1) := by decide +kernel
theorem dX8_stackFrom_35 : decode cX8_stackFrom 35 = .ok (.iaload, 1) := by decide +kernel
theorem dX8_stackFrom_36 : decode cX8_stackFrom 36 = .ok (.iload_n 1, 1) := by decide +kernel
theorem dX8_stackFrom_37 : decode cX8_stackFrom 37 = .ok (.if_icmp .lt 7, 3) := by decide +kernel
theorem dX8_stackFrom_40 : decode cX8_stackFrom 40 = .ok (.iconst 1, 1) := by decide +kernel
theorem dX8_stackFrom_41 : decode cX8_stackFrom 41 = .ok (.goto 4, 3) := by decide +kernel
theorem dX8_stackFrom_44 : decode cX8_stackFrom 44 = .ok (.iconst 0, 1) := by decide +kernel
theorem dX8_stackFrom_45 : decode cX8_stackFrom 45 = .ok (.istore_n 3, 1) := by decide +kernel
theorem dX8_stackFrom_46 : decode cX8_stackFrom 46 = .ok (.aload_n 0, 1) := by decide +kernel
theorem dX8_stackFrom_47 : decode cX8_stackFrom 47 = .ok (.getfield 31, 3) := by decide +kernel
theorem dX8_stackFrom_50 : decode cX8_stackFrom 50 = .ok (.getfield 121, 3) := by decide +kernel
theorem dX8_stackFrom_53 : decode cX8_stackFrom 53 = .ok (.iload_n 2, 1) := by decide +kernel
theorem dX8_stackFrom_54 : decode cX8_stackFrom 54 = .ok (.iload_n 3, 1) := by decide +kernel
theorem dX8_stackFrom_55 : decode cX8_stackFrom 55 = .ok (.ifCond .eq 16, 3) := by decide +kernel
theorem dX8_stackFrom_58 : decode cX8_stackFrom 58 = .ok (.aload_n 0, 1) := by decide +kernel
theorem dX8_stackFrom_59 : decode cX8_stackFrom 59 = .ok (.getfield 35, 3) := by decide +kernel
theorem dX8_stackFrom_62 : decode cX8_stackFrom 62 = .ok (.iload_n 2, 1) := by decide +kernel
theorem dX8_stackFrom_63 : decode cX8_stackFrom 63 = .ok (.iaload, 1) := by decide +kernel
theorem dX8_stackFrom_64 : decode cX8_stackFrom 64 = .ok (.iload_n 1, 1) := by decide +kernel
theorem dX8_stackFrom_65 : decode cX8_stackFrom 65 = .ok (.isub, 1) := by decide +kernel
theorem dX8_stackFrom_66 : decode cX8_stackFrom 66 = .ok (.iconst 2, 1) := by decide +kernel
theorem dX8_stackFrom_67 : decode cX8_stackFrom 67 = .ok (.idiv, 1) := by decide +kernel
theorem dX8_stackFrom_68 : decode cX8_stackFrom 68 = .ok (.goto 4, 3) := by decide +kernel
theorem dX8_stackFrom_71 : decode cX8_stackFrom 71 = .ok (.iconst (-1), 1) := by decide +kernel
theorem dX8_stackFrom_72 : decode cX8_stackFrom 72 = .ok (.iastore, 1) := by decide +kernel
theorem dX8_stackFrom_73 : decode cX8_stackFrom 73 = .ok (.iinc 2 1, 3) := by decide +kernel
theorem dX8_stackFrom_76 : decode cX8_stackFrom 76 = .ok (.goto (-74), 3) := by decide +kernel
theorem dX8_stackFrom_79 : decode cX8_stackFrom 79 = .ok (.aload_n 0, 1) := by decide +kernel
theorem dX8_stackFrom_80 : decode cX8_stackFrom 80 = .ok (.getfield 31, 3) := by decide +kernel
theorem dX8_stackFrom_83 : decode cX8_stackFrom 83 = .ok (.invokevirtual 124, 3) := by decide +kernel
theorem dX8_stackFrom_86 : decode cX8_stackFrom 86 = .ok (.istore_n 2, 1) := by decide +kernel
theorem dX8_stackFrom_87 : decode cX8_stackFrom 87 = .ok (.aload_n 0, 1) := by decide +kernel
theorem dX8_stackFrom_88 : decode cX8_stackFrom 88 = .ok (.getfield 45, 3) := by decide +kernel
theorem dX8_stackFrom_91 : decode cX8_stackFrom 91 = .ok (.getfield 132, 3) := by decide +kernel
theorem dX8_stackFrom_94 : decode cX8_stackFrom 94 = .ok (.astore_n 3, 1) := by decide +kernel
theorem dX8_stackFrom_95 : decode cX8_stackFrom 95 = .ok (.aload_n 0, 1) := by decide +kernel
theorem dX8_stackFrom_96 : decode cX8_stackFrom 96 = .ok (.getfield 31, 3) := by decide +kernel
theorem dX8_stackFrom_99 : decode cX8_stackFrom 99 = .ok (.aload_n 3, 1) := by decide +kernel
theorem dX8_stackFrom_100 : decode cX8_stackFrom 100 = .ok (.invokevirtual 128, 3) := by decide +kernel
theorem dX8_stackFrom_103 : decode cX8_stackFrom 103 = .ok (.iconst 0, 1) := by decide +kernel
theorem dX8_stackFrom_104 : decode cX8_stackFrom 104 = .ok (.istore 4, 2) := by decide +kernel
theorem dX8_stackFrom_106 : decode cX8_stackFrom 106 = .ok (.iload 4, 2) := by decide +kernel
theorem dX8_stackFrom_108 : decode cX8_stackFrom 108 = .ok (.aload_n 3, 1) := by decide +kernel
theorem dX8_stackFrom_109 : decode cX8_stackFrom 109 = .ok (.getfield 113, 3) := by decide +kernel
theorem dX8_stackFrom_112 : decode cX8_stackFrom 112 = .ok (.if_icmp .ge 43, 3) := by decide +kernel
theorem dX8_stackFrom_115 : decode cX8_stackFrom 115 = .ok (.aload_n 3, 1) := by decide +kernel
theorem dX8_stackFrom_116 : decode cX8_stackFrom 116 = .ok (.getfield 135, 3) := by decide +kernel
theorem dX8_stackFrom_119 : decode cX8_stackFrom 119 = .ok (.iload 4, 2) := by decide +kernel
theorem dX8_stackFrom_121 : decode cX8_stackFrom 121 = .ok (.iload_n 1, 1) := by decide +kernel
theorem dX8_stackFrom_122 : decode cX8_stackFrom 122 = .ok (.iconst 2, 1) := by decide +kernel
theorem dX8_stackFrom_123 : decode cX8_stackFrom 123 = .ok (.aload_n 3, 1) := by decide +kernel
theorem dX8_stackFrom_124 : decode cX8_stackFrom 124 = .ok (.getfield 135, 3) := by decide +kernel
theorem dX8_stackFrom_127 : decode cX8_stackFrom 127 = .ok (.iload 4, 2) := by decide +kernel
theorem dX8_stackFrom_129 : decode cX8_stackFrom 129 = .ok (.iaload, 1) := by decide +kernel
theorem dX8_stackFrom_130 : decode cX8_stackFrom 130 = .ok (.aload_n 0, 1) := by decide +kernel
theorem dX8_stackFrom_131 : decode cX8_stackFrom 131 = .ok (.getfield 31, 3) := by decide +kernel
theorem dX8_stackFrom_134 : decode cX8_stackFrom 134 = .ok (.getfield 82, 3) := by decide +kernel
theorem dX8_stackFrom_137 : decode cX8_stackFrom 137 = .ok (.aload_n 3, 1) := by decide +kernel
theorem dX8_stackFrom_138 : decode cX8_stackFrom 138 = .ok (.getfield 138, 3) := by decide +kernel
theorem dX8_stackFrom_141 : decode cX8_stackFrom 141 = .ok (.iload 4, 2) := by decide +kernel
theorem dX8_stackFrom_143 : decode cX8_stackFrom 143 = .ok (.iaload, 1) := by decide +kernel
theorem dX8_stackFrom_144 : decode cX8_stackFrom 144 = .ok (.iaload, 1) := by decide +kernel
theorem dX8_stackFrom_145 : decode cX8_stackFrom 145 = .ok (.iadd, 1) := by decide +kernel
theorem dX8_stackFrom_146 : decode cX8_stackFrom 146 = .ok (.imul, 1) := by decide +kernel
theorem dX8_stackFrom_147 : decode cX8_stackFrom 147 = .ok (.iadd, 1) := by decide +kernel
theorem dX8_stackFrom_148 : decode cX8_stackFrom 148 = .ok (.iastore, 1) := by decide +kernel
theorem dX8_stackFrom_149 : decode cX8_stackFrom 149 = .ok (.iinc 4 1, 3) := by decide +kernel
theorem dX8_stackFrom_152 : decode cX8_stackFrom 152 = .ok (.goto (-46), 3) := by decide +kernel
theorem dX8_stackFrom_155 : decode cX8_stackFrom 155 = .ok (.iload_n 2, 1) := by decide +kernel
theorem dX8_stackFrom_156 : decode cX8_stackFrom 156 = .ok (.ireturn, 1) := by decide +kernel
theorem dX8_keepTrial_0 : decode cX8_keepTrial 0 = .ok (.aload_n 0, 1) := by decide +kernel
theorem dX8_keepTrial_1 : decode cX8_keepTrial 1 = .ok (.getfield 45, 3) := by decide +kernel
theorem dX8_keepTrial_4 : decode cX8_keepTrial 4 = .ok (.astore_n 1, 1) := by decide +kernel
theorem dX8_keepTrial_5 : decode cX8_keepTrial 5 = .ok (.aload_n 0, 1) := by decide +kernel
theorem dX8_keepTrial_6 : decode cX8_keepTrial 6 = .ok (.aload_n 0, 1) := by decide +kernel
theorem dX8_keepTrial_7 : decode cX8_keepTrial 7 = .ok (.getfield 41, 3) := by decide +kernel
theorem dX8_keepTrial_10 : decode cX8_keepTrial 10 = .ok (.putfield 45, 3) := by decide +kernel
theorem dX8_keepTrial_13 : decode cX8_keepTrial 13 = .ok (.aload_n 0, 1) := by decide +kernel
theorem dX8_keepTrial_14 : decode cX8_keepTrial 14 = .ok (.aload_n 1, 1) := by decide +kernel
theorem dX8_keepTrial_15 : decode cX8_keepTrial 15 = .ok (.putfield 41, 3) := by decide +kernel
theorem dX8_keepTrial_18 : decode cX8_keepTrial 18 = .ok (.return_, 1) := by decide +kernel
theorem dX9_init_0 : decode cX9_init 0 = .ok (.aload_n 0, 1) := by decide +kernel
theorem dX9_init_1 : decode cX9_init 1 = .ok (.invokespecial 3, 3) := by decide +kernel
theorem dX9_init_4 : decode cX9_init 4 = .ok (.aload_n 0, 1) := by decide +kernel
theorem dX9_init_5 : decode cX9_init 5 = .ok (.iload_n 1, 1) := by decide +kernel
theorem dX9_init_6 : decode cX9_init 6 = .ok (.putfield 9, 3) := by decide +kernel
theorem dX9_init_9 : decode cX9_init 9 = .ok (.aload_n 0, 1) := by decide +kernel
theorem dX9_init_10 : decode cX9_init 10 = .ok (.iload_n 1, 1) := by decide +kernel
theorem dX9_init_11 : decode cX9_init 11 = .ok (.iconst 1, 1) := by decide +kernel
theorem dX9_init_12 : decode cX9_init 12 = .ok (.iadd, 1) := by decide +kernel
theorem dX9_init_13 : decode cX9_init 13 = .ok (.newarray .int, 2) := by decide +kernel
theorem dX9_init_15 : decode cX9_init 15 = .ok (.putfield 15, 3) := by decide +kernel
theorem dX9_init_18 : decode cX9_init 18 = .ok (.aload_n 0, 1) := by decide +kernel
theorem dX9_init_19 : decode cX9_init 19 = .ok (.iload_n 1, 1) := by decide +kernel
theorem dX9_init_20 : decode cX9_init 20 = .ok (.iconst 1, 1) := by decide +kernel
theorem dX9_init_21 : decode cX9_init 21 = .ok (.iadd, 1) := by decide +kernel
theorem dX9_init_22 : decode cX9_init 22 = .ok (.newarray .int, 2) := by decide +kernel
theorem dX9_init_24 : decode cX9_init 24 = .ok (.putfield 19, 3) := by decide +kernel
theorem dX9_init_27 : decode cX9_init 27 = .ok (.aload_n 0, 1) := by decide +kernel
theorem dX9_init_28 : decode cX9_init 28 = .ok (.iload_n 1, 1) := by decide +kernel
theorem dX9_init_29 : decode cX9_init 29 = .ok (.iconst 1, 1) := by decide +kernel
theorem dX9_init_30 : decode cX9_init 30 = .ok (.iadd, 1) := by decide +kernel
theorem dX9_init_31 : decode cX9_init 31 = .ok (.newarray .int, 2) := by decide +kernel
theorem dX9_init_33 : decode cX9_init 33 = .ok (.putfield 22, 3) := by decide +kernel
theorem dX9_init_36 : decode cX9_init 36 = .ok (.aload_n 0, 1) := by decide +kernel
theorem dX9_init_37 : decode cX9_init 37 = .ok (.iload_n 1, 1) := by decide +kernel
theorem dX9_init_38 : decode cX9_init 38 = .ok (.iconst 1, 1) := by decide +kernel
theorem dX9_init_39 : decode cX9_init 39 = .ok (.iadd, 1) := by decide +kernel
theorem dX9_init_40 : decode cX9_init 40 = .ok (.newarray .int, 2) := by decide +kernel
theorem dX9_init_42 : decode cX9_init 42 = .ok (.putfield 25, 3) := by decide +kernel
theorem dX9_init_45 : decode cX9_init 45 = .ok (.iconst 0, 1) := by decide +kernel
theorem dX9_init_46 : decode cX9_init 46 = .ok (.istore_n 2, 1) := by decide +kernel
theorem dX9_init_47 : decode cX9_init 47 = .ok (.iload_n 2, 1) := by decide +kernel
theorem dX9_init_48 : decode cX9_init 48 = .ok (.iload_n 1, 1) := by decide +kernel
theorem dX9_init_49 : decode cX9_init 49 = .ok (.if_icmp .gt 24, 3) := by decide +kernel
theorem dX9_init_52 : decode cX9_init 52 = .ok (.aload_n 0, 1) := by decide +kernel
theorem dX9_init_53 : decode cX9_init 53 = .ok (.getfield 15, 3) := by decide +kernel
theorem dX9_init_56 : decode cX9_init 56 = .ok (.iload_n 2, 1) := by decide +kernel
theorem dX9_init_57 : decode cX9_init 57 = .ok (.bipush 50, 2) := by decide +kernel
theorem dX9_init_59 : decode cX9_init 59 = .ok (.iastore, 1) := by decide +kernel
theorem dX9_init_60 : decode cX9_init 60 = .ok (.aload_n 0, 1) := by decide +kernel
theorem dX9_init_61 : decode cX9_init 61 = .ok (.getfield 19, 3) := by decide +kernel
theorem dX9_init_64 : decode cX9_init 64 = .ok (.iload_n 2, 1) := by decide +kernel
theorem dX9_init_65 : decode cX9_init 65 = .ok (.iconst 1, 1) := by decide +kernel
theorem dX9_init_66 : decode cX9_init 66 = .ok (.iastore, 1) := by decide +kernel
theorem dX9_init_67 : decode cX9_init 67 = .ok (.iinc 2 1, 3) := by decide +kernel
theorem dX9_init_70 : decode cX9_init 70 = .ok (.goto (-23), 3) := by decide +kernel
theorem dX9_init_73 : decode cX9_init 73 = .ok (.return_, 1) := by decide +kernel
theorem dX9_spoil_0 : decode cX9_spoil 0 = .ok (.aload_n 0, 1) := by decide +kernel
theorem dX9_spoil_1 : decode cX9_spoil 1 = .ok (.getfield 28, 3) := by decide +kernel
theorem dX9_spoil_4 : decode cX9_spoil 4 = .ok (.bipush 20, 2) := by decide +kernel
theorem dX9_spoil_6 : decode cX9_spoil 6 = .ok (.if_icmp .lt 5, 3) := by decide +kernel
theorem dX9_spoil_9 : decode cX9_spoil 9 = .ok (.iconst 0, 1) := by decide +kernel
theorem dX9_spoil_10 : decode cX9_spoil 10 = .ok (.ireturn, 1) := by decide +kernel
theorem dX9_spoil_11 : decode cX9_spoil 11 = .ok (.aload_n 0, 1) := by decide +kernel
theorem dX9_spoil_12 : decode cX9_spoil 12 = .ok (.dup, 1) := by decide +kernel
theorem dX9_spoil_13 : decode cX9_spoil 13 = .ok (.getfield 28, 3) := by decide +kernel
theorem dX9_spoil_16 : decode cX9_spoil 16 = .ok (.iconst 1, 1) := by decide +kernel
theorem dX9_spoil_17 : decode cX9_spoil 17 = .ok (.iadd, 1) := by decide +kernel
theorem dX9_spoil_18 : decode cX9_spoil 18 = .ok (.putfield 28, 3) := by decide +kernel
theorem dX9_spoil_21 : decode cX9_spoil 21 = .ok (.iload_n 1, 1) := by decide +kernel
theorem dX9_spoil_22 : decode cX9_spoil 22 = .ok (.istore 4, 2) := by decide +kernel
theorem dX9_spoil_24 : decode cX9_spoil 24 = .ok (.iload 4, 2) := by decide +kernel
theorem dX9_spoil_26 : decode cX9_spoil 26 = .ok (.iload_n 2, 1) := by decide +kernel
theorem dX9_spoil_27 : decode cX9_spoil 27 = .ok (.if_icmp .gt 27, 3) := by decide +kernel
theorem dX9_spoil_30 : decode cX9_spoil 30 = .ok (.aload_n 0, 1) := by decide +kernel
theorem dX9_spoil_31 : decode cX9_spoil 31 = .ok (.getfield 19, 3) := by decide +kernel
theorem dX9_spoil_34 : decode cX9_spoil 34 = .ok (.iload 4, 2) := by decide +kernel
theorem dX9_spoil_36 : decode cX9_spoil 36 = .ok (.aload_n 0, 1) := by decide +kernel
theorem dX9_spoil_37 : decode cX9_spoil 37 = .ok (.getfield 19, 3) := by decide +kernel
theorem dX9_spoil_40 : decode cX9_spoil 40 = .ok (.iload 4, 2) := by decide +kernel
theorem dX9_spoil_42 : decode cX9_spoil 42 = .ok (.iaload, 1) := by decide +kernel
theorem dX9_spoil_43 : decode cX9_spoil 43 = .ok (.iload_n 3, 1) := by decide +kernel
theorem dX9_spoil_44 : decode cX9_spoil 44 = .ok (.invokestatic 31, 3) := by decide +kernel
theorem dX9_spoil_47 : decode cX9_spoil 47 = .ok (.iastore, 1) := by decide +kernel
theorem dX9_spoil_48 : decode cX9_spoil 48 = .ok (.iinc 4 1, 3) := by decide +kernel
theorem dX9_spoil_51 : decode cX9_spoil 51 = .ok (.goto (-27), 3) := by decide +kernel
theorem dX9_spoil_54 : decode cX9_spoil 54 = .ok (.iconst 1, 1) := by decide +kernel
theorem dX9_spoil_55 : decode cX9_spoil 55 = .ok (.ireturn, 1) := by decide +kernel
theorem dX9_lookFrom_0 : decode cX9_lookFrom 0 = .ok (.sipush 900, 3) := by decide +kernel
theorem dX9_lookFrom_3 : decode cX9_lookFrom 3 = .ok (.istore_n 2, 1) := by decide +kernel
theorem dX9_lookFrom_4 : decode cX9_lookFrom 4 = .ok (.iconst 1, 1) := by decide +kernel
theorem dX9_lookFrom_5 : decode cX9_lookFrom 5 = .ok (.istore_n 3, 1) := by decide +kernel
theorem dX9_lookFrom_6 : decode cX9_lookFrom 6 = .ok (.iload_n 1, 1) := by decide +kernel
theorem dX9_lookFrom_7 : decode cX9_lookFrom 7 = .ok (.istore 4, 2) := by decide +kernel
theorem dX9_lookFrom_9 : decode cX9_lookFrom 9 = .ok (.iload 4, 2) := by decide +kernel
theorem dX9_lookFrom_11 : decode cX9_lookFrom 11 = .ok (.aload_n 0, 1) := by decide +kernel
theorem dX9_lookFrom_12 : decode cX9_lookFrom 12 = .ok (.getfield 9, 3) := by decide +kernel
theorem dX9_lookFrom_15 : decode cX9_lookFrom 15 = .ok (.if_icmp .gt 53, 3) := by decide +kernel
theorem dX9_lookFrom_18 : decode cX9_lookFrom 18 = .ok (.iload_n 2, 1) := by decide +kernel
theorem dX9_lookFrom_19 : decode cX9_lookFrom 19 = .ok (.aload_n 0, 1) := by decide +kernel
theorem dX9_lookFrom_20 : decode cX9_lookFrom 20 = .ok (.getfield 15, 3) := by decide +kernel
theorem dX9_lookFrom_23 : decode cX9_lookFrom 23 = .ok (.iload 4, 2) := by decide +kernel
theorem dX9_lookFrom_25 : decode cX9_lookFrom 25 = .ok (.iaload, 1) := by decide +kernel
theorem dX9_lookFrom_26 : decode cX9_lookFrom 26 = .ok (.invokestatic 37, 3) := by decide +kernel
theorem dX9_lookFrom_29 : decode cX9_lookFrom 29 = .ok (.istore_n 2, 1) := by decide +kernel
theorem dX9_lookFrom_30 : decode cX9_lookFrom 30 = .ok (.iload_n 3, 1) := by decide +kernel
theorem dX9_lookFrom_31 : decode cX9_lookFrom 31 = .ok (.aload_n 0, 1) := by decide +kernel
theorem dX9_lookFrom_32 : decode cX9_lookFrom 32 = .ok (.getfield 19, 3) := by decide +kernel
theorem dX9_lookFrom_35 : decode cX9_lookFrom 35 = .ok (.iload 4, 2) := by decide +kernel
theorem dX9_lookFrom_37 : decode cX9_lookFrom 37 = .ok (.iaload, 1) := by decide +kernel
theorem dX9_lookFrom_38 : decode cX9_lookFrom 38 = .ok (.invokestatic 31, 3) := by decide +kernel
theorem dX9_lookFrom_41 : decode cX9_lookFrom 41 = .ok (.istore_n 3, 1) := by decide +kernel
theorem dX9_lookFrom_42 : decode cX9_lookFrom 42 = .ok (.aload_n 0, 1) := by decide +kernel
theorem dX9_lookFrom_43 : decode cX9_lookFrom 43 = .ok (.getfield 22, 3) := by decide +kernel
theorem dX9_lookFrom_46 : decode cX9_lookFrom 46 = .ok (.iload 4, 2) := by decide +kernel
theorem dX9_lookFrom_48 : decode cX9_lookFrom 48 = .ok (.iload_n 1, 1) := by decide +kernel
theorem dX9_lookFrom_49 : decode cX9_lookFrom 49 = .ok (.isub, 1) := by decide +kernel
theorem dX9_lookFrom_50 : decode cX9_lookFrom 50 = .ok (.iload_n 2, 1) := by decide +kernel
theorem dX9_lookFrom_51 : decode cX9_lookFrom 51 = .ok (.iastore, 1) := by decide +kernel
theorem dX9_lookFrom_52 : decode cX9_lookFrom 52 = .ok (.aload_n 0, 1) := by decide +kernel
theorem dX9_lookFrom_53 : decode cX9_lookFrom 53 = .ok (.getfield 25, 3) := by decide +kernel
theorem dX9_lookFrom_56 : decode cX9_lookFrom 56 = .ok (.iload 4, 2) := by decide +kernel
theorem dX9_lookFrom_58 : decode cX9_lookFrom 58 = .ok (.iload_n 1, 1) := by decide +kernel
theorem dX9_lookFrom_59 : decode cX9_lookFrom 59 = .ok (.isub, 1) := by decide +kernel
theorem dX9_lookFrom_60 : decode cX9_lookFrom 60 = .ok (.iload_n 3, 1) := by decide +kernel
theorem dX9_lookFrom_61 : decode cX9_lookFrom 61 = .ok (.iastore, 1) := by decide +kernel
theorem dX9_lookFrom_62 : decode cX9_lookFrom 62 = .ok (.iinc 4 1, 3) := by decide +kernel
theorem dX9_lookFrom_65 : decode cX9_lookFrom 65 = .ok (.goto (-56), 3) := by decide +kernel
theorem dX9_lookFrom_68 : decode cX9_lookFrom 68 = .ok (.return_, 1) := by decide +kernel
theorem dX10_init_0 : decode cX10_init 0 = .ok (.aload_n 0, 1) := by decide +kernel
theorem dX10_init_1 : decode cX10_init 1 = .ok (.invokespecial 1, 3) := by decide +kernel
theorem dX10_init_4 : decode cX10_init 4 = .ok (.aload_n 0, 1) := by decide +kernel
theorem dX10_init_5 : decode cX10_init 5 = .ok (.new 7, 3) := by decide +kernel
theorem dX10_init_8 : decode cX10_init 8 = .ok (.dup, 1) := by decide +kernel
theorem dX10_init_9 : decode cX10_init 9 = .ok (.iload_n 1, 1) := by decide +kernel
theorem dX10_init_10 : decode cX10_init 10 = .ok (.iconst 1, 1) := by decide +kernel
theorem dX10_init_11 : decode cX10_init 11 = .ok (.bipush 80, 2) := by decide +kernel
theorem dX10_init_13 : decode cX10_init 13 = .ok (.invokestatic 11, 3) := by decide +kernel
theorem dX10_init_16 : decode cX10_init 16 = .ok (.ifCond .eq 7, 3) := by decide +kernel
theorem dX10_init_19 : decode cX10_init 19 = .ok (.iload_n 1, 1) := by decide +kernel
theorem dX10_init_20 : decode cX10_init 20 = .ok (.goto 5, 3) := by decide +kernel
theorem dX10_init_23 : decode cX10_init 23 = .ok (.bipush 40, 2) := by decide +kernel
theorem dX10_init_25 : decode cX10_init 25 = .ok (.invokespecial 15, 3) := by decide +kernel
theorem dX10_init_28 : decode cX10_init 28 = .ok (.putfield 18, 3) := by decide +kernel
theorem dX10_init_31 : decode cX10_init 31 = .ok (.aload_n 0, 1) := by decide +kernel
theorem dX10_init_32 : decode cX10_init 32 = .ok (.aload_n 0, 1) := by decide +kernel
theorem dX10_init_33 : decode cX10_init 33 = .ok (.getfield 18, 3) := by decide +kernel
theorem dX10_init_36 : decode cX10_init 36 = .ok (.getfield 22, 3) := by decide +kernel
theorem dX10_init_39 : decode cX10_init 39 = .ok (.putfield 26, 3) := by decide +kernel
theorem dX10_init_42 : decode cX10_init 42 = .ok (.aload_n 0, 1) := by decide +kernel
theorem dX10_init_43 : decode cX10_init 43 = .ok (.aload_n 0, 1) := by decide +kernel
theorem dX10_init_44 : decode cX10_init 44 = .ok (.getfield 18, 3) := by decide +kernel
theorem dX10_init_47 : decode cX10_init 47 = .ok (.getfield 27, 3) := by decide +kernel
theorem dX10_init_50 : decode cX10_init 50 = .ok (.putfield 31, 3) := by decide +kernel
theorem dX10_init_53 : decode cX10_init 53 = .ok (.aload_n 0, 1) := by decide +kernel
theorem dX10_init_54 : decode cX10_init 54 = .ok (.new 32, 3) := by decide +kernel
theorem dX10_init_57 : decode cX10_init 57 = .ok (.dup, 1) := by decide +kernel
theorem dX10_init_58 : decode cX10_init 58 = .ok (.invokespecial 34, 3) := by decide +kernel
theorem dX10_init_61 : decode cX10_init 61 = .ok (.putfield 35, 3) := by decide +kernel
theorem dX10_init_64 : decode cX10_init 64 = .ok (.aload_n 0, 1) := by decide +kernel
theorem dX10_init_65 : decode cX10_init 65 = .ok (.aload_n 0, 1) := by decide +kernel
theorem dX10_init_66 : decode cX10_init 66 = .ok (.getfield 35, 3) := by decide +kernel
theorem dX10_init_69 : decode cX10_init 69 = .ok (.getfield 39, 3) := by decide +kernel
theorem dX10_init_72 : decode cX10_init 72 = .ok (.putfield 43, 3) := by decide +kernel
theorem dX10_init_75 : decode cX10_init 75 = .ok (.aload_n 0, 1) := by decide +kernel
theorem dX10_init_76 : decode cX10_init 76 = .ok (.aload_n 0, 1) := by decide +kernel
theorem dX10_init_77 : decode cX10_init 77 = .ok (.getfield 35, 3) := by decide +kernel
theorem dX10_init_80 : decode cX10_init 80 = .ok (.getfield 44, 3) := by decide +kernel
theorem dX10_init_83 : decode cX10_init 83 = .ok (.putfield 48, 3) := by decide +kernel
theorem dX10_init_86 : decode cX10_init 86 = .ok (.return_, 1) := by decide +kernel
theorem dX10_diameter_0 : decode cX10_diameter 0 = .ok (.iload_n 1, 1) := by decide +kernel
theorem dX10_diameter_1 : decode cX10_diameter 1 = .ok (.iconst 0, 1) := by decide +kernel
theorem dX10_diameter_2 : decode cX10_diameter 2 = .ok (.aload_n 0, 1) := by decide +kernel
theorem dX10_diameter_3 : decode cX10_diameter 3 = .ok (.getfield 26, 3) := by decide +kernel
theorem dX10_diameter_6 : decode cX10_diameter 6 = .ok (.getfield 49, 3) := by decide +kernel
theorem dX10_diameter_9 : decode cX10_diameter 9 = .ok (.invokestatic 11, 3) := by decide +kernel
theorem dX10_diameter_12 : decode cX10_diameter 12 = .ok (.ifCond .eq 15, 3) := by decide +kernel
theorem dX10_diameter_15 : decode cX10_diameter 15 = .ok (.iload_n 2, 1) := by decide +kernel
theorem dX10_diameter_16 : decode cX10_diameter 16 = .ok (.bipush 50, 2) := by decide +kernel
theorem dX10_diameter_18 : decode cX10_diameter 18 = .ok (.sipush 900, 3) := by decide +kernel
theorem dX10_diameter_21 : decode cX10_diameter 21 = .ok (.invokestatic 11, 3) := by decide +kernel
theorem dX10_diameter_24 : decode cX10_diameter 24 = .ok (.ifCond .ne 5, 3) := by decide +kernel
theorem dX10_diameter_27 : decode cX10_diameter 27 = .ok (.iconst 0, 1) := by decide +kernel
theorem dX10_diameter_28 : decode cX10_diameter 28 = .ok (.ireturn, 1) := by decide +kernel
theorem dX10_diameter_29 : decode cX10_diameter 29 = .ok (.aload_n 0, 1) := by decide +kernel
theorem dX10_diameter_30 : decode cX10_diameter 30 = .ok (.getfield 26, 3) := by decide +kernel
theorem dX10_diameter_33 : decode cX10_diameter 33 = .ok (.getfield 55, 3) := by decide +kernel
theorem dX10_diameter_36 : decode cX10_diameter 36 = .ok (.iload_n 1, 1) := by decide +kernel
theorem dX10_diameter_37 : decode cX10_diameter 37 = .ok (.iload_n 2, 1) := by decide +kernel
theorem dX10_diameter_38 : decode cX10_diameter 38 = .ok (.iastore, 1) := by decide +kernel
theorem dX10_diameter_39 : decode cX10_diameter 39 = .ok (.iconst 1, 1) := by decide +kernel
theorem dX10_diameter_40 : decode cX10_diameter 40 = .ok (.ireturn, 1) := by decide +kernel
theorem dX10_defect_0 : decode cX10_defect 0 = .ok (.iload_n 2, 1) := by decide +kernel
theorem dX10_defect_1 : decode cX10_defect 1 = .ok (.iconst 0, 1) := by decide +kernel
theorem dX10_defect_2 : decode cX10_defect 2 = .ok (.aload_n 0, 1) := by decide +kernel
theorem dX10_defect_3 : decode cX10_defect 3 = .ok (.getfield 26, 3) := by decide +kernel
theorem dX10_defect_6 : decode cX10_defect 6 = .ok (.getfield 49, 3) := by decide +kernel
theorem dX10_defect_9 : decode cX10_defect 9 = .ok (.invokestatic 11, 3) := by decide +kernel
theorem dX10_defect_12 : decode cX10_defect 12 = .ok (.ifCond .eq 21, 3) := by decide +kernel
theorem dX10_defect_15 : decode cX10_defect 15 = .ok (.iload_n 1, 1) := by decide +kernel
theorem dX10_defect_16 : decode cX10_defect 16 = .ok (.iconst 0, 1) := by decide +kernel
theorem dX10_defect_17 : decode cX10_defect 17 = .ok (.iload_n 2, 1) := by decide +kernel
theorem dX10_defect_18 : decode cX10_defect 18 = .ok (.invokestatic 11, 3) := by decide +kernel
theorem dX10_defect_21 : decode cX10_defect 21 = .ok (.ifCond .eq 12, 3) := by decide +kernel
theorem dX10_defect_24 : decode cX10_defect 24 = .ok (.iload_n 3, 1) := by decide +kernel
theorem dX10_defect_25 : decode cX10_defect 25 = .ok (.iconst 2, 1) := by decide +kernel
theorem dX10_defect_26 : decode cX10_defect 26 = .ok (.iconst 3, 1) := by decide +kernel
theorem dX10_defect_27 : decode cX10_defect 27 = .ok (.invokestatic 11, 3) := by decide +kernel
theorem dX10_defect_30 : decode cX10_defect 30 = .ok (.ifCond .ne 5, 3) := by decide +kernel
theorem dX10_defect_33 : decode cX10_defect 33 = .ok (.iconst 0, 1) := by decide +kernel
theorem dX10_defect_34 : decode cX10_defect 34 = .ok (.ireturn, 1) := by decide +kernel
theorem dX10_defect_35 : decode cX10_defect 35 = .ok (.aload_n 0, 1) := by decide +kernel
theorem dX10_defect_36 : decode cX10_defect 36 = .ok (.getfield 26, 3) := by decide +kernel
theorem dX10_defect_39 : decode cX10_defect 39 = .ok (.iload_n 1, 1) := by decide +kernel
theorem dX10_defect_40 : decode cX10_defect 40 = .ok (.iload_n 2, 1) := by decide +kernel
theorem dX10_defect_41 : decode cX10_defect 41 = .ok (.iload_n 3, 1) := by decide +kernel
theorem dX10_defect_42 : decode cX10_defect 42 = .ok (.invokevirtual 59, 3) := by decide +kernel
theorem dX10_defect_45 : decode cX10_defect 45 = .ok (.ireturn, 1) := by decide +kernel
theorem dX10_logKind_0 : decode cX10_logKind 0 = .ok (.iload_n 1, 1) := by decide +kernel
theorem dX10_logKind_1 : decode cX10_logKind 1 = .ok (.iconst 0, 1) := by decide +kernel
theorem dX10_logKind_2 : decode cX10_logKind 2 = .ok (.iconst 5, 1) := by decide +kernel
theorem dX10_logKind_3 : decode cX10_logKind 3 = .ok (.invokestatic 11, 3) := by decide +kernel
theorem dX10_logKind_6 : decode cX10_logKind 6 = .ok (.ifCond .eq 24, 3) := by decide +kernel
theorem dX10_logKind_9 : decode cX10_logKind 9 = .ok (.iload_n 2, 1) := by decide +kernel
theorem dX10_logKind_10 : decode cX10_logKind 10 = .ok (.iconst 1, 1) := by decide +kernel
theorem dX10_logKind_11 : decode cX10_logKind 11 = .ok (.bipush 60, 2) := by decide +kernel
theorem dX10_logKind_13 : decode cX10_logKind 13 = .ok (.invokestatic 11, 3) := by decide +kernel
theorem dX10_logKind_16 : decode cX10_logKind 16 = .ok (.ifCond .eq 14, 3) := by decide +kernel
theorem dX10_logKind_19 : decode cX10_logKind 19 = .ok (.iload_n 3, 1) := by decide +kernel
theorem dX10_logKind_20 : decode cX10_logKind 20 = .ok (.iconst 0, 1) := by decide +kernel
theorem dX10_logKind_21 : decode cX10_logKind 21 = .ok (.sipush 900, 3) := by decide +kernel
theorem dX10_logKind_24 : decode cX10_logKind 24 = .ok (.invokestatic 11, 3) := by decide +kernel
theorem dX10_logKind_27 : decode cX10_logKind 27 = .ok (.ifCond .ne 5, 3) := by decide +kernel
theorem dX10_logKind_30 : decode cX10_logKind 30 = .ok (.iconst 0, 1) := by decide +kernel
theorem dX10_logKind_31 : decode cX10_logKind 31 = .ok (.ireturn, 1) := by decide +kernel
theorem dX10_logKind_32 : decode cX10_logKind 32 = .ok (.aload_n 0, 1) := by decide +kernel
theorem dX10_logKind_33 : decode cX10_logKind 33 = .ok (.getfield 31, 3) := by decide +kernel
theorem dX10_logKind_36 : decode cX10_logKind 36 = .ok (.iload_n 1, 1) := by decide +kernel
theorem dX10_logKind_37 : decode cX10_logKind 37 = .ok (.aaload, 1) := by decide +kernel
theorem dX10_logKind_38 : decode cX10_logKind 38 = .ok (.iload_n 2, 1) := by decide +kernel
theorem dX10_logKind_39 : decode cX10_logKind 39 = .ok (.iload_n 3, 1) := by decide +kernel
theorem dX10_logKind_40 : decode cX10_logKind 40 = .ok (.invokevirtual 62, 3) := by decide +kernel
theorem dX10_logKind_43 : decode cX10_logKind 43 = .ok (.iconst 1, 1) := by decide +kernel
theorem dX10_logKind_44 : decode cX10_logKind 44 = .ok (.ireturn, 1) := by decide +kernel
theorem dX10_priceOf_0 : decode cX10_priceOf 0 = .ok (.iload_n 1, 1) := by decide +kernel
theorem dX10_priceOf_1 : decode cX10_priceOf 1 = .ok (.iconst 0, 1) := by decide +kernel
theorem dX10_priceOf_2 : decode cX10_priceOf 2 = .ok (.iconst 5, 1) := by decide +kernel
theorem dX10_priceOf_3 : decode cX10_priceOf 3 = .ok (.invokestatic 11, 3) := by decide +kernel
theorem dX10_priceOf_6 : decode cX10_priceOf 6 = .ok (.ifCond .eq 25, 3) := by decide +kernel
theorem dX10_priceOf_9 : decode cX10_priceOf 9 = .ok (.aload_n 0, 1) := by decide +kernel
theorem dX10_priceOf_10 : decode cX10_priceOf 10 = .ok (.getfield 31, 3) := by decide +kernel
theorem dX10_priceOf_13 : decode cX10_priceOf 13 = .ok (.iload_n 1, 1) := by decide +kernel
theorem dX10_priceOf_14 : decode cX10_priceOf 14 = .ok (.aaload, 1) := by decide +kernel
theorem dX10_priceOf_15 : decode cX10_priceOf 15 = .ok (.invokevirtual 68, 3) := by decide +kernel
theorem dX10_priceOf_18 : decode cX10_priceOf 18 = .ok (.ifCond .eq 13, 3) := by decide +kernel
theorem dX10_priceOf_21 : decode cX10_priceOf 21 = .ok (.iload_n 2, 1) := by decide +kernel
theorem dX10_priceOf_22 : decode cX10_priceOf 22 = .ok (.iconst 0, 1) := by decide +kernel
theorem dX10_priceOf_23 : decode cX10_priceOf 23 = .ok (.bipush 18, 2) := by decide +kernel
theorem dX10_priceOf_25 : decode cX10_priceOf 25 = .ok (.invokestatic 11, 3) := by decide +kernel
theorem dX10_priceOf_28 : decode cX10_priceOf 28 = .ok (.ifCond .ne 5, 3) := by decide +kernel
theorem dX10_priceOf_31 : decode cX10_priceOf 31 = .ok (.iconst 0, 1) := by decide +kernel
theorem dX10_priceOf_32 : decode cX10_priceOf 32 = .ok (.ireturn, 1) := by decide +kernel
theorem dX10_priceOf_33 : decode cX10_priceOf 33 = .ok (.iload_n 3, 1) := by decide +kernel
theorem dX10_priceOf_34 : decode cX10_priceOf 34 = .ok (.iconst 1, 1) := by decide +kernel
theorem dX10_priceOf_35 : decode cX10_priceOf 35 = .ok (.iconst 3, 1) := by decide +kernel
theorem dX10_priceOf_36 : decode cX10_priceOf 36 = .ok (.invokestatic 11, 3) := by decide +kernel
theorem dX10_priceOf_39 : decode cX10_priceOf 39 = .ok (.ifCond .eq 14, 3) := by decide +kernel
theorem dX10_priceOf_42 : decode cX10_priceOf 42 = .ok (.iload 4, 2) := by decide +kernel
theorem dX10_priceOf_44 : decode cX10_priceOf 44 = .ok (.iconst 0, 1) := by decide +kernel
theorem dX10_priceOf_45 : decode cX10_priceOf 45 = .ok (.ldc 72, 2) := by decide +kernel
theorem dX10_priceOf_47 : decode cX10_priceOf 47 = .ok (.invokestatic 11, 3) := by decide +kernel
theorem dX10_priceOf_50 : decode cX10_priceOf 50 = .ok (.ifCond .ne 5, 3) := by decide +kernel
theorem dX10_priceOf_53 : decode cX10_priceOf 53 = .ok (.iconst 0, 1) := by decide +kernel
theorem dX10_priceOf_54 : decode cX10_priceOf 54 = .ok (.ireturn, 1) := by decide +kernel
theorem dX10_priceOf_55 : decode cX10_priceOf 55 = .ok (.aload_n 0, 1) := by decide +kernel
theorem dX10_priceOf_56 : decode cX10_priceOf 56 = .ok (.getfield 31, 3) := by decide +kernel
theorem dX10_priceOf_59 : decode cX10_priceOf 59 = .ok (.iload_n 1, 1) := by decide +kernel
theorem dX10_priceOf_60 : decode cX10_priceOf 60 = .ok (.aaload, 1) := by decide +kernel
theorem dX10_priceOf_61 : decode cX10_priceOf 61 = .ok (.getfield 73, 3) := by decide +kernel
theorem dX10_priceOf_64 : decode cX10_priceOf 64 = .ok (.iload_n 2, 1) := by decide +kernel
theorem dX10_priceOf_65 : decode cX10_priceOf 65 = .ok (.iload_n 3, 1) := by decide +kernel
theorem dX10_priceOf_66 : decode cX10_priceOf 66 = .ok (.invokestatic 76, 3) := by decide +kernel
theorem dX10_priceOf_69 : decode cX10_priceOf 69 = .ok (.iload 4, 2) := by decide +kernel
theorem dX10_priceOf_71 : decode cX10_priceOf 71 = .ok (.iastore, 1) := by decide +kernel
theorem dX10_priceOf_72 : decode cX10_priceOf 72 = .ok (.iconst 1, 1) := by decide +kernel
theorem dX10_priceOf_73 : decode cX10_priceOf 73 = .ok (.ireturn, 1) := by decide +kernel
theorem dX10_buck_0 : decode cX10_buck 0 = .ok (.aload_n 0, 1) := by decide +kernel
theorem dX10_buck_1 : decode cX10_buck 1 = .ok (.getfield 18, 3) := by decide +kernel
theorem dX10_buck_4 : decode cX10_buck 4 = .ok (.invokevirtual 80, 3) := by decide +kernel
theorem dX10_buck_7 : decode cX10_buck 7 = .ok (.ireturn, 1) := by decide +kernel
theorem dX10_byHand_0 : decode cX10_byHand 0 = .ok (.aload_n 0, 1) := by decide +kernel
theorem dX10_byHand_1 : decode cX10_byHand 1 = .ok (.getfield 18, 3) := by decide +kernel
theorem dX10_byHand_4 : decode cX10_byHand 4 = .ok (.lload_n 1, 1) := by decide +kernel
theorem dX10_byHand_5 : decode cX10_byHand 5 = .ok (.invokevirtual 84, 3) := by decide +kernel
theorem dX10_byHand_8 : decode cX10_byHand 8 = .ok (.ireturn, 1) := by decide +kernel
theorem dX10_logs_0 : decode cX10_logs 0 = .ok (.aload_n 0, 1) := by decide +kernel
theorem dX10_logs_1 : decode cX10_logs 1 = .ok (.getfield 18, 3) := by decide +kernel
theorem dX10_logs_4 : decode cX10_logs 4 = .ok (.getfield 88, 3) := by decide +kernel
theorem dX10_logs_7 : decode cX10_logs 7 = .ok (.getfield 92, 3) := by decide +kernel
theorem dX10_logs_10 : decode cX10_logs 10 = .ok (.ireturn, 1) := by decide +kernel
theorem dX10_log_0 : decode cX10_log 0 = .ok (.aload_n 0, 1) := by decide +kernel
theorem dX10_log_1 : decode cX10_log 1 = .ok (.getfield 18, 3) := by decide +kernel
theorem dX10_log_4 : decode cX10_log 4 = .ok (.getfield 88, 3) := by decide +kernel
theorem dX10_log_7 : decode cX10_log 7 = .ok (.astore_n 3, 1) := by decide +kernel
theorem dX10_log_8 : decode cX10_log 8 = .ok (.iload_n 1, 1) := by decide +kernel
theorem dX10_log_9 : decode cX10_log 9 = .ok (.iconst 0, 1) := by decide +kernel
theorem dX10_log_10 : decode cX10_log 10 = .ok (.aload_n 3, 1) := by decide +kernel
theorem dX10_log_11 : decode cX10_log 11 = .ok (.getfield 92, 3) := by decide +kernel
theorem dX10_log_14 : decode cX10_log 14 = .ok (.iconst 1, 1) := by decide +kernel
theorem dX10_log_15 : decode cX10_log 15 = .ok (.isub, 1) := by decide +kernel
theorem dX10_log_16 : decode cX10_log 16 = .ok (.invokestatic 11, 3) := by decide +kernel
theorem dX10_log_19 : decode cX10_log 19 = .ok (.ifCond .eq 12, 3) := by decide +kernel
theorem dX10_log_22 : decode cX10_log 22 = .ok (.iload_n 2, 1) := by decide +kernel
theorem dX10_log_23 : decode cX10_log 23 = .ok (.iconst 0, 1) := by decide +kernel
theorem dX10_log_24 : decode cX10_log 24 = .ok (.iconst 5, 1) := by decide +kernel
theorem dX10_log_25 : decode cX10_log 25 = .ok (.invokestatic 11, 3) := by decide +kernel
theorem dX10_log_28 : decode cX10_log 28 = .ok (.ifCond .ne 11, 3) := by decide +kernel
theorem dX10_log_31 : decode cX10_log 31 = .ok (.new 97, 3) := by decide +kernel
theorem dX10_log_34 : decode cX10_log 34 = .ok (.dup, 1) := by decide +kernel
theorem dX10_log_35 : decode cX10_log 35 = .ok (.invokespecial 99, 3) := by decide +kernel
theorem dX10_log_38 : decode cX10_log 38 = .ok (.athrow, 1) := by decide +kernel
theorem dX10_log_39 : decode cX10_log 39 = .ok (.aload_n 3, 1) := by decide +kernel
theorem dX10_log_40 : decode cX10_log 40 = .ok (.iload_n 1, 1) := by decide +kernel
theorem dX10_log_41 : decode cX10_log 41 = .ok (.iload_n 2, 1) := by decide +kernel
theorem dX10_log_42 : decode cX10_log 42 = .ok (.invokevirtual 100, 3) := by decide +kernel
theorem dX10_log_45 : decode cX10_log 45 = .ok (.ireturn, 1) := by decide +kernel
theorem dX10_size_0 : decode cX10_size 0 = .ok (.iload_n 1, 1) := by decide +kernel
theorem dX10_size_1 : decode cX10_size 1 = .ok (.iconst 0, 1) := by decide +kernel
theorem dX10_size_2 : decode cX10_size 2 = .ok (.iconst 5, 1) := by decide +kernel
theorem dX10_size_3 : decode cX10_size 3 = .ok (.invokestatic 11, 3) := by decide +kernel
theorem dX10_size_6 : decode cX10_size 6 = .ok (.ifCond .eq 15, 3) := by decide +kernel
theorem dX10_size_9 : decode cX10_size 9 = .ok (.iload_n 2, 1) := by decide +kernel
theorem dX10_size_10 : decode cX10_size 10 = .ok (.bipush 50, 2) := by decide +kernel
theorem dX10_size_12 : decode cX10_size 12 = .ok (.sipush 4000, 3) := by decide +kernel
theorem dX10_size_15 : decode cX10_size 15 = .ok (.invokestatic 11, 3) := by decide +kernel
theorem dX10_size_18 : decode cX10_size 18 = .ok (.ifCond .ne 5, 3) := by decide +kernel
theorem dX10_size_21 : decode cX10_size 21 = .ok (.iconst 0, 1) := by decide +kernel
theorem dX10_size_22 : decode cX10_size 22 = .ok (.ireturn, 1) := by decide +kernel
theorem dX10_size_23 : decode cX10_size 23 = .ok (.iload_n 3, 1) := by decide +kernel
theorem dX10_size_24 : decode cX10_size 24 = .ok (.bipush 50, 2) := by decide +kernel
theorem dX10_size_26 : decode cX10_size 26 = .ok (.sipush 4000, 3) := by decide +kernel
theorem dX10_size_29 : decode cX10_size 29 = .ok (.invokestatic 11, 3) := by decide +kernel
theorem dX10_size_32 : decode cX10_size 32 = .ok (.ifCond .ne 5, 3) := by decide +kernel
theorem dX10_size_35 : decode cX10_size 35 = .ok (.iconst 0, 1) := by decide +kernel
theorem dX10_size_36 : decode cX10_size 36 = .ok (.ireturn, 1) := by decide +kernel
theorem dX10_size_37 : decode cX10_size 37 = .ok (.aload_n 0, 1) := by decide +kernel
theorem dX10_size_38 : decode cX10_size 38 = .ok (.getfield 43, 3) := by decide +kernel
theorem dX10_size_41 : decode cX10_size 41 = .ok (.iload_n 1, 1) := by decide +kernel
theorem dX10_size_42 : decode cX10_size 42 = .ok (.aaload, 1) := by decide +kernel
theorem dX10_size_43 : decode cX10_size 43 = .ok (.iload_n 2, 1) := by decide +kernel
theorem dX10_size_44 : decode cX10_size 44 = .ok (.iload_n 3, 1) := by decide +kernel
theorem dX10_size_45 : decode cX10_size 45 = .ok (.invokevirtual 103, 3) := by decide +kernel
theorem dX10_size_48 : decode cX10_size 48 = .ok (.iconst 1, 1) := by decide +kernel
theorem dX10_size_49 : decode cX10_size 49 = .ok (.ireturn, 1) := by decide +kernel
theorem dX10_boardPrice_0 : decode cX10_boardPrice 0 = .ok (.aload_n 0, 1) := by decide +kernel
theorem dX10_boardPrice_1 : decode cX10_boardPrice 1 = .ok (.iload_n 1, 1) := by decide +kernel
theorem dX10_boardPrice_2 : decode cX10_boardPrice 2 = .ok (.invokevirtual 106, 3) := by decide +kernel
theorem dX10_boardPrice_5 : decode cX10_boardPrice 5 = .ok (.ifCond .eq 22, 3) := by decide +kernel
theorem dX10_boardPrice_8 : decode cX10_boardPrice 8 = .ok (.iload_n 2, 1) := by decide +kernel
theorem dX10_boardPrice_9 : decode cX10_boardPrice 9 = .ok (.iconst 1, 1) := by decide +kernel
theorem dX10_boardPrice_10 : decode cX10_boardPrice 10 = .ok (.iconst 3, 1) := by decide +kernel
theorem dX10_boardPrice_11 : decode cX10_boardPrice 11 = .ok (.invokestatic 11, 3) := by decide +kernel
theorem dX10_boardPrice_14 : decode cX10_boardPrice 14 = .ok (.ifCond .eq 13, 3) := by decide +kernel
theorem dX10_boardPrice_17 : decode cX10_boardPrice 17 = .ok (.iload_n 3, 1) := by decide +kernel
theorem dX10_boardPrice_18 : decode cX10_boardPrice 18 = .ok (.iconst 0, 1) := by decide +kernel
theorem dX10_boardPrice_19 : decode cX10_boardPrice 19 = .ok (.ldc 72, 2) := by decide +kernel
theorem dX10_boardPrice_21 : decode cX10_boardPrice 21 = .ok (.invokestatic 11, 3) := by decide +kernel
theorem dX10_boardPrice_24 : decode cX10_boardPrice 24 = .ok (.ifCond .ne 5, 3) := by decide +kernel
theorem dX10_boardPrice_27 : decode cX10_boardPrice 27 = .ok (.iconst 0, 1) := by decide +kernel
theorem dX10_boardPrice_28 : decode cX10_boardPrice 28 = .ok (.ireturn, 1) := by decide +kernel
theorem dX10_boardPrice_29 : decode cX10_boardPrice 29 = .ok (.aload_n 0, 1) := by decide +kernel
theorem dX10_boardPrice_30 : decode cX10_boardPrice 30 = .ok (.getfield 43, 3) := by decide +kernel
theorem dX10_boardPrice_33 : decode cX10_boardPrice 33 = .ok (.iload_n 1, 1) := by decide +kernel
theorem dX10_boardPrice_34 : decode cX10_boardPrice 34 = .ok (.aaload, 1) := by decide +kernel
theorem dX10_boardPrice_35 : decode cX10_boardPrice 35 = .ok (.getfield 110, 3) := by decide +kernel
theorem dX10_boardPrice_38 : decode cX10_boardPrice 38 = .ok (.iload_n 2, 1) := by decide +kernel
theorem dX10_boardPrice_39 : decode cX10_boardPrice 39 = .ok (.iconst 1, 1) := by decide +kernel
theorem dX10_boardPrice_40 : decode cX10_boardPrice 40 = .ok (.isub, 1) := by decide +kernel
theorem dX10_boardPrice_41 : decode cX10_boardPrice 41 = .ok (.iload_n 3, 1) := by decide +kernel
theorem dX10_boardPrice_42 : decode cX10_boardPrice 42 = .ok (.iastore, 1) := by decide +kernel
theorem dX10_boardPrice_43 : decode cX10_boardPrice 43 = .ok (.iconst 1, 1) := by decide +kernel
theorem dX10_boardPrice_44 : decode cX10_boardPrice 44 = .ok (.ireturn, 1) := by decide +kernel
theorem dX10_height_0 : decode cX10_height 0 = .ok (.iload_n 1, 1) := by decide +kernel
theorem dX10_height_1 : decode cX10_height 1 = .ok (.iconst 0, 1) := by decide +kernel
theorem dX10_height_2 : decode cX10_height 2 = .ok (.iconst 3, 1) := by decide +kernel
theorem dX10_height_3 : decode cX10_height 3 = .ok (.invokestatic 11, 3) := by decide +kernel
theorem dX10_height_6 : decode cX10_height 6 = .ok (.ifCond .eq 16, 3) := by decide +kernel
theorem dX10_height_9 : decode cX10_height 9 = .ok (.iload_n 2, 1) := by decide +kernel
theorem dX10_height_10 : decode cX10_height 10 = .ok (.sipush 300, 3) := by decide +kernel
theorem dX10_height_13 : decode cX10_height 13 = .ok (.sipush 5000, 3) := by decide +kernel
theorem dX10_height_16 : decode cX10_height 16 = .ok (.invokestatic 11, 3) := by decide +kernel
theorem dX10_height_19 : decode cX10_height 19 = .ok (.ifCond .ne 5, 3) := by decide +kernel
theorem dX10_height_22 : decode cX10_height 22 = .ok (.iconst 0, 1) := by decide +kernel
theorem dX10_height_23 : decode cX10_height 23 = .ok (.ireturn, 1) := by decide +kernel
theorem dX10_height_24 : decode cX10_height 24 = .ok (.aload_n 0, 1) := by decide +kernel
theorem dX10_height_25 : decode cX10_height 25 = .ok (.getfield 35, 3) := by decide +kernel
theorem dX10_height_28 : decode cX10_height 28 = .ok (.getfield 111, 3) := by decide +kernel
theorem dX10_height_31 : decode cX10_height 31 = .ok (.iload_n 1, 1) := by decide +kernel
theorem dX10_height_32 : decode cX10_height 32 = .ok (.iload_n 2, 1) := by decide +kernel
theorem dX10_height_33 : decode cX10_height 33 = .ok (.iastore, 1) := by decide +kernel
theorem dX10_height_34 : decode cX10_height 34 = .ok (.iconst 1, 1) := by decide +kernel
theorem dX10_height_35 : decode cX10_height 35 = .ok (.ireturn, 1) := by decide +kernel
theorem dX10_kerf_0 : decode cX10_kerf 0 = .ok (.iload_n 1, 1) := by decide +kernel
theorem dX10_kerf_1 : decode cX10_kerf 1 = .ok (.iconst 0, 1) := by decide +kernel
theorem dX10_kerf_2 : decode cX10_kerf 2 = .ok (.bipush 100, 2) := by decide +kernel
theorem dX10_kerf_4 : decode cX10_kerf 4 = .ok (.invokestatic 11, 3) := by decide +kernel
theorem dX10_kerf_7 : decode cX10_kerf 7 = .ok (.ifCond .ne 5, 3) := by decide +kernel
theorem dX10_kerf_10 : decode cX10_kerf 10 = .ok (.iconst 0, 1) := by decide +kernel
theorem dX10_kerf_11 : decode cX10_kerf 11 = .ok (.ireturn, 1) := by decide +kernel
theorem dX10_kerf_12 : decode cX10_kerf 12 = .ok (.aload_n 0, 1) := by decide +kernel
theorem dX10_kerf_13 : decode cX10_kerf 13 = .ok (.getfield 35, 3) := by decide +kernel
theorem dX10_kerf_16 : decode cX10_kerf 16 = .ok (.iload_n 1, 1) := by decide +kernel
theorem dX10_kerf_17 : decode cX10_kerf 17 = .ok (.putfield 114, 3) := by decide +kernel
theorem dX10_kerf_20 : decode cX10_kerf 20 = .ok (.iconst 1, 1) := by decide +kernel
theorem dX10_kerf_21 : decode cX10_kerf 21 = .ok (.ireturn, 1) := by decide +kernel
theorem dX10_need_0 : decode cX10_need 0 = .ok (.iload_n 1, 1) := by decide +kernel
theorem dX10_need_1 : decode cX10_need 1 = .ok (.iconst 0, 1) := by decide +kernel
theorem dX10_need_2 : decode cX10_need 2 = .ok (.iconst 5, 1) := by decide +kernel
theorem dX10_need_3 : decode cX10_need 3 = .ok (.invokestatic 11, 3) := by decide +kernel
theorem dX10_need_6 : decode cX10_need 6 = .ok (.ifCond .eq 14, 3) := by decide +kernel
theorem dX10_need_9 : decode cX10_need 9 = .ok (.iload_n 2, 1) := by decide +kernel
theorem dX10_need_10 : decode cX10_need 10 = .ok (.iconst 0, 1) := by decide +kernel
theorem dX10_need_11 : decode cX10_need 11 = .ok (.sipush 1000, 3) := by decide +kernel
theorem dX10_need_14 : decode cX10_need 14 = .ok (.invokestatic 11, 3) := by decide +kernel
theorem dX10_need_17 : decode cX10_need 17 = .ok (.ifCond .ne 5, 3) := by decide +kernel
theorem dX10_need_20 : decode cX10_need 20 = .ok (.iconst 0, 1) := by decide +kernel
theorem dX10_need_21 : decode cX10_need 21 = .ok (.ireturn, 1) := by decide +kernel
theorem dX10_need_22 : decode cX10_need 22 = .ok (.aload_n 0, 1) := by decide +kernel
theorem dX10_need_23 : decode cX10_need 23 = .ok (.getfield 48, 3) := by decide +kernel
theorem dX10_need_26 : decode cX10_need 26 = .ok (.getfield 117, 3) := by decide +kernel
theorem dX10_need_29 : decode cX10_need 29 = .ok (.iload_n 1, 1) := by decide +kernel
theorem dX10_need_30 : decode cX10_need 30 = .ok (.iload_n 2, 1) := by decide +kernel
theorem dX10_need_31 : decode cX10_need 31 = .ok (.iastore, 1) := by decide +kernel
theorem dX10_need_32 : decode cX10_need 32 = .ok (.iconst 1, 1) := by decide +kernel
theorem dX10_need_33 : decode cX10_need 33 = .ok (.ireturn, 1) := by decide +kernel
theorem dX10_ladder_0 : decode cX10_ladder 0 = .ok (.iload_n 1, 1) := by decide +kernel
theorem dX10_ladder_1 : decode cX10_ladder 1 = .ok (.iconst 0, 1) := by decide +kernel
theorem dX10_ladder_2 : decode cX10_ladder 2 = .ok (.iconst 3, 1) := by decide +kernel
theorem dX10_ladder_3 : decode cX10_ladder 3 = .ok (.invokestatic 11, 3) := by decide +kernel
theorem dX10_ladder_6 : decode cX10_ladder 6 = .ok (.ifCond .eq 23, 3) := by decide +kernel
theorem dX10_ladder_9 : decode cX10_ladder 9 = .ok (.iload_n 2, 1) := by decide +kernel
theorem dX10_ladder_10 : decode cX10_ladder 10 = .ok (.iconst 0, 1) := by decide +kernel
theorem dX10_ladder_11 : decode cX10_ladder 11 = .ok (.ldc 122, 2) := by decide +kernel
theorem dX10_ladder_13 : decode cX10_ladder 13 = .ok (.invokestatic 11, 3) := by decide +kernel
theorem dX10_ladder_16 : decode cX10_ladder 16 = .ok (.ifCond .eq 13, 3) := by decide +kernel
theorem dX10_ladder_19 : decode cX10_ladder 19 = .ok (.iload_n 3, 1) := by decide +kernel
theorem dX10_ladder_20 : decode cX10_ladder 20 = .ok (.iconst 0, 1) := by decide +kernel
theorem dX10_ladder_21 : decode cX10_ladder 21 = .ok (.ldc 122, 2) := by decide +kernel
theorem dX10_ladder_23 : decode cX10_ladder 23 = .ok (.invokestatic 11, 3) := by decide +kernel
theorem dX10_ladder_26 : decode cX10_ladder 26 = .ok (.ifCond .ne 5, 3) := by decide +kernel
theorem dX10_ladder_29 : decode cX10_ladder 29 = .ok (.iconst 0, 1) := by decide +kernel
theorem dX10_ladder_30 : decode cX10_ladder 30 = .ok (.ireturn, 1) := by decide +kernel
theorem dX10_ladder_31 : decode cX10_ladder 31 = .ok (.aload_n 0, 1) := by decide +kernel
theorem dX10_ladder_32 : decode cX10_ladder 32 = .ok (.getfield 48, 3) := by decide +kernel
theorem dX10_ladder_35 : decode cX10_ladder 35 = .ok (.getfield 123, 3) := by decide +kernel
theorem dX10_ladder_38 : decode cX10_ladder 38 = .ok (.iload_n 1, 1) := by decide +kernel
theorem dX10_ladder_39 : decode cX10_ladder 39 = .ok (.iload_n 2, 1) := by decide +kernel
theorem dX10_ladder_40 : decode cX10_ladder 40 = .ok (.iastore, 1) := by decide +kernel
theorem dX10_ladder_41 : decode cX10_ladder 41 = .ok (.aload_n 0, 1) := by decide +kernel
theorem dX10_ladder_42 : decode cX10_ladder 42 = .ok (.getfield 48, 3) := by decide +kernel
theorem dX10_ladder_45 : decode cX10_ladder 45 = .ok (.getfield 126, 3) := by decide +kernel
theorem dX10_ladder_48 : decode cX10_ladder 48 = .ok (.iload_n 1, 1) := by decide +kernel
theorem dX10_ladder_49 : decode cX10_ladder 49 = .ok (.iload_n 3, 1) := by decide +kernel
theorem dX10_ladder_50 : decode cX10_ladder 50 = .ok (.iastore, 1) := by decide +kernel
theorem dX10_ladder_51 : decode cX10_ladder 51 = .ok (.iconst 1, 1) := by decide +kernel
theorem dX10_ladder_52 : decode cX10_ladder 52 = .ok (.ireturn, 1) := by decide +kernel
theorem dX10_needNow_0 : decode cX10_needNow 0 = .ok (.iload_n 1, 1) := by decide +kernel
theorem dX10_needNow_1 : decode cX10_needNow 1 = .ok (.iconst 0, 1) := by decide +kernel
theorem dX10_needNow_2 : decode cX10_needNow 2 = .ok (.iconst 5, 1) := by decide +kernel
theorem dX10_needNow_3 : decode cX10_needNow 3 = .ok (.invokestatic 11, 3) := by decide +kernel
theorem dX10_needNow_6 : decode cX10_needNow 6 = .ok (.ifCond .eq 15, 3) := by decide +kernel
theorem dX10_needNow_9 : decode cX10_needNow 9 = .ok (.aload_n 0, 1) := by decide +kernel
theorem dX10_needNow_10 : decode cX10_needNow 10 = .ok (.getfield 48, 3) := by decide +kernel
theorem dX10_needNow_13 : decode cX10_needNow 13 = .ok (.getfield 117, 3) := by decide +kernel
theorem dX10_needNow_16 : decode cX10_needNow 16 = .ok (.iload_n 1, 1) := by decide +kernel
theorem dX10_needNow_17 : decode cX10_needNow 17 = .ok (.iaload, 1) := by decide +kernel
theorem dX10_needNow_18 : decode cX10_needNow 18 = .ok (.goto 4, 3) := by decide +kernel
theorem dX10_needNow_21 : decode cX10_needNow 21 = .ok (.iconst (-1), 1) := by decide +kernel
theorem dX10_needNow_22 : decode cX10_needNow 22 = .ok (.ireturn, 1) := by decide +kernel
theorem dX10_saw_0 : decode cX10_saw 0 = .ok (.aload_n 0, 1) := by decide +kernel
theorem dX10_saw_1 : decode cX10_saw 1 = .ok (.getfield 18, 3) := by decide +kernel
theorem dX10_saw_4 : decode cX10_saw 4 = .ok (.getfield 88, 3) := by decide +kernel
theorem dX10_saw_7 : decode cX10_saw 7 = .ok (.astore_n 2, 1) := by decide +kernel
theorem dX10_saw_8 : decode cX10_saw 8 = .ok (.iload_n 1, 1) := by decide +kernel
theorem dX10_saw_9 : decode cX10_saw 9 = .ok (.iconst 0, 1) := by decide +kernel
theorem dX10_saw_10 : decode cX10_saw 10 = .ok (.aload_n 2, 1) := by decide +kernel
theorem dX10_saw_11 : decode cX10_saw 11 = .ok (.getfield 92, 3) := by decide +kernel
theorem dX10_saw_14 : decode cX10_saw 14 = .ok (.iconst 1, 1) := by decide +kernel
theorem dX10_saw_15 : decode cX10_saw 15 = .ok (.isub, 1) := by decide +kernel
theorem dX10_saw_16 : decode cX10_saw 16 = .ok (.invokestatic 11, 3) := by decide +kernel
theorem dX10_saw_19 : decode cX10_saw 19 = .ok (.ifCond .ne 11, 3) := by decide +kernel
theorem dX10_saw_22 : decode cX10_saw 22 = .ok (.new 97, 3) := by decide +kernel
theorem dX10_saw_25 : decode cX10_saw 25 = .ok (.dup, 1) := by decide +kernel
theorem dX10_saw_26 : decode cX10_saw 26 = .ok (.invokespecial 99, 3) := by decide +kernel
theorem dX10_saw_29 : decode cX10_saw 29 = .ok (.athrow, 1) := by decide +kernel
theorem dX10_saw_30 : decode cX10_saw 30 = .ok (.aload_n 0, 1) := by decide +kernel
theorem dX10_saw_31 : decode cX10_saw 31 = .ok (.getfield 35, 3) := by decide +kernel
theorem dX10_saw_34 : decode cX10_saw 34 = .ok (.aload_n 2, 1) := by decide +kernel
theorem dX10_saw_35 : decode cX10_saw 35 = .ok (.iload_n 1, 1) := by decide +kernel
theorem dX10_saw_36 : decode cX10_saw 36 = .ok (.iconst 2, 1) := by decide +kernel
theorem dX10_saw_37 : decode cX10_saw 37 = .ok (.invokevirtual 100, 3) := by decide +kernel
theorem dX10_saw_40 : decode cX10_saw 40 = .ok (.aload_n 2, 1) := by decide +kernel
theorem dX10_saw_41 : decode cX10_saw 41 = .ok (.iload_n 1, 1) := by decide +kernel
theorem dX10_saw_42 : decode cX10_saw 42 = .ok (.iconst 4, 1) := by decide +kernel
theorem dX10_saw_43 : decode cX10_saw 43 = .ok (.invokevirtual 100, 3) := by decide +kernel
theorem dX10_saw_46 : decode cX10_saw 46 = .ok (.invokevirtual 129, 3) := by decide +kernel
theorem dX10_saw_49 : decode cX10_saw 49 = .ok (.ireturn, 1) := by decide +kernel
theorem dX10_boards_0 : decode cX10_boards 0 = .ok (.aload_n 0, 1) := by decide +kernel
theorem dX10_boards_1 : decode cX10_boards 1 = .ok (.getfield 35, 3) := by decide +kernel
theorem dX10_boards_4 : decode cX10_boards 4 = .ok (.getfield 132, 3) := by decide +kernel
theorem dX10_boards_7 : decode cX10_boards 7 = .ok (.invokevirtual 136, 3) := by decide +kernel
theorem dX10_boards_10 : decode cX10_boards 10 = .ok (.ireturn, 1) := by decide +kernel
theorem dX10_board_0 : decode cX10_board 0 = .ok (.aload_n 0, 1) := by decide +kernel
theorem dX10_board_1 : decode cX10_board 1 = .ok (.getfield 35, 3) := by decide +kernel
theorem dX10_board_4 : decode cX10_board 4 = .ok (.getfield 132, 3) := by decide +kernel
theorem dX10_board_7 : decode cX10_board 7 = .ok (.astore_n 3, 1) := by decide +kernel
theorem dX10_board_8 : decode cX10_board 8 = .ok (.iload_n 1, 1) := by decide +kernel
theorem dX10_board_9 : decode cX10_board 9 = .ok (.iconst 0, 1) := by decide +kernel
theorem dX10_board_10 : decode cX10_board 10 = .ok (.aload_n 3, 1) := by decide +kernel
theorem dX10_board_11 : decode cX10_board 11 = .ok (.invokevirtual 136, 3) := by decide +kernel
theorem dX10_board_14 : decode cX10_board 14 = .ok (.iconst 1, 1) := by decide +kernel
theorem dX10_board_15 : decode cX10_board 15 = .ok (.isub, 1) := by decide +kernel
theorem dX10_board_16 : decode cX10_board 16 = .ok (.invokestatic 11, 3) := by decide +kernel
theorem dX10_board_19 : decode cX10_board 19 = .ok (.ifCond .eq 12, 3) := by decide +kernel
theorem dX10_board_22 : decode cX10_board 22 = .ok (.iload_n 2, 1) := by decide +kernel
theorem dX10_board_23 : decode cX10_board 23 = .ok (.iconst 0, 1) := by decide +kernel
theorem dX10_board_24 : decode cX10_board 24 = .ok (.iconst 3, 1) := by decide +kernel
theorem dX10_board_25 : decode cX10_board 25 = .ok (.invokestatic 11, 3) := by decide +kernel
theorem dX10_board_28 : decode cX10_board 28 = .ok (.ifCond .ne 11, 3) := by decide +kernel
theorem dX10_board_31 : decode cX10_board 31 = .ok (.new 97, 3) := by decide +kernel
theorem dX10_board_34 : decode cX10_board 34 = .ok (.dup, 1) := by decide +kernel
theorem dX10_board_35 : decode cX10_board 35 = .ok (.invokespecial 99, 3) := by decide +kernel
theorem dX10_board_38 : decode cX10_board 38 = .ok (.athrow, 1) := by decide +kernel
theorem dX10_board_39 : decode cX10_board 39 = .ok (.aload_n 3, 1) := by decide +kernel
theorem dX10_board_40 : decode cX10_board 40 = .ok (.iload_n 1, 1) := by decide +kernel
theorem dX10_board_41 : decode cX10_board 41 = .ok (.iload_n 2, 1) := by decide +kernel
theorem dX10_board_42 : decode cX10_board 42 = .ok (.invokevirtual 140, 3) := by decide +kernel
theorem dX10_board_45 : decode cX10_board 45 = .ok (.ireturn, 1) := by decide +kernel
theorem dX10_cant_0 : decode cX10_cant 0 = .ok (.aload_n 0, 1) := by decide +kernel
theorem dX10_cant_1 : decode cX10_cant 1 = .ok (.getfield 35, 3) := by decide +kernel
theorem dX10_cant_4 : decode cX10_cant 4 = .ok (.getfield 132, 3) := by decide +kernel
theorem dX10_cant_7 : decode cX10_cant 7 = .ok (.getfield 141, 3) := by decide +kernel
theorem dX10_cant_10 : decode cX10_cant 10 = .ok (.ireturn, 1) := by decide +kernel
theorem dX10_fits_0 : decode cX10_fits 0 = .ok (.aload_n 0, 1) := by decide +kernel
theorem dX10_fits_1 : decode cX10_fits 1 = .ok (.iload_n 1, 1) := by decide +kernel
theorem dX10_fits_2 : decode cX10_fits 2 = .ok (.invokevirtual 106, 3) := by decide +kernel
theorem dX10_fits_5 : decode cX10_fits 5 = .ok (.ifCond .eq 26, 3) := by decide +kernel
theorem dX10_fits_8 : decode cX10_fits 8 = .ok (.iload_n 2, 1) := by decide +kernel
theorem dX10_fits_9 : decode cX10_fits 9 = .ok (.iconst 1, 1) := by decide +kernel
theorem dX10_fits_10 : decode cX10_fits 10 = .ok (.sipush 200, 3) := by decide +kernel
theorem dX10_fits_13 : decode cX10_fits 13 = .ok (.invokestatic 11, 3) := by decide +kernel
theorem dX10_fits_16 : decode cX10_fits 16 = .ok (.ifCond .eq 15, 3) := by decide +kernel
theorem dX10_fits_19 : decode cX10_fits 19 = .ok (.iload_n 3, 1) := by decide +kernel
theorem dX10_fits_20 : decode cX10_fits 20 = .ok (.bipush 50, 2) := by decide +kernel
theorem dX10_fits_22 : decode cX10_fits 22 = .ok (.sipush 900, 3) := by decide +kernel
theorem dX10_fits_25 : decode cX10_fits 25 = .ok (.invokestatic 11, 3) := by decide +kernel
theorem dX10_fits_28 : decode cX10_fits 28 = .ok (.ifCond .ne 5, 3) := by decide +kernel
theorem dX10_fits_31 : decode cX10_fits 31 = .ok (.iconst 0, 1) := by decide +kernel
theorem dX10_fits_32 : decode cX10_fits 32 = .ok (.ireturn, 1) := by decide +kernel
theorem dX10_fits_33 : decode cX10_fits 33 = .ok (.aload_n 0, 1) := by decide +kernel
theorem dX10_fits_34 : decode cX10_fits 34 = .ok (.getfield 43, 3) := by decide +kernel
theorem dX10_fits_37 : decode cX10_fits 37 = .ok (.iload_n 1, 1) := by decide +kernel
theorem dX10_fits_38 : decode cX10_fits 38 = .ok (.aaload, 1) := by decide +kernel
theorem dX10_fits_39 : decode cX10_fits 39 = .ok (.astore 4, 2) := by decide +kernel
theorem dX10_fits_41 : decode cX10_fits 41 = .ok (.iload_n 2, 1) := by decide +kernel
theorem dX10_fits_42 : decode cX10_fits 42 = .ok (.aload 4, 2) := by decide +kernel
theorem dX10_fits_44 : decode cX10_fits 44 = .ok (.getfield 144, 3) := by decide +kernel
theorem dX10_fits_47 : decode cX10_fits 47 = .ok (.imul, 1) := by decide +kernel
theorem dX10_fits_48 : decode cX10_fits 48 = .ok (.iload_n 2, 1) := by decide +kernel
theorem dX10_fits_49 : decode cX10_fits 49 = .ok (.iconst 1, 1) := by decide +kernel
theorem dX10_fits_50 : decode cX10_fits 50 = .ok (.isub, 1) := by decide +kernel
theorem dX10_fits_51 : decode cX10_fits 51 = .ok (.aload_n 0, 1) := by decide +kernel
theorem dX10_fits_52 : decode cX10_fits 52 = .ok (.getfield 35, 3) := by decide +kernel
theorem dX10_fits_55 : decode cX10_fits 55 = .ok (.getfield 114, 3) := by decide +kernel
theorem dX10_fits_58 : decode cX10_fits 58 = .ok (.imul, 1) := by decide +kernel
theorem dX10_fits_59 : decode cX10_fits 59 = .ok (.iadd, 1) := by decide +kernel
theorem dX10_fits_60 : decode cX10_fits 60 = .ok (.istore 5, 2) := by decide +kernel
theorem dX10_fits_62 : decode cX10_fits 62 = .ok (.iload 5, 2) := by decide +kernel
theorem dX10_fits_64 : decode cX10_fits 64 = .ok (.bipush 10, 2) := by decide +kernel
theorem dX10_fits_66 : decode cX10_fits 66 = .ok (.iload_n 3, 1) := by decide +kernel
theorem dX10_fits_67 : decode cX10_fits 67 = .ok (.imul, 1) := by decide +kernel
theorem dX10_fits_68 : decode cX10_fits 68 = .ok (.aload 4, 2) := by decide +kernel
theorem dX10_fits_70 : decode cX10_fits 70 = .ok (.getfield 147, 3) := by decide +kernel
theorem dX10_fits_73 : decode cX10_fits 73 = .ok (.invokestatic 150, 3) := by decide +kernel
theorem dX10_fits_76 : decode cX10_fits 76 = .ok (.if_icmp .gt 7, 3) := by decide +kernel
theorem dX10_fits_79 : decode cX10_fits 79 = .ok (.iconst 1, 1) := by decide +kernel
theorem dX10_fits_80 : decode cX10_fits 80 = .ok (.goto 4, 3) := by decide +kernel
theorem dX10_fits_83 : decode cX10_fits 83 = .ok (.iconst 0, 1) := by decide +kernel
theorem dX10_fits_84 : decode cX10_fits 84 = .ok (.ireturn, 1) := by decide +kernel
theorem dX10_isToldSize_0 : decode cX10_isToldSize 0 = .ok (.iload_n 1, 1) := by decide +kernel
theorem dX10_isToldSize_1 : decode cX10_isToldSize 1 = .ok (.iconst 0, 1) := by decide +kernel
theorem dX10_isToldSize_2 : decode cX10_isToldSize 2 = .ok (.iconst 5, 1) := by decide +kernel
theorem dX10_isToldSize_3 : decode cX10_isToldSize 3 = .ok (.invokestatic 11, 3) := by decide +kernel
theorem dX10_isToldSize_6 : decode cX10_isToldSize 6 = .ok (.ifCond .eq 19, 3) := by decide +kernel
theorem dX10_isToldSize_9 : decode cX10_isToldSize 9 = .ok (.aload_n 0, 1) := by decide +kernel
theorem dX10_isToldSize_10 : decode cX10_isToldSize 10 = .ok (.getfield 43, 3) := by decide +kernel
theorem dX10_isToldSize_13 : decode cX10_isToldSize 13 = .ok (.iload_n 1, 1) := by decide +kernel
theorem dX10_isToldSize_14 : decode cX10_isToldSize 14 = .ok (.aaload, 1) := by decide +kernel
theorem dX10_isToldSize_15 : decode cX10_isToldSize 15 = .ok (.invokevirtual 153, 3) := by decide +kernel
theorem dX10_isToldSize_18 : decode cX10_isToldSize 18 = .ok (.ifCond .eq 7, 3) := by decide +kernel
theorem dX10_isToldSize_21 : decode cX10_isToldSize 21 = .ok (.iconst 1, 1) := by decide +kernel
theorem dX10_isToldSize_22 : decode cX10_isToldSize 22 = .ok (.goto 4, 3) := by decide +kernel
theorem dX10_isToldSize_25 : decode cX10_isToldSize 25 = .ok (.iconst 0, 1) := by decide +kernel
theorem dX10_isToldSize_26 : decode cX10_isToldSize 26 = .ok (.ireturn, 1) := by decide +kernel
theorem dX10_within_0 : decode cX10_within 0 = .ok (.iload_n 0, 1) := by decide +kernel
theorem dX10_within_1 : decode cX10_within 1 = .ok (.iload_n 1, 1) := by decide +kernel
theorem dX10_within_2 : decode cX10_within 2 = .ok (.if_icmp .lt 12, 3) := by decide +kernel
theorem dX10_within_5 : decode cX10_within 5 = .ok (.iload_n 0, 1) := by decide +kernel
theorem dX10_within_6 : decode cX10_within 6 = .ok (.iload_n 2, 1) := by decide +kernel
theorem dX10_within_7 : decode cX10_within 7 = .ok (.if_icmp .gt 7, 3) := by decide +kernel
theorem dX10_within_10 : decode cX10_within 10 = .ok (.iconst 1, 1) := by decide +kernel
theorem dX10_within_11 : decode cX10_within 11 = .ok (.goto 4, 3) := by decide +kernel
theorem dX10_within_14 : decode cX10_within 14 = .ok (.iconst 0, 1) := by decide +kernel
theorem dX10_within_15 : decode cX10_within 15 = .ok (.ireturn, 1) := by decide +kernel
theorem dX10_room_0 : decode cX10_room 0 = .ok (.iload_n 0, 1) := by decide +kernel
theorem dX10_room_1 : decode cX10_room 1 = .ok (.iload_n 0, 1) := by decide +kernel
theorem dX10_room_2 : decode cX10_room 2 = .ok (.imul, 1) := by decide +kernel
theorem dX10_room_3 : decode cX10_room 3 = .ok (.iload_n 1, 1) := by decide +kernel
theorem dX10_room_4 : decode cX10_room 4 = .ok (.iload_n 1, 1) := by decide +kernel
theorem dX10_room_5 : decode cX10_room 5 = .ok (.imul, 1) := by decide +kernel
theorem dX10_room_6 : decode cX10_room 6 = .ok (.isub, 1) := by decide +kernel
theorem dX10_room_7 : decode cX10_room 7 = .ok (.istore_n 2, 1) := by decide +kernel
theorem dX10_room_8 : decode cX10_room 8 = .ok (.iload_n 2, 1) := by decide +kernel
theorem dX10_room_9 : decode cX10_room 9 = .ok (.ifCond .ge 5, 3) := by decide +kernel
theorem dX10_room_12 : decode cX10_room 12 = .ok (.iconst (-1), 1) := by decide +kernel
theorem dX10_room_13 : decode cX10_room 13 = .ok (.ireturn, 1) := by decide +kernel
theorem dX10_room_14 : decode cX10_room 14 = .ok (.iconst 0, 1) := by decide +kernel
theorem dX10_room_15 : decode cX10_room 15 = .ok (.istore_n 3, 1) := by decide +kernel
theorem dX10_room_16 : decode cX10_room 16 = .ok (.sipush 8192, 3) := by decide +kernel
theorem dX10_room_19 : decode cX10_room 19 = .ok (.istore 4, 2) := by decide +kernel
theorem dX10_room_21 : decode cX10_room 21 = .ok (.iload 4, 2) := by decide +kernel
theorem dX10_room_23 : decode cX10_room 23 = .ok (.ifCond .le 30, 3) := by decide +kernel
theorem dX10_room_26 : decode cX10_room 26 = .ok (.iload_n 3, 1) := by decide +kernel
theorem dX10_room_27 : decode cX10_room 27 = .ok (.iload 4, 2) := by decide +kernel
theorem dX10_room_29 : decode cX10_room 29 = .ok (.iadd, 1) := by decide +kernel
theorem dX10_room_30 : decode cX10_room 30 = .ok (.istore 5, 2) := by decide +kernel
theorem dX10_room_32 : decode cX10_room 32 = .ok (.iload 5, 2) := by decide +kernel
theorem dX10_room_34 : decode cX10_room 34 = .ok (.iload 5, 2) := by decide +kernel
theorem dX10_room_36 : decode cX10_room 36 = .ok (.imul, 1) := by decide +kernel
theorem dX10_room_37 : decode cX10_room 37 = .ok (.iload_n 2, 1) := by decide +kernel
theorem dX10_room_38 : decode cX10_room 38 = .ok (.if_icmp .gt 6, 3) := by decide +kernel
theorem dX10_room_41 : decode cX10_room 41 = .ok (.iload 5, 2) := by decide +kernel
theorem dX10_room_43 : decode cX10_room 43 = .ok (.istore_n 3, 1) := by decide +kernel
theorem dX10_room_44 : decode cX10_room 44 = .ok (.iload 4, 2) := by decide +kernel
theorem dX10_room_46 : decode cX10_room 46 = .ok (.iconst 1, 1) := by decide +kernel
theorem dX10_room_47 : decode cX10_room 47 = .ok (.ishr, 1) := by decide +kernel
theorem dX10_room_48 : decode cX10_room 48 = .ok (.istore 4, 2) := by decide +kernel
theorem dX10_room_50 : decode cX10_room 50 = .ok (.goto (-29), 3) := by decide +kernel
theorem dX10_room_53 : decode cX10_room 53 = .ok (.iload_n 3, 1) := by decide +kernel
theorem dX10_room_54 : decode cX10_room 54 = .ok (.ireturn, 1) := by decide +kernel
theorem dJ7_fill_53178_0 : decode cJ7_fill_53178 0 = .ok (.iconst 0, 1) := by decide +kernel
theorem dJ7_fill_53178_1 : decode cJ7_fill_53178 1 = .ok (.istore_n 2, 1) := by decide +kernel
theorem dJ7_fill_53178_2 : decode cJ7_fill_53178 2 = .ok (.aload_n 0, 1) := by decide +kernel
theorem dJ7_fill_53178_3 : decode cJ7_fill_53178 3 = .ok (.arraylength, 1) := by decide +kernel
theorem dJ7_fill_53178_4 : decode cJ7_fill_53178 4 = .ok (.istore_n 3, 1) := by decide +kernel
theorem dJ7_fill_53178_5 : decode cJ7_fill_53178 5 = .ok (.iload_n 2, 1) := by decide +kernel
theorem dJ7_fill_53178_6 : decode cJ7_fill_53178 6 = .ok (.iload_n 3, 1) := by decide +kernel
theorem dJ7_fill_53178_7 : decode cJ7_fill_53178 7 = .ok (.if_icmp .ge 13, 3) := by decide +kernel
theorem dJ7_fill_53178_10 : decode cJ7_fill_53178 10 = .ok (.aload_n 0, 1) := by decide +kernel
theorem dJ7_fill_53178_11 : decode cJ7_fill_53178 11 = .ok (.iload_n 2, 1) := by decide +kernel
theorem dJ7_fill_53178_12 : decode cJ7_fill_53178 12 = .ok (.iload_n 1, 1) := by decide +kernel
theorem dJ7_fill_53178_13 : decode cJ7_fill_53178 13 = .ok (.iastore, 1) := by decide +kernel
theorem dJ7_fill_53178_14 : decode cJ7_fill_53178 14 = .ok (.iinc 2 1, 3) := by decide +kernel
theorem dJ7_fill_53178_17 : decode cJ7_fill_53178 17 = .ok (.goto (-12), 3) := by decide +kernel
theorem dJ7_fill_53178_20 : decode cJ7_fill_53178 20 = .ok (.return_, 1) := by decide +kernel
