theorem dX1_init_0 : decode cX1_init 0 = .ok (.aload_n 0, 1) := by decide +kernel
theorem dX1_init_1 : decode cX1_init 1 = .ok (.invokespecial 1, 3) := by decide +kernel
theorem dX1_init_4 : decode cX1_init 4 = .ok (.aload_n 0, 1) := by decide +kernel
theorem dX1_init_5 : decode cX1_init 5 = .ok (.iconst 1, 1) := by decide +kernel
theorem dX1_init_6 : decode cX1_init 6 = .ok (.putfield 7, 3) := by decide +kernel
theorem dX1_init_9 : decode cX1_init 9 = .ok (.aload_n 0, 1) := by decide +kernel
theorem dX1_init_10 : decode cX1_init 10 = .ok (.bipush 11, 2) := by decide +kernel
theorem dX1_init_12 : decode cX1_init 12 = .ok (.newarray .int, 2) := by decide +kernel
theorem dX1_init_14 : decode cX1_init 14 = .ok (.putfield 13, 3) := by decide +kernel
theorem dX1_init_17 : decode cX1_init 17 = .ok (.aload_n 0, 1) := by decide +kernel
theorem dX1_init_18 : decode cX1_init 18 = .ok (.bipush 11, 2) := by decide +kernel
theorem dX1_init_20 : decode cX1_init 20 = .ok (.newarray .int, 2) := by decide +kernel
theorem dX1_init_22 : decode cX1_init 22 = .ok (.putfield 17, 3) := by decide +kernel
theorem dX1_init_25 : decode cX1_init 25 = .ok (.aload_n 0, 1) := by decide +kernel
theorem dX1_init_26 : decode cX1_init 26 = .ok (.bipush 11, 2) := by decide +kernel
theorem dX1_init_28 : decode cX1_init 28 = .ok (.newarray .int, 2) := by decide +kernel
theorem dX1_init_30 : decode cX1_init 30 = .ok (.putfield 20, 3) := by decide +kernel
theorem dX1_init_33 : decode cX1_init 33 = .ok (.aload_n 0, 1) := by decide +kernel
theorem dX1_init_34 : decode cX1_init 34 = .ok (.bipush 16, 2) := by decide +kernel
theorem dX1_init_36 : decode cX1_init 36 = .ok (.newarray .int, 2) := by decide +kernel
theorem dX1_init_38 : decode cX1_init 38 = .ok (.putfield 23, 3) := by decide +kernel
theorem dX1_init_41 : decode cX1_init 41 = .ok (.aload_n 0, 1) := by decide +kernel
theorem dX1_init_42 : decode cX1_init 42 = .ok (.bipush 16, 2) := by decide +kernel
theorem dX1_init_44 : decode cX1_init 44 = .ok (.newarray .int, 2) := by decide +kernel
theorem dX1_init_46 : decode cX1_init 46 = .ok (.putfield 26, 3) := by decide +kernel
theorem dX1_init_49 : decode cX1_init 49 = .ok (.aload_n 0, 1) := by decide +kernel
theorem dX1_init_50 : decode cX1_init 50 = .ok (.bipush 16, 2) := by decide +kernel
theorem dX1_init_52 : decode cX1_init 52 = .ok (.newarray .int, 2) := by decide +kernel
theorem dX1_init_54 : decode cX1_init 54 = .ok (.putfield 29, 3) := by decide +kernel
theorem dX1_init_57 : decode cX1_init 57 = .ok (.aload_n 0, 1) := by decide +kernel
theorem dX1_init_58 : decode cX1_init 58 = .ok (.bipush 16, 2) := by decide +kernel
theorem dX1_init_60 : decode cX1_init 60 = .ok (.newarray .int, 2) := by decide +kernel
theorem dX1_init_62 : decode cX1_init 62 = .ok (.putfield 32, 3) := by decide +kernel
theorem dX1_init_65 : decode cX1_init 65 = .ok (.aload_n 0, 1) := by decide +kernel
theorem dX1_init_66 : decode cX1_init 66 = .ok (.bipush 16, 2) := by decide +kernel
theorem dX1_init_68 : decode cX1_init 68 = .ok (.newarray .boolean, 2) := by decide +kernel
theorem dX1_init_70 : decode cX1_init 70 = .ok (.putfield 35, 3) := by decide +kernel
theorem dX1_init_73 : decode cX1_init 73 = .ok (.aload_n 0, 1) := by decide +kernel
theorem dX1_init_74 : decode cX1_init 74 = .ok (.bipush 16, 2) := by decide +kernel
theorem dX1_init_76 : decode cX1_init 76 = .ok (.newarray .int, 2) := by decide +kernel
theorem dX1_init_78 : decode cX1_init 78 = .ok (.putfield 39, 3) := by decide +kernel
theorem dX1_init_81 : decode cX1_init 81 = .ok (.aload_n 0, 1) := by decide +kernel
theorem dX1_init_82 : decode cX1_init 82 = .ok (.iconst (-1), 1) := by decide +kernel
theorem dX1_init_83 : decode cX1_init 83 = .ok (.putfield 42, 3) := by decide +kernel
theorem dX1_init_86 : decode cX1_init 86 = .ok (.aload_n 0, 1) := by decide +kernel
theorem dX1_init_87 : decode cX1_init 87 = .ok (.bipush 11, 2) := by decide +kernel
theorem dX1_init_89 : decode cX1_init 89 = .ok (.newarray .int, 2) := by decide +kernel
theorem dX1_init_91 : decode cX1_init 91 = .ok (.putfield 45, 3) := by decide +kernel
theorem dX1_init_94 : decode cX1_init 94 = .ok (.aload_n 0, 1) := by decide +kernel
theorem dX1_init_95 : decode cX1_init 95 = .ok (.bipush 16, 2) := by decide +kernel
theorem dX1_init_97 : decode cX1_init 97 = .ok (.newarray .int, 2) := by decide +kernel
theorem dX1_init_99 : decode cX1_init 99 = .ok (.putfield 48, 3) := by decide +kernel
theorem dX1_init_102 : decode cX1_init 102 = .ok (.aload_n 0, 1) := by decide +kernel
theorem dX1_init_103 : decode cX1_init 103 = .ok (.bipush 16, 2) := by decide +kernel
theorem dX1_init_105 : decode cX1_init 105 = .ok (.newarray .int, 2) := by decide +kernel
theorem dX1_init_107 : decode cX1_init 107 = .ok (.putfield 51, 3) := by decide +kernel
theorem dX1_init_110 : decode cX1_init 110 = .ok (.aload_n 0, 1) := by decide +kernel
theorem dX1_init_111 : decode cX1_init 111 = .ok (.bipush 16, 2) := by decide +kernel
theorem dX1_init_113 : decode cX1_init 113 = .ok (.newarray .int, 2) := by decide +kernel
theorem dX1_init_115 : decode cX1_init 115 = .ok (.putfield 54, 3) := by decide +kernel
theorem dX1_init_118 : decode cX1_init 118 = .ok (.return_, 1) := by decide +kernel
theorem dX1_thrown_0 : decode cX1_thrown 0 = .ok (.aload_n 0, 1) := by decide +kernel
theorem dX1_thrown_1 : decode cX1_thrown 1 = .ok (.getfield 57, 3) := by decide +kernel
theorem dX1_thrown_4 : decode cX1_thrown 4 = .ok (.ireturn, 1) := by decide +kernel
theorem dX1_goesWell_0 : decode cX1_goesWell 0 = .ok (.aload_n 0, 1) := by decide +kernel
theorem dX1_goesWell_1 : decode cX1_goesWell 1 = .ok (.iload_n 1, 1) := by decide +kernel
theorem dX1_goesWell_2 : decode cX1_goesWell 2 = .ok (.putfield 57, 3) := by decide +kernel
theorem dX1_goesWell_5 : decode cX1_goesWell 5 = .ok (.iload_n 1, 1) := by decide +kernel
theorem dX1_goesWell_6 : decode cX1_goesWell 6 = .ok (.ifCond .ne 7, 3) := by decide +kernel
theorem dX1_goesWell_9 : decode cX1_goesWell 9 = .ok (.iconst 1, 1) := by decide +kernel
theorem dX1_goesWell_10 : decode cX1_goesWell 10 = .ok (.goto 4, 3) := by decide +kernel
theorem dX1_goesWell_13 : decode cX1_goesWell 13 = .ok (.iconst 0, 1) := by decide +kernel
theorem dX1_goesWell_14 : decode cX1_goesWell 14 = .ok (.ireturn, 1) := by decide +kernel
theorem dX1_in_0 : decode cX1_in 0 = .ok (.iload_n 0, 1) := by decide +kernel
theorem dX1_in_1 : decode cX1_in 1 = .ok (.iload_n 1, 1) := by decide +kernel
theorem dX1_in_2 : decode cX1_in 2 = .ok (.if_icmp .lt 12, 3) := by decide +kernel
theorem dX1_in_5 : decode cX1_in 5 = .ok (.iload_n 0, 1) := by decide +kernel
theorem dX1_in_6 : decode cX1_in 6 = .ok (.iload_n 2, 1) := by decide +kernel
theorem dX1_in_7 : decode cX1_in 7 = .ok (.if_icmp .gt 7, 3) := by decide +kernel
theorem dX1_in_10 : decode cX1_in 10 = .ok (.iconst 1, 1) := by decide +kernel
theorem dX1_in_11 : decode cX1_in 11 = .ok (.goto 4, 3) := by decide +kernel
theorem dX1_in_14 : decode cX1_in 14 = .ok (.iconst 0, 1) := by decide +kernel
theorem dX1_in_15 : decode cX1_in 15 = .ok (.ireturn, 1) := by decide +kernel
theorem dX1_isPlace_0 : decode cX1_isPlace 0 = .ok (.iload_n 1, 1) := by decide +kernel
theorem dX1_isPlace_1 : decode cX1_isPlace 1 = .ok (.iconst 0, 1) := by decide +kernel
theorem dX1_isPlace_2 : decode cX1_isPlace 2 = .ok (.aload_n 0, 1) := by decide +kernel
theorem dX1_isPlace_3 : decode cX1_isPlace 3 = .ok (.getfield 7, 3) := by decide +kernel
theorem dX1_isPlace_6 : decode cX1_isPlace 6 = .ok (.iconst 1, 1) := by decide +kernel
theorem dX1_isPlace_7 : decode cX1_isPlace 7 = .ok (.isub, 1) := by decide +kernel
theorem dX1_isPlace_8 : decode cX1_isPlace 8 = .ok (.invokestatic 60, 3) := by decide +kernel
theorem dX1_isPlace_11 : decode cX1_isPlace 11 = .ok (.ireturn, 1) := by decide +kernel
theorem dX1_isDoor_0 : decode cX1_isDoor 0 = .ok (.iload_n 1, 1) := by decide +kernel
theorem dX1_isDoor_1 : decode cX1_isDoor 1 = .ok (.iconst 0, 1) := by decide +kernel
theorem dX1_isDoor_2 : decode cX1_isDoor 2 = .ok (.aload_n 0, 1) := by decide +kernel
theorem dX1_isDoor_3 : decode cX1_isDoor 3 = .ok (.getfield 64, 3) := by decide +kernel
theorem dX1_isDoor_6 : decode cX1_isDoor 6 = .ok (.iconst 1, 1) := by decide +kernel
theorem dX1_isDoor_7 : decode cX1_isDoor 7 = .ok (.isub, 1) := by decide +kernel
theorem dX1_isDoor_8 : decode cX1_isDoor 8 = .ok (.invokestatic 60, 3) := by decide +kernel
theorem dX1_isDoor_11 : decode cX1_isDoor 11 = .ok (.ireturn, 1) := by decide +kernel
theorem dX1_addPlace_0 : decode cX1_addPlace 0 = .ok (.aload_n 0, 1) := by decide +kernel
theorem dX1_addPlace_1 : decode cX1_addPlace 1 = .ok (.iload_n 1, 1) := by decide +kernel
theorem dX1_addPlace_2 : decode cX1_addPlace 2 = .ok (.iconst 1, 1) := by decide +kernel
theorem dX1_addPlace_3 : decode cX1_addPlace 3 = .ok (.bipush 30, 2) := by decide +kernel
theorem dX1_addPlace_5 : decode cX1_addPlace 5 = .ok (.invokestatic 60, 3) := by decide +kernel
theorem dX1_addPlace_8 : decode cX1_addPlace 8 = .ok (.ifCond .ne 7, 3) := by decide +kernel
theorem dX1_addPlace_11 : decode cX1_addPlace 11 = .ok (.iconst 1, 1) := by decide +kernel
theorem dX1_addPlace_12 : decode cX1_addPlace 12 = .ok (.goto 17, 3) := by decide +kernel
theorem dX1_addPlace_15 : decode cX1_addPlace 15 = .ok (.aload_n 0, 1) := by decide +kernel
theorem dX1_addPlace_16 : decode cX1_addPlace 16 = .ok (.getfield 7, 3) := by decide +kernel
theorem dX1_addPlace_19 : decode cX1_addPlace 19 = .ok (.bipush 11, 2) := by decide +kernel
theorem dX1_addPlace_21 : decode cX1_addPlace 21 = .ok (.if_icmp .ne 7, 3) := by decide +kernel
theorem dX1_addPlace_24 : decode cX1_addPlace 24 = .ok (.iconst 2, 1) := by decide +kernel
theorem dX1_addPlace_25 : decode cX1_addPlace 25 = .ok (.goto 4, 3) := by decide +kernel
theorem dX1_addPlace_28 : decode cX1_addPlace 28 = .ok (.iconst 0, 1) := by decide +kernel
theorem dX1_addPlace_29 : decode cX1_addPlace 29 = .ok (.invokevirtual 67, 3) := by decide +kernel
theorem dX1_addPlace_32 : decode cX1_addPlace 32 = .ok (.ifCond .ne 5, 3) := by decide +kernel
theorem dX1_addPlace_35 : decode cX1_addPlace 35 = .ok (.iconst 0, 1) := by decide +kernel
theorem dX1_addPlace_36 : decode cX1_addPlace 36 = .ok (.ireturn, 1) := by decide +kernel
theorem dX1_addPlace_37 : decode cX1_addPlace 37 = .ok (.aload_n 0, 1) := by decide +kernel
theorem dX1_addPlace_38 : decode cX1_addPlace 38 = .ok (.getfield 13, 3) := by decide +kernel
theorem dX1_addPlace_41 : decode cX1_addPlace 41 = .ok (.aload_n 0, 1) := by decide +kernel
theorem dX1_addPlace_42 : decode cX1_addPlace 42 = .ok (.getfield 7, 3) := by decide +kernel
theorem dX1_addPlace_45 : decode cX1_addPlace 45 = .ok (.iload_n 1, 1) := by decide +kernel
theorem dX1_addPlace_46 : decode cX1_addPlace 46 = .ok (.iastore, 1) := by decide +kernel
theorem dX1_addPlace_47 : decode cX1_addPlace 47 = .ok (.aload_n 0, 1) := by decide +kernel
theorem dX1_addPlace_48 : decode cX1_addPlace 48 = .ok (.dup, 1) := by decide +kernel
theorem dX1_addPlace_49 : decode cX1_addPlace 49 = .ok (.getfield 7, 3) := by decide +kernel
theorem dX1_addPlace_52 : decode cX1_addPlace 52 = .ok (.iconst 1, 1) := by decide +kernel
theorem dX1_addPlace_53 : decode cX1_addPlace 53 = .ok (.iadd, 1) := by decide +kernel
theorem dX1_addPlace_54 : decode cX1_addPlace 54 = .ok (.putfield 7, 3) := by decide +kernel
theorem dX1_addPlace_57 : decode cX1_addPlace 57 = .ok (.aload_n 0, 1) := by decide +kernel
theorem dX1_addPlace_58 : decode cX1_addPlace 58 = .ok (.getfield 7, 3) := by decide +kernel
theorem dX1_addPlace_61 : decode cX1_addPlace 61 = .ok (.iconst 1, 1) := by decide +kernel
theorem dX1_addPlace_62 : decode cX1_addPlace 62 = .ok (.isub, 1) := by decide +kernel
theorem dX1_addPlace_63 : decode cX1_addPlace 63 = .ok (.ireturn, 1) := by decide +kernel
theorem dX1_addDoor_0 : decode cX1_addDoor 0 = .ok (.iload_n 1, 1) := by decide +kernel
theorem dX1_addDoor_1 : decode cX1_addDoor 1 = .ok (.iload_n 2, 1) := by decide +kernel
theorem dX1_addDoor_2 : decode cX1_addDoor 2 = .ok (.if_icmp .eq 27, 3) := by decide +kernel
theorem dX1_addDoor_5 : decode cX1_addDoor 5 = .ok (.iload_n 3, 1) := by decide +kernel
theorem dX1_addDoor_6 : decode cX1_addDoor 6 = .ok (.iconst 1, 1) := by decide +kernel
theorem dX1_addDoor_7 : decode cX1_addDoor 7 = .ok (.bipush 9, 2) := by decide +kernel
theorem dX1_addDoor_9 : decode cX1_addDoor 9 = .ok (.invokestatic 60, 3) := by decide +kernel
theorem dX1_addDoor_12 : decode cX1_addDoor 12 = .ok (.ifCond .eq 17, 3) := by decide +kernel
theorem dX1_addDoor_15 : decode cX1_addDoor 15 = .ok (.iload 4, 2) := by decide +kernel
theorem dX1_addDoor_17 : decode cX1_addDoor 17 = .ok (.iconst 1, 1) := by decide +kernel
theorem dX1_addDoor_18 : decode cX1_addDoor 18 = .ok (.iconst 5, 1) := by decide +kernel
theorem dX1_addDoor_19 : decode cX1_addDoor 19 = .ok (.invokestatic 60, 3) := by decide +kernel
theorem dX1_addDoor_22 : decode cX1_addDoor 22 = .ok (.ifCond .eq 7, 3) := by decide +kernel
theorem dX1_addDoor_25 : decode cX1_addDoor 25 = .ok (.iconst 1, 1) := by decide +kernel
theorem dX1_addDoor_26 : decode cX1_addDoor 26 = .ok (.goto 4, 3) := by decide +kernel
theorem dX1_addDoor_29 : decode cX1_addDoor 29 = .ok (.iconst 0, 1) := by decide +kernel
theorem dX1_addDoor_30 : decode cX1_addDoor 30 = .ok (.istore 5, 2) := by decide +kernel
theorem dX1_addDoor_32 : decode cX1_addDoor 32 = .ok (.aload_n 0, 1) := by decide +kernel
theorem dX1_addDoor_33 : decode cX1_addDoor 33 = .ok (.aload_n 0, 1) := by decide +kernel
theorem dX1_addDoor_34 : decode cX1_addDoor 34 = .ok (.iload_n 1, 1) := by decide +kernel
theorem dX1_addDoor_35 : decode cX1_addDoor 35 = .ok (.invokevirtual 71, 3) := by decide +kernel
theorem dX1_addDoor_38 : decode cX1_addDoor 38 = .ok (.ifCond .eq 11, 3) := by decide +kernel
theorem dX1_addDoor_41 : decode cX1_addDoor 41 = .ok (.aload_n 0, 1) := by decide +kernel
theorem dX1_addDoor_42 : decode cX1_addDoor 42 = .ok (.iload_n 2, 1) := by decide +kernel
theorem dX1_addDoor_43 : decode cX1_addDoor 43 = .ok (.invokevirtual 71, 3) := by decide +kernel
theorem dX1_addDoor_46 : decode cX1_addDoor 46 = .ok (.ifCond .ne 7, 3) := by decide +kernel
theorem dX1_addDoor_49 : decode cX1_addDoor 49 = .ok (.iconst 1, 1) := by decide +kernel
theorem dX1_addDoor_50 : decode cX1_addDoor 50 = .ok (.goto 26, 3) := by decide +kernel
theorem dX1_addDoor_53 : decode cX1_addDoor 53 = .ok (.iload 5, 2) := by decide +kernel
theorem dX1_addDoor_55 : decode cX1_addDoor 55 = .ok (.ifCond .ne 7, 3) := by decide +kernel
theorem dX1_addDoor_58 : decode cX1_addDoor 58 = .ok (.iconst 2, 1) := by decide +kernel
theorem dX1_addDoor_59 : decode cX1_addDoor 59 = .ok (.goto 17, 3) := by decide +kernel
theorem dX1_addDoor_62 : decode cX1_addDoor 62 = .ok (.aload_n 0, 1) := by decide +kernel
theorem dX1_addDoor_63 : decode cX1_addDoor 63 = .ok (.getfield 64, 3) := by decide +kernel
theorem dX1_addDoor_66 : decode cX1_addDoor 66 = .ok (.bipush 16, 2) := by decide +kernel
theorem dX1_addDoor_68 : decode cX1_addDoor 68 = .ok (.if_icmp .ne 7, 3) := by decide +kernel
theorem dX1_addDoor_71 : decode cX1_addDoor 71 = .ok (.iconst 3, 1) := by decide +kernel
theorem dX1_addDoor_72 : decode cX1_addDoor 72 = .ok (.goto 4, 3) := by decide +kernel
theorem dX1_addDoor_75 : decode cX1_addDoor 75 = .ok (.iconst 0, 1) := by decide +kernel
theorem dX1_addDoor_76 : decode cX1_addDoor 76 = .ok (.invokevirtual 67, 3) := by decide +kernel
theorem dX1_addDoor_79 : decode cX1_addDoor 79 = .ok (.ifCond .ne 5, 3) := by decide +kernel
theorem dX1_addDoor_82 : decode cX1_addDoor 82 = .ok (.iconst 0, 1) := by decide +kernel
theorem dX1_addDoor_83 : decode cX1_addDoor 83 = .ok (.ireturn, 1) := by decide +kernel
theorem dX1_addDoor_84 : decode cX1_addDoor 84 = .ok (.aload_n 0, 1) := by decide +kernel
theorem dX1_addDoor_85 : decode cX1_addDoor 85 = .ok (.getfield 23, 3) := by decide +kernel
theorem dX1_addDoor_88 : decode cX1_addDoor 88 = .ok (.aload_n 0, 1) := by decide +kernel
theorem dX1_addDoor_89 : decode cX1_addDoor 89 = .ok (.getfield 64, 3) := by decide +kernel
theorem dX1_addDoor_92 : decode cX1_addDoor 92 = .ok (.iload_n 1, 1) := by decide +kernel
theorem dX1_addDoor_93 : decode cX1_addDoor 93 = .ok (.iastore, 1) := by decide +kernel
theorem dX1_addDoor_94 : decode cX1_addDoor 94 = .ok (.aload_n 0, 1) := by decide +kernel
theorem dX1_addDoor_95 : decode cX1_addDoor 95 = .ok (.getfield 26, 3) := by decide +kernel
theorem dX1_addDoor_98 : decode cX1_addDoor 98 = .ok (.aload_n 0, 1) := by decide +kernel
theorem dX1_addDoor_99 : decode cX1_addDoor 99 = .ok (.getfield 64, 3) := by decide +kernel
theorem dX1_addDoor_102 : decode cX1_addDoor 102 = .ok (.iload_n 2, 1) := by decide +kernel
theorem dX1_addDoor_103 : decode cX1_addDoor 103 = .ok (.iastore, 1) := by decide +kernel
theorem dX1_addDoor_104 : decode cX1_addDoor 104 = .ok (.aload_n 0, 1) := by decide +kernel
theorem dX1_addDoor_105 : decode cX1_addDoor 105 = .ok (.getfield 29, 3) := by decide +kernel
theorem dX1_addDoor_108 : decode cX1_addDoor 108 = .ok (.aload_n 0, 1) := by decide +kernel
theorem dX1_addDoor_109 : decode cX1_addDoor 109 = .ok (.getfield 64, 3) := by decide +kernel
theorem dX1_addDoor_112 : decode cX1_addDoor 112 = .ok (.iload_n 3, 1) := by decide +kernel
theorem dX1_addDoor_113 : decode cX1_addDoor 113 = .ok (.iastore, 1) := by decide +kernel
theorem dX1_addDoor_114 : decode cX1_addDoor 114 = .ok (.aload_n 0, 1) := by decide +kernel
theorem dX1_addDoor_115 : decode cX1_addDoor 115 = .ok (.getfield 32, 3) := by decide +kernel
theorem dX1_addDoor_118 : decode cX1_addDoor 118 = .ok (.aload_n 0, 1) := by decide +kernel
theorem dX1_addDoor_119 : decode cX1_addDoor 119 = .ok (.getfield 64, 3) := by decide +kernel
theorem dX1_addDoor_122 : decode cX1_addDoor 122 = .ok (.iload 4, 2) := by decide +kernel
theorem dX1_addDoor_124 : decode cX1_addDoor 124 = .ok (.iastore, 1) := by decide +kernel
theorem dX1_addDoor_125 : decode cX1_addDoor 125 = .ok (.aload_n 0, 1) := by decide +kernel
theorem dX1_addDoor_126 : decode cX1_addDoor 126 = .ok (.getfield 35, 3) := by decide +kernel
theorem dX1_addDoor_129 : decode cX1_addDoor 129 = .ok (.aload_n 0, 1) := by decide +kernel
theorem dX1_addDoor_130 : decode cX1_addDoor 130 = .ok (.getfield 64, 3) := by decide +kernel
theorem dX1_addDoor_133 : decode cX1_addDoor 133 = .ok (.iconst 1, 1) := by decide +kernel
theorem dX1_addDoor_134 : decode cX1_addDoor 134 = .ok (.bastore, 1) := by decide +kernel
theorem dX1_addDoor_135 : decode cX1_addDoor 135 = .ok (.aload_n 0, 1) := by decide +kernel
theorem dX1_addDoor_136 : decode cX1_addDoor 136 = .ok (.dup, 1) := by decide +kernel
theorem dX1_addDoor_137 : decode cX1_addDoor 137 = .ok (.getfield 64, 3) := by decide +kernel
theorem dX1_addDoor_140 : decode cX1_addDoor 140 = .ok (.iconst 1, 1) := by decide +kernel
theorem dX1_addDoor_141 : decode cX1_addDoor 141 = .ok (.iadd, 1) := by decide +kernel
theorem dX1_addDoor_142 : decode cX1_addDoor 142 = .ok (.putfield 64, 3) := by decide +kernel
theorem dX1_addDoor_145 : decode cX1_addDoor 145 = .ok (.aload_n 0, 1) := by decide +kernel
theorem dX1_addDoor_146 : decode cX1_addDoor 146 = .ok (.getfield 64, 3) := by decide +kernel
theorem dX1_addDoor_149 : decode cX1_addDoor 149 = .ok (.iconst 1, 1) := by decide +kernel
theorem dX1_addDoor_150 : decode cX1_addDoor 150 = .ok (.isub, 1) := by decide +kernel
theorem dX1_addDoor_151 : decode cX1_addDoor 151 = .ok (.ireturn, 1) := by decide +kernel
theorem dX1_setDoor_0 : decode cX1_setDoor 0 = .ok (.aload_n 0, 1) := by decide +kernel
theorem dX1_setDoor_1 : decode cX1_setDoor 1 = .ok (.aload_n 0, 1) := by decide +kernel
theorem dX1_setDoor_2 : decode cX1_setDoor 2 = .ok (.iload_n 1, 1) := by decide +kernel
theorem dX1_setDoor_3 : decode cX1_setDoor 3 = .ok (.invokevirtual 74, 3) := by decide +kernel
theorem dX1_setDoor_6 : decode cX1_setDoor 6 = .ok (.ifCond .eq 7, 3) := by decide +kernel
theorem dX1_setDoor_9 : decode cX1_setDoor 9 = .ok (.iconst 0, 1) := by decide +kernel
theorem dX1_setDoor_10 : decode cX1_setDoor 10 = .ok (.goto 4, 3) := by decide +kernel
theorem dX1_setDoor_13 : decode cX1_setDoor 13 = .ok (.iconst 1, 1) := by decide +kernel
theorem dX1_setDoor_14 : decode cX1_setDoor 14 = .ok (.invokevirtual 67, 3) := by decide +kernel
theorem dX1_setDoor_17 : decode cX1_setDoor 17 = .ok (.ifCond .ne 5, 3) := by decide +kernel
theorem dX1_setDoor_20 : decode cX1_setDoor 20 = .ok (.iconst 0, 1) := by decide +kernel
theorem dX1_setDoor_21 : decode cX1_setDoor 21 = .ok (.ireturn, 1) := by decide +kernel
theorem dX1_setDoor_22 : decode cX1_setDoor 22 = .ok (.aload_n 0, 1) := by decide +kernel
theorem dX1_setDoor_23 : decode cX1_setDoor 23 = .ok (.getfield 35, 3) := by decide +kernel
theorem dX1_setDoor_26 : decode cX1_setDoor 26 = .ok (.iload_n 1, 1) := by decide +kernel
theorem dX1_setDoor_27 : decode cX1_setDoor 27 = .ok (.baload, 1) := by decide +kernel
theorem dX1_setDoor_28 : decode cX1_setDoor 28 = .ok (.istore_n 3, 1) := by decide +kernel
theorem dX1_setDoor_29 : decode cX1_setDoor 29 = .ok (.aload_n 0, 1) := by decide +kernel
theorem dX1_setDoor_30 : decode cX1_setDoor 30 = .ok (.getfield 35, 3) := by decide +kernel
theorem dX1_setDoor_33 : decode cX1_setDoor 33 = .ok (.iload_n 1, 1) := by decide +kernel
theorem dX1_setDoor_34 : decode cX1_setDoor 34 = .ok (.iload_n 2, 1) := by decide +kernel
theorem dX1_setDoor_35 : decode cX1_setDoor 35 = .ok (.bastore, 1) := by decide +kernel
theorem dX1_setDoor_36 : decode cX1_setDoor 36 = .ok (.iload_n 3, 1) := by decide +kernel
theorem dX1_setDoor_37 : decode cX1_setDoor 37 = .ok (.ireturn, 1) := by decide +kernel
theorem dX1_come_0 : decode cX1_come 0 = .ok (.iload_n 1, 1) := by decide +kernel
theorem dX1_come_1 : decode cX1_come 1 = .ok (.ifCond .eq 17, 3) := by decide +kernel
theorem dX1_come_4 : decode cX1_come 4 = .ok (.iload_n 2, 1) := by decide +kernel
theorem dX1_come_5 : decode cX1_come 5 = .ok (.iconst 1, 1) := by decide +kernel
theorem dX1_come_6 : decode cX1_come 6 = .ok (.bipush 30, 2) := by decide +kernel
theorem dX1_come_8 : decode cX1_come 8 = .ok (.invokestatic 60, 3) := by decide +kernel
theorem dX1_come_11 : decode cX1_come 11 = .ok (.ifCond .eq 7, 3) := by decide +kernel
theorem dX1_come_14 : decode cX1_come 14 = .ok (.iconst 1, 1) := by decide +kernel
theorem dX1_come_15 : decode cX1_come 15 = .ok (.goto 4, 3) := by decide +kernel
theorem dX1_come_18 : decode cX1_come 18 = .ok (.iconst 0, 1) := by decide +kernel
theorem dX1_come_19 : decode cX1_come 19 = .ok (.istore_n 3, 1) := by decide +kernel
theorem dX1_come_20 : decode cX1_come 20 = .ok (.aload_n 0, 1) := by decide +kernel
theorem dX1_come_21 : decode cX1_come 21 = .ok (.iload_n 1, 1) := by decide +kernel
theorem dX1_come_22 : decode cX1_come 22 = .ok (.invokevirtual 71, 3) := by decide +kernel
theorem dX1_come_25 : decode cX1_come 25 = .ok (.ifCond .eq 28, 3) := by decide +kernel
theorem dX1_come_28 : decode cX1_come 28 = .ok (.iload_n 3, 1) := by decide +kernel
theorem dX1_come_29 : decode cX1_come 29 = .ok (.ifCond .eq 24, 3) := by decide +kernel
theorem dX1_come_32 : decode cX1_come 32 = .ok (.aload_n 0, 1) := by decide +kernel
theorem dX1_come_33 : decode cX1_come 33 = .ok (.getfield 17, 3) := by decide +kernel
theorem dX1_come_36 : decode cX1_come 36 = .ok (.iload_n 1, 1) := by decide +kernel
theorem dX1_come_37 : decode cX1_come 37 = .ok (.iaload, 1) := by decide +kernel
theorem dX1_come_38 : decode cX1_come 38 = .ok (.iload_n 2, 1) := by decide +kernel
theorem dX1_come_39 : decode cX1_come 39 = .ok (.iadd, 1) := by decide +kernel
theorem dX1_come_40 : decode cX1_come 40 = .ok (.aload_n 0, 1) := by decide +kernel
theorem dX1_come_41 : decode cX1_come 41 = .ok (.getfield 13, 3) := by decide +kernel
theorem dX1_come_44 : decode cX1_come 44 = .ok (.iload_n 1, 1) := by decide +kernel
theorem dX1_come_45 : decode cX1_come 45 = .ok (.iaload, 1) := by decide +kernel
theorem dX1_come_46 : decode cX1_come 46 = .ok (.if_icmp .le 7, 3) := by decide +kernel
theorem dX1_come_49 : decode cX1_come 49 = .ok (.iconst 1, 1) := by decide +kernel
theorem dX1_come_50 : decode cX1_come 50 = .ok (.goto 4, 3) := by decide +kernel
theorem dX1_come_53 : decode cX1_come 53 = .ok (.iconst 0, 1) := by decide +kernel
theorem dX1_come_54 : decode cX1_come 54 = .ok (.istore 4, 2) := by decide +kernel
theorem dX1_come_56 : decode cX1_come 56 = .ok (.aload_n 0, 1) := by decide +kernel
theorem dX1_come_57 : decode cX1_come 57 = .ok (.aload_n 0, 1) := by decide +kernel
theorem dX1_come_58 : decode cX1_come 58 = .ok (.iload_n 1, 1) := by decide +kernel
theorem dX1_come_59 : decode cX1_come 59 = .ok (.invokevirtual 71, 3) := by decide +kernel
theorem dX1_come_62 : decode cX1_come 62 = .ok (.ifCond .ne 7, 3) := by decide +kernel
theorem dX1_come_65 : decode cX1_come 65 = .ok (.iconst 1, 1) := by decide +kernel
theorem dX1_come_66 : decode cX1_come 66 = .ok (.goto 21, 3) := by decide +kernel
theorem dX1_come_69 : decode cX1_come 69 = .ok (.iload_n 3, 1) := by decide +kernel
theorem dX1_come_70 : decode cX1_come 70 = .ok (.ifCond .ne 7, 3) := by decide +kernel
theorem dX1_come_73 : decode cX1_come 73 = .ok (.iconst 2, 1) := by decide +kernel
theorem dX1_come_74 : decode cX1_come 74 = .ok (.goto 13, 3) := by decide +kernel
theorem dX1_come_77 : decode cX1_come 77 = .ok (.iload 4, 2) := by decide +kernel
theorem dX1_come_79 : decode cX1_come 79 = .ok (.ifCond .eq 7, 3) := by decide +kernel
theorem dX1_come_82 : decode cX1_come 82 = .ok (.iconst 3, 1) := by decide +kernel
theorem dX1_come_83 : decode cX1_come 83 = .ok (.goto 4, 3) := by decide +kernel
theorem dX1_come_86 : decode cX1_come 86 = .ok (.iconst 0, 1) := by decide +kernel
theorem dX1_come_87 : decode cX1_come 87 = .ok (.invokevirtual 67, 3) := by decide +kernel
theorem dX1_come_90 : decode cX1_come 90 = .ok (.ifCond .ne 5, 3) := by decide +kernel
theorem dX1_come_93 : decode cX1_come 93 = .ok (.iconst 0, 1) := by decide +kernel
theorem dX1_come_94 : decode cX1_come 94 = .ok (.ireturn, 1) := by decide +kernel
theorem dX1_come_95 : decode cX1_come 95 = .ok (.aload_n 0, 1) := by decide +kernel
theorem dX1_come_96 : decode cX1_come 96 = .ok (.getfield 17, 3) := by decide +kernel
theorem dX1_come_99 : decode cX1_come 99 = .ok (.iload_n 1, 1) := by decide +kernel
theorem dX1_come_100 : decode cX1_come 100 = .ok (.dup2, 1) := by decide +kernel
theorem dX1_come_101 : decode cX1_come 101 = .ok (.iaload, 1) := by decide +kernel
theorem dX1_come_102 : decode cX1_come 102 = .ok (.iload_n 2, 1) := by decide +kernel
theorem dX1_come_103 : decode cX1_come 103 = .ok (.iadd, 1) := by decide +kernel
theorem dX1_come_104 : decode cX1_come 104 = .ok (.iastore, 1) := by decide +kernel
theorem dX1_come_105 : decode cX1_come 105 = .ok (.aload_n 0, 1) := by decide +kernel
theorem dX1_come_106 : decode cX1_come 106 = .ok (.getfield 17, 3) := by decide +kernel
theorem dX1_come_109 : decode cX1_come 109 = .ok (.iload_n 1, 1) := by decide +kernel
theorem dX1_come_110 : decode cX1_come 110 = .ok (.iaload, 1) := by decide +kernel
theorem dX1_come_111 : decode cX1_come 111 = .ok (.ireturn, 1) := by decide +kernel
theorem dX1_setRelease_0 : decode cX1_setRelease 0 = .ok (.aload_n 0, 1) := by decide +kernel
theorem dX1_setRelease_1 : decode cX1_setRelease 1 = .ok (.aload_n 0, 1) := by decide +kernel
theorem dX1_setRelease_2 : decode cX1_setRelease 2 = .ok (.iload_n 1, 1) := by decide +kernel
theorem dX1_setRelease_3 : decode cX1_setRelease 3 = .ok (.invokevirtual 71, 3) := by decide +kernel
theorem dX1_setRelease_6 : decode cX1_setRelease 6 = .ok (.ifCond .ne 7, 3) := by decide +kernel
theorem dX1_setRelease_9 : decode cX1_setRelease 9 = .ok (.iconst 1, 1) := by decide +kernel
theorem dX1_setRelease_10 : decode cX1_setRelease 10 = .ok (.goto 19, 3) := by decide +kernel
theorem dX1_setRelease_13 : decode cX1_setRelease 13 = .ok (.iload_n 2, 1) := by decide +kernel
theorem dX1_setRelease_14 : decode cX1_setRelease 14 = .ok (.iconst 0, 1) := by decide +kernel
theorem dX1_setRelease_15 : decode cX1_setRelease 15 = .ok (.sipush 1000, 3) := by decide +kernel
theorem dX1_setRelease_18 : decode cX1_setRelease 18 = .ok (.invokestatic 60, 3) := by decide +kernel
theorem dX1_setRelease_21 : decode cX1_setRelease 21 = .ok (.ifCond .eq 7, 3) := by decide +kernel
theorem dX1_setRelease_24 : decode cX1_setRelease 24 = .ok (.iconst 0, 1) := by decide +kernel
theorem dX1_setRelease_25 : decode cX1_setRelease 25 = .ok (.goto 4, 3) := by decide +kernel
theorem dX1_setRelease_28 : decode cX1_setRelease 28 = .ok (.iconst 2, 1) := by decide +kernel
theorem dX1_setRelease_29 : decode cX1_setRelease 29 = .ok (.invokevirtual 67, 3) := by decide +kernel
theorem dX1_setRelease_32 : decode cX1_setRelease 32 = .ok (.ifCond .ne 5, 3) := by decide +kernel
theorem dX1_setRelease_35 : decode cX1_setRelease 35 = .ok (.iconst 0, 1) := by decide +kernel
theorem dX1_setRelease_36 : decode cX1_setRelease 36 = .ok (.ireturn, 1) := by decide +kernel
theorem dX1_setRelease_37 : decode cX1_setRelease 37 = .ok (.aload_n 0, 1) := by decide +kernel
theorem dX1_setRelease_38 : decode cX1_setRelease 38 = .ok (.getfield 20, 3) := by decide +kernel
theorem dX1_setRelease_41 : decode cX1_setRelease 41 = .ok (.iload_n 1, 1) := by decide +kernel
theorem dX1_setRelease_42 : decode cX1_setRelease 42 = .ok (.iaload, 1) := by decide +kernel
theorem dX1_setRelease_43 : decode cX1_setRelease 43 = .ok (.istore_n 3, 1) := by decide +kernel
theorem dX1_setRelease_44 : decode cX1_setRelease 44 = .ok (.aload_n 0, 1) := by decide +kernel
theorem dX1_setRelease_45 : decode cX1_setRelease 45 = .ok (.getfield 20, 3) := by decide +kernel
theorem dX1_setRelease_48 : decode cX1_setRelease 48 = .ok (.iload_n 1, 1) := by decide +kernel
theorem dX1_setRelease_49 : decode cX1_setRelease 49 = .ok (.iload_n 2, 1) := by decide +kernel
theorem dX1_setRelease_50 : decode cX1_setRelease 50 = .ok (.iastore, 1) := by decide +kernel
theorem dX1_setRelease_51 : decode cX1_setRelease 51 = .ok (.iload_n 3, 1) := by decide +kernel
theorem dX1_setRelease_52 : decode cX1_setRelease 52 = .ok (.ireturn, 1) := by decide +kernel
theorem dX1_places_0 : decode cX1_places 0 = .ok (.aload_n 0, 1) := by decide +kernel
theorem dX1_places_1 : decode cX1_places 1 = .ok (.iconst 0, 1) := by decide +kernel
theorem dX1_places_2 : decode cX1_places 2 = .ok (.putfield 57, 3) := by decide +kernel
theorem dX1_places_5 : decode cX1_places 5 = .ok (.aload_n 0, 1) := by decide +kernel
theorem dX1_places_6 : decode cX1_places 6 = .ok (.getfield 7, 3) := by decide +kernel
theorem dX1_places_9 : decode cX1_places 9 = .ok (.ireturn, 1) := by decide +kernel
theorem dX1_doors_0 : decode cX1_doors 0 = .ok (.aload_n 0, 1) := by decide +kernel
theorem dX1_doors_1 : decode cX1_doors 1 = .ok (.iconst 0, 1) := by decide +kernel
theorem dX1_doors_2 : decode cX1_doors 2 = .ok (.putfield 57, 3) := by decide +kernel
theorem dX1_doors_5 : decode cX1_doors 5 = .ok (.aload_n 0, 1) := by decide +kernel
theorem dX1_doors_6 : decode cX1_doors 6 = .ok (.getfield 64, 3) := by decide +kernel
theorem dX1_doors_9 : decode cX1_doors 9 = .ok (.ireturn, 1) := by decide +kernel
theorem dX1_measure_0 : decode cX1_measure 0 = .ok (.iconst 0, 1) := by decide +kernel
theorem dX1_measure_1 : decode cX1_measure 1 = .ok (.istore_n 1, 1) := by decide +kernel
theorem dX1_measure_2 : decode cX1_measure 2 = .ok (.iload_n 1, 1) := by decide +kernel
theorem dX1_measure_3 : decode cX1_measure 3 = .ok (.aload_n 0, 1) := by decide +kernel
theorem dX1_measure_4 : decode cX1_measure 4 = .ok (.getfield 7, 3) := by decide +kernel
theorem dX1_measure_7 : decode cX1_measure 7 = .ok (.if_icmp .ge 24, 3) := by decide +kernel
theorem dX1_measure_10 : decode cX1_measure 10 = .ok (.aload_n 0, 1) := by decide +kernel
theorem dX1_measure_11 : decode cX1_measure 11 = .ok (.getfield 45, 3) := by decide +kernel
theorem dX1_measure_14 : decode cX1_measure 14 = .ok (.iload_n 1, 1) := by decide +kernel
theorem dX1_measure_15 : decode cX1_measure 15 = .ok (.iload_n 1, 1) := by decide +kernel
theorem dX1_measure_16 : decode cX1_measure 16 = .ok (.ifCond .ne 7, 3) := by decide +kernel
theorem dX1_measure_19 : decode cX1_measure 19 = .ok (.iconst 0, 1) := by decide +kernel
theorem dX1_measure_20 : decode cX1_measure 20 = .ok (.goto 4, 3) := by decide +kernel
theorem dX1_measure_23 : decode cX1_measure 23 = .ok (.iconst (-1), 1) := by decide +kernel
theorem dX1_measure_24 : decode cX1_measure 24 = .ok (.iastore, 1) := by decide +kernel
theorem dX1_measure_25 : decode cX1_measure 25 = .ok (.iinc 1 1, 3) := by decide +kernel
theorem dX1_measure_28 : decode cX1_measure 28 = .ok (.goto (-26), 3) := by decide +kernel
theorem dX1_measure_31 : decode cX1_measure 31 = .ok (.iconst 0, 1) := by decide +kernel
theorem dX1_measure_32 : decode cX1_measure 32 = .ok (.istore_n 1, 1) := by decide +kernel
theorem dX1_measure_33 : decode cX1_measure 33 = .ok (.iload_n 1, 1) := by decide +kernel
theorem dX1_measure_34 : decode cX1_measure 34 = .ok (.aload_n 0, 1) := by decide +kernel
theorem dX1_measure_35 : decode cX1_measure 35 = .ok (.getfield 7, 3) := by decide +kernel
theorem dX1_measure_38 : decode cX1_measure 38 = .ok (.if_icmp .ge 61, 3) := by decide +kernel
theorem dX1_measure_41 : decode cX1_measure 41 = .ok (.iconst 0, 1) := by decide +kernel
theorem dX1_measure_42 : decode cX1_measure 42 = .ok (.istore_n 2, 1) := by decide +kernel
theorem dX1_measure_43 : decode cX1_measure 43 = .ok (.iload_n 2, 1) := by decide +kernel
theorem dX1_measure_44 : decode cX1_measure 44 = .ok (.aload_n 0, 1) := by decide +kernel
theorem dX1_measure_45 : decode cX1_measure 45 = .ok (.getfield 64, 3) := by decide +kernel
theorem dX1_measure_48 : decode cX1_measure 48 = .ok (.if_icmp .ge 45, 3) := by decide +kernel
theorem dX1_measure_51 : decode cX1_measure 51 = .ok (.aload_n 0, 1) := by decide +kernel
theorem dX1_measure_52 : decode cX1_measure 52 = .ok (.iload_n 2, 1) := by decide +kernel
theorem dX1_measure_53 : decode cX1_measure 53 = .ok (.aload_n 0, 1) := by decide +kernel
theorem dX1_measure_54 : decode cX1_measure 54 = .ok (.getfield 23, 3) := by decide +kernel
theorem dX1_measure_57 : decode cX1_measure 57 = .ok (.iload_n 2, 1) := by decide +kernel
theorem dX1_measure_58 : decode cX1_measure 58 = .ok (.iaload, 1) := by decide +kernel
theorem dX1_measure_59 : decode cX1_measure 59 = .ok (.aload_n 0, 1) := by decide +kernel
theorem dX1_measure_60 : decode cX1_measure 60 = .ok (.getfield 26, 3) := by decide +kernel
theorem dX1_measure_63 : decode cX1_measure 63 = .ok (.iload_n 2, 1) := by decide +kernel
theorem dX1_measure_64 : decode cX1_measure 64 = .ok (.iaload, 1) := by decide +kernel
theorem dX1_measure_65 : decode cX1_measure 65 = .ok (.iload_n 1, 1) := by decide +kernel
theorem dX1_measure_66 : decode cX1_measure 66 = .ok (.invokevirtual 77, 3) := by decide +kernel
theorem dX1_measure_69 : decode cX1_measure 69 = .ok (.aload_n 0, 1) := by decide +kernel
theorem dX1_measure_70 : decode cX1_measure 70 = .ok (.iload_n 2, 1) := by decide +kernel
theorem dX1_measure_71 : decode cX1_measure 71 = .ok (.aload_n 0, 1) := by decide +kernel
theorem dX1_measure_72 : decode cX1_measure 72 = .ok (.getfield 26, 3) := by decide +kernel
theorem dX1_measure_75 : decode cX1_measure 75 = .ok (.iload_n 2, 1) := by decide +kernel
theorem dX1_measure_76 : decode cX1_measure 76 = .ok (.iaload, 1) := by decide +kernel
theorem dX1_measure_77 : decode cX1_measure 77 = .ok (.aload_n 0, 1) := by decide +kernel
theorem dX1_measure_78 : decode cX1_measure 78 = .ok (.getfield 23, 3) := by decide +kernel
theorem dX1_measure_81 : decode cX1_measure 81 = .ok (.iload_n 2, 1) := by decide +kernel
theorem dX1_measure_82 : decode cX1_measure 82 = .ok (.iaload, 1) := by decide +kernel
theorem dX1_measure_83 : decode cX1_measure 83 = .ok (.iload_n 1, 1) := by decide +kernel
theorem dX1_measure_84 : decode cX1_measure 84 = .ok (.invokevirtual 77, 3) := by decide +kernel
theorem dX1_measure_87 : decode cX1_measure 87 = .ok (.iinc 2 1, 3) := by decide +kernel
theorem dX1_measure_90 : decode cX1_measure 90 = .ok (.goto (-47), 3) := by decide +kernel
theorem dX1_measure_93 : decode cX1_measure 93 = .ok (.iinc 1 1, 3) := by decide +kernel
theorem dX1_measure_96 : decode cX1_measure 96 = .ok (.goto (-63), 3) := by decide +kernel
theorem dX1_measure_99 : decode cX1_measure 99 = .ok (.return_, 1) := by decide +kernel
theorem dX1_reach_0 : decode cX1_reach 0 = .ok (.aload_n 0, 1) := by decide +kernel
theorem dX1_reach_1 : decode cX1_reach 1 = .ok (.getfield 35, 3) := by decide +kernel
theorem dX1_reach_4 : decode cX1_reach 4 = .ok (.iload_n 1, 1) := by decide +kernel
theorem dX1_reach_5 : decode cX1_reach 5 = .ok (.baload, 1) := by decide +kernel
theorem dX1_reach_6 : decode cX1_reach 6 = .ok (.ifCond .eq 34, 3) := by decide +kernel
theorem dX1_reach_9 : decode cX1_reach 9 = .ok (.aload_n 0, 1) := by decide +kernel
theorem dX1_reach_10 : decode cX1_reach 10 = .ok (.getfield 45, 3) := by decide +kernel
theorem dX1_reach_13 : decode cX1_reach 13 = .ok (.iload_n 2, 1) := by decide +kernel
theorem dX1_reach_14 : decode cX1_reach 14 = .ok (.iaload, 1) := by decide +kernel
theorem dX1_reach_15 : decode cX1_reach 15 = .ok (.iload 4, 2) := by decide +kernel
theorem dX1_reach_17 : decode cX1_reach 17 = .ok (.if_icmp .ne 23, 3) := by decide +kernel
theorem dX1_reach_20 : decode cX1_reach 20 = .ok (.aload_n 0, 1) := by decide +kernel
theorem dX1_reach_21 : decode cX1_reach 21 = .ok (.getfield 45, 3) := by decide +kernel
theorem dX1_reach_24 : decode cX1_reach 24 = .ok (.iload_n 3, 1) := by decide +kernel
theorem dX1_reach_25 : decode cX1_reach 25 = .ok (.iaload, 1) := by decide +kernel
theorem dX1_reach_26 : decode cX1_reach 26 = .ok (.iconst (-1), 1) := by decide +kernel
theorem dX1_reach_27 : decode cX1_reach 27 = .ok (.if_icmp .ne 13, 3) := by decide +kernel
theorem dX1_reach_30 : decode cX1_reach 30 = .ok (.aload_n 0, 1) := by decide +kernel
theorem dX1_reach_31 : decode cX1_reach 31 = .ok (.getfield 45, 3) := by decide +kernel
theorem dX1_reach_34 : decode cX1_reach 34 = .ok (.iload_n 3, 1) := by decide +kernel
theorem dX1_reach_35 : decode cX1_reach 35 = .ok (.iload 4, 2) := by decide +kernel
theorem dX1_reach_37 : decode cX1_reach 37 = .ok (.iconst 1, 1) := by decide +kernel
theorem dX1_reach_38 : decode cX1_reach 38 = .ok (.iadd, 1) := by decide +kernel
theorem dX1_reach_39 : decode cX1_reach 39 = .ok (.iastore, 1) := by decide +kernel
theorem dX1_reach_40 : decode cX1_reach 40 = .ok (.return_, 1) := by decide +kernel
theorem dX1_beyond_0 : decode cX1_beyond 0 = .ok (.aload_n 0, 1) := by decide +kernel
theorem dX1_beyond_1 : decode cX1_beyond 1 = .ok (.getfield 23, 3) := by decide +kernel
theorem dX1_beyond_4 : decode cX1_beyond 4 = .ok (.iload_n 1, 1) := by decide +kernel
theorem dX1_beyond_5 : decode cX1_beyond 5 = .ok (.iaload, 1) := by decide +kernel
theorem dX1_beyond_6 : decode cX1_beyond 6 = .ok (.iload_n 2, 1) := by decide +kernel
theorem dX1_beyond_7 : decode cX1_beyond 7 = .ok (.if_icmp .ne 12, 3) := by decide +kernel
theorem dX1_beyond_10 : decode cX1_beyond 10 = .ok (.aload_n 0, 1) := by decide +kernel
theorem dX1_beyond_11 : decode cX1_beyond 11 = .ok (.getfield 26, 3) := by decide +kernel
theorem dX1_beyond_14 : decode cX1_beyond 14 = .ok (.iload_n 1, 1) := by decide +kernel
theorem dX1_beyond_15 : decode cX1_beyond 15 = .ok (.iaload, 1) := by decide +kernel
theorem dX1_beyond_16 : decode cX1_beyond 16 = .ok (.goto 23, 3) := by decide +kernel
theorem dX1_beyond_19 : decode cX1_beyond 19 = .ok (.aload_n 0, 1) := by decide +kernel
theorem dX1_beyond_20 : decode cX1_beyond 20 = .ok (.getfield 26, 3) := by decide +kernel
theorem dX1_beyond_23 : decode cX1_beyond 23 = .ok (.iload_n 1, 1) := by decide +kernel
theorem dX1_beyond_24 : decode cX1_beyond 24 = .ok (.iaload, 1) := by decide +kernel
theorem dX1_beyond_25 : decode cX1_beyond 25 = .ok (.iload_n 2, 1) := by decide +kernel
theorem dX1_beyond_26 : decode cX1_beyond 26 = .ok (.if_icmp .ne 12, 3) := by decide +kernel
theorem dX1_beyond_29 : decode cX1_beyond 29 = .ok (.aload_n 0, 1) := by decide +kernel
theorem dX1_beyond_30 : decode cX1_beyond 30 = .ok (.getfield 23, 3) := by decide +kernel
theorem dX1_beyond_33 : decode cX1_beyond 33 = .ok (.iload_n 1, 1) := by decide +kernel
theorem dX1_beyond_34 : decode cX1_beyond 34 = .ok (.iaload, 1) := by decide +kernel
theorem dX1_beyond_35 : decode cX1_beyond 35 = .ok (.goto 4, 3) := by decide +kernel
theorem dX1_beyond_38 : decode cX1_beyond 38 = .ok (.iconst (-1), 1) := by decide +kernel
theorem dX1_beyond_39 : decode cX1_beyond 39 = .ok (.ireturn, 1) := by decide +kernel
theorem dX1_doorOf_0 : decode cX1_doorOf 0 = .ok (.iconst 0, 1) := by decide +kernel
theorem dX1_doorOf_1 : decode cX1_doorOf 1 = .ok (.istore_n 2, 1) := by decide +kernel
theorem dX1_doorOf_2 : decode cX1_doorOf 2 = .ok (.iload_n 2, 1) := by decide +kernel
theorem dX1_doorOf_3 : decode cX1_doorOf 3 = .ok (.aload_n 0, 1) := by decide +kernel
theorem dX1_doorOf_4 : decode cX1_doorOf 4 = .ok (.getfield 64, 3) := by decide +kernel
theorem dX1_doorOf_7 : decode cX1_doorOf 7 = .ok (.if_icmp .ge 58, 3) := by decide +kernel
theorem dX1_doorOf_10 : decode cX1_doorOf 10 = .ok (.aload_n 0, 1) := by decide +kernel
theorem dX1_doorOf_11 : decode cX1_doorOf 11 = .ok (.getfield 45, 3) := by decide +kernel
theorem dX1_doorOf_14 : decode cX1_doorOf 14 = .ok (.iload_n 1, 1) := by decide +kernel
theorem dX1_doorOf_15 : decode cX1_doorOf 15 = .ok (.iaload, 1) := by decide +kernel
theorem dX1_doorOf_16 : decode cX1_doorOf 16 = .ok (.ifCond .le 49, 3) := by decide +kernel
theorem dX1_doorOf_19 : decode cX1_doorOf 19 = .ok (.aload_n 0, 1) := by decide +kernel
theorem dX1_doorOf_20 : decode cX1_doorOf 20 = .ok (.iload_n 2, 1) := by decide +kernel
theorem dX1_doorOf_21 : decode cX1_doorOf 21 = .ok (.iload_n 1, 1) := by decide +kernel
theorem dX1_doorOf_22 : decode cX1_doorOf 22 = .ok (.invokevirtual 81, 3) := by decide +kernel
theorem dX1_doorOf_25 : decode cX1_doorOf 25 = .ok (.istore_n 3, 1) := by decide +kernel
theorem dX1_doorOf_26 : decode cX1_doorOf 26 = .ok (.aload_n 0, 1) := by decide +kernel
theorem dX1_doorOf_27 : decode cX1_doorOf 27 = .ok (.getfield 35, 3) := by decide +kernel
theorem dX1_doorOf_30 : decode cX1_doorOf 30 = .ok (.iload_n 2, 1) := by decide +kernel
theorem dX1_doorOf_31 : decode cX1_doorOf 31 = .ok (.baload, 1) := by decide +kernel
theorem dX1_doorOf_32 : decode cX1_doorOf 32 = .ok (.ifCond .eq 27, 3) := by decide +kernel
theorem dX1_doorOf_35 : decode cX1_doorOf 35 = .ok (.iload_n 3, 1) := by decide +kernel
theorem dX1_doorOf_36 : decode cX1_doorOf 36 = .ok (.iconst (-1), 1) := by decide +kernel
theorem dX1_doorOf_37 : decode cX1_doorOf 37 = .ok (.if_icmp .eq 22, 3) := by decide +kernel
theorem dX1_doorOf_40 : decode cX1_doorOf 40 = .ok (.aload_n 0, 1) := by decide +kernel
theorem dX1_doorOf_41 : decode cX1_doorOf 41 = .ok (.getfield 45, 3) := by decide +kernel
theorem dX1_doorOf_44 : decode cX1_doorOf 44 = .ok (.iload_n 3, 1) := by decide +kernel
theorem dX1_doorOf_45 : decode cX1_doorOf 45 = .ok (.iaload, 1) := by decide +kernel
theorem dX1_doorOf_46 : decode cX1_doorOf 46 = .ok (.aload_n 0, 1) := by decide +kernel
theorem dX1_doorOf_47 : decode cX1_doorOf 47 = .ok (.getfield 45, 3) := by decide +kernel
theorem dX1_doorOf_50 : decode cX1_doorOf 50 = .ok (.iload_n 1, 1) := by decide +kernel
theorem dX1_doorOf_51 : decode cX1_doorOf 51 = .ok (.iaload, 1) := by decide +kernel
theorem dX1_doorOf_52 : decode cX1_doorOf 52 = .ok (.iconst 1, 1) := by decide +kernel
theorem dX1_doorOf_53 : decode cX1_doorOf 53 = .ok (.isub, 1) := by decide +kernel
theorem dX1_doorOf_54 : decode cX1_doorOf 54 = .ok (.if_icmp .ne 5, 3) := by decide +kernel
theorem dX1_doorOf_57 : decode cX1_doorOf 57 = .ok (.iload_n 2, 1) := by decide +kernel
theorem dX1_doorOf_58 : decode cX1_doorOf 58 = .ok (.ireturn, 1) := by decide +kernel
theorem dX1_doorOf_59 : decode cX1_doorOf 59 = .ok (.iinc 2 1, 3) := by decide +kernel
theorem dX1_doorOf_62 : decode cX1_doorOf 62 = .ok (.goto (-60), 3) := by decide +kernel
theorem dX1_doorOf_65 : decode cX1_doorOf 65 = .ok (.iconst (-1), 1) := by decide +kernel
theorem dX1_doorOf_66 : decode cX1_doorOf 66 = .ok (.ireturn, 1) := by decide +kernel
theorem dX1_wish_0 : decode cX1_wish 0 = .ok (.aload_n 0, 1) := by decide +kernel
theorem dX1_wish_1 : decode cX1_wish 1 = .ok (.invokevirtual 85, 3) := by decide +kernel
theorem dX1_wish_4 : decode cX1_wish 4 = .ok (.iconst 0, 1) := by decide +kernel
theorem dX1_wish_5 : decode cX1_wish 5 = .ok (.istore_n 1, 1) := by decide +kernel
theorem dX1_wish_6 : decode cX1_wish 6 = .ok (.iload_n 1, 1) := by decide +kernel
theorem dX1_wish_7 : decode cX1_wish 7 = .ok (.aload_n 0, 1) := by decide +kernel
theorem dX1_wish_8 : decode cX1_wish 8 = .ok (.getfield 64, 3) := by decide +kernel
theorem dX1_wish_11 : decode cX1_wish 11 = .ok (.if_icmp .ge 30, 3) := by decide +kernel
theorem dX1_wish_14 : decode cX1_wish 14 = .ok (.aload_n 0, 1) := by decide +kernel
theorem dX1_wish_15 : decode cX1_wish 15 = .ok (.getfield 48, 3) := by decide +kernel
theorem dX1_wish_18 : decode cX1_wish 18 = .ok (.iload_n 1, 1) := by decide +kernel
theorem dX1_wish_19 : decode cX1_wish 19 = .ok (.iconst 0, 1) := by decide +kernel
theorem dX1_wish_20 : decode cX1_wish 20 = .ok (.iastore, 1) := by decide +kernel
theorem dX1_wish_21 : decode cX1_wish 21 = .ok (.aload_n 0, 1) := by decide +kernel
theorem dX1_wish_22 : decode cX1_wish 22 = .ok (.getfield 51, 3) := by decide +kernel
theorem dX1_wish_25 : decode cX1_wish 25 = .ok (.iload_n 1, 1) := by decide +kernel
theorem dX1_wish_26 : decode cX1_wish 26 = .ok (.iconst 0, 1) := by decide +kernel
theorem dX1_wish_27 : decode cX1_wish 27 = .ok (.iastore, 1) := by decide +kernel
theorem dX1_wish_28 : decode cX1_wish 28 = .ok (.aload_n 0, 1) := by decide +kernel
theorem dX1_wish_29 : decode cX1_wish 29 = .ok (.getfield 54, 3) := by decide +kernel
theorem dX1_wish_32 : decode cX1_wish 32 = .ok (.iload_n 1, 1) := by decide +kernel
theorem dX1_wish_33 : decode cX1_wish 33 = .ok (.iconst (-1), 1) := by decide +kernel
theorem dX1_wish_34 : decode cX1_wish 34 = .ok (.iastore, 1) := by decide +kernel
theorem dX1_wish_35 : decode cX1_wish 35 = .ok (.iinc 1 1, 3) := by decide +kernel
theorem dX1_wish_38 : decode cX1_wish 38 = .ok (.goto (-32), 3) := by decide +kernel
theorem dX1_wish_41 : decode cX1_wish 41 = .ok (.iconst 1, 1) := by decide +kernel
theorem dX1_wish_42 : decode cX1_wish 42 = .ok (.istore_n 1, 1) := by decide +kernel
theorem dX1_wish_43 : decode cX1_wish 43 = .ok (.iload_n 1, 1) := by decide +kernel
theorem dX1_wish_44 : decode cX1_wish 44 = .ok (.aload_n 0, 1) := by decide +kernel
theorem dX1_wish_45 : decode cX1_wish 45 = .ok (.getfield 7, 3) := by decide +kernel
theorem dX1_wish_48 : decode cX1_wish 48 = .ok (.if_icmp .ge 81, 3) := by decide +kernel
theorem dX1_wish_51 : decode cX1_wish 51 = .ok (.aload_n 0, 1) := by decide +kernel
theorem dX1_wish_52 : decode cX1_wish 52 = .ok (.iload_n 1, 1) := by decide +kernel
theorem dX1_wish_53 : decode cX1_wish 53 = .ok (.invokevirtual 88, 3) := by decide +kernel
theorem dX1_wish_56 : decode cX1_wish 56 = .ok (.istore_n 2, 1) := by decide +kernel
theorem dX1_wish_57 : decode cX1_wish 57 = .ok (.iload_n 2, 1) := by decide +kernel
theorem dX1_wish_58 : decode cX1_wish 58 = .ok (.iconst (-1), 1) := by decide +kernel
theorem dX1_wish_59 : decode cX1_wish 59 = .ok (.if_icmp .eq 64, 3) := by decide +kernel
theorem dX1_wish_62 : decode cX1_wish 62 = .ok (.aload_n 0, 1) := by decide +kernel
theorem dX1_wish_63 : decode cX1_wish 63 = .ok (.getfield 20, 3) := by decide +kernel
theorem dX1_wish_66 : decode cX1_wish 66 = .ok (.iload_n 1, 1) := by decide +kernel
theorem dX1_wish_67 : decode cX1_wish 67 = .ok (.iaload, 1) := by decide +kernel
theorem dX1_wish_68 : decode cX1_wish 68 = .ok (.aload_n 0, 1) := by decide +kernel
theorem dX1_wish_69 : decode cX1_wish 69 = .ok (.getfield 92, 3) := by decide +kernel
theorem dX1_wish_72 : decode cX1_wish 72 = .ok (.if_icmp .gt 51, 3) := by decide +kernel
theorem dX1_wish_75 : decode cX1_wish 75 = .ok (.aload_n 0, 1) := by decide +kernel
theorem dX1_wish_76 : decode cX1_wish 76 = .ok (.getfield 48, 3) := by decide +kernel
theorem dX1_wish_79 : decode cX1_wish 79 = .ok (.iload_n 2, 1) := by decide +kernel
theorem dX1_wish_80 : decode cX1_wish 80 = .ok (.aload_n 0, 1) := by decide +kernel
theorem dX1_wish_81 : decode cX1_wish 81 = .ok (.getfield 17, 3) := by decide +kernel
theorem dX1_wish_84 : decode cX1_wish 84 = .ok (.iload_n 1, 1) := by decide +kernel
theorem dX1_wish_85 : decode cX1_wish 85 = .ok (.iaload, 1) := by decide +kernel
theorem dX1_wish_86 : decode cX1_wish 86 = .ok (.aload_n 0, 1) := by decide +kernel
theorem dX1_wish_87 : decode cX1_wish 87 = .ok (.getfield 29, 3) := by decide +kernel
theorem dX1_wish_90 : decode cX1_wish 90 = .ok (.iload_n 2, 1) := by decide +kernel
theorem dX1_wish_91 : decode cX1_wish 91 = .ok (.iaload, 1) := by decide +kernel
theorem dX1_wish_92 : decode cX1_wish 92 = .ok (.if_icmp .ge 12, 3) := by decide +kernel
theorem dX1_wish_95 : decode cX1_wish 95 = .ok (.aload_n 0, 1) := by decide +kernel
theorem dX1_wish_96 : decode cX1_wish 96 = .ok (.getfield 17, 3) := by decide +kernel
theorem dX1_wish_99 : decode cX1_wish 99 = .ok (.iload_n 1, 1) := by decide +kernel
theorem dX1_wish_100 : decode cX1_wish 100 = .ok (.iaload, 1) := by decide +kernel
theorem dX1_wish_101 : decode cX1_wish 101 = .ok (.goto 9, 3) := by decide +kernel
theorem dX1_wish_104 : decode cX1_wish 104 = .ok (.aload_n 0, 1) := by decide +kernel
theorem dX1_wish_105 : decode cX1_wish 105 = .ok (.getfield 29, 3) := by decide +kernel
theorem dX1_wish_108 : decode cX1_wish 108 = .ok (.iload_n 2, 1) := by decide +kernel
theorem dX1_wish_109 : decode cX1_wish 109 = .ok (.iaload, 1) := by decide +kernel
theorem dX1_wish_110 : decode cX1_wish 110 = .ok (.iastore, 1) := by decide +kernel
theorem dX1_wish_111 : decode cX1_wish 111 = .ok (.aload_n 0, 1) := by decide +kernel
theorem dX1_wish_112 : decode cX1_wish 112 = .ok (.getfield 54, 3) := by decide +kernel
theorem dX1_wish_115 : decode cX1_wish 115 = .ok (.iload_n 2, 1) := by decide +kernel
theorem dX1_wish_116 : decode cX1_wish 116 = .ok (.aload_n 0, 1) := by decide +kernel
theorem dX1_wish_117 : decode cX1_wish 117 = .ok (.iload_n 2, 1) := by decide +kernel
theorem dX1_wish_118 : decode cX1_wish 118 = .ok (.iload_n 1, 1) := by decide +kernel
theorem dX1_wish_119 : decode cX1_wish 119 = .ok (.invokevirtual 81, 3) := by decide +kernel
theorem dX1_wish_122 : decode cX1_wish 122 = .ok (.iastore, 1) := by decide +kernel
theorem dX1_wish_123 : decode cX1_wish 123 = .ok (.iinc 1 1, 3) := by decide +kernel
theorem dX1_wish_126 : decode cX1_wish 126 = .ok (.goto (-83), 3) := by decide +kernel
theorem dX1_wish_129 : decode cX1_wish 129 = .ok (.return_, 1) := by decide +kernel
theorem dX1_grant_0 : decode cX1_grant 0 = .ok (.iload_n 1, 1) := by decide +kernel
theorem dX1_grant_1 : decode cX1_grant 1 = .ok (.ifCond .ne 9, 3) := by decide +kernel
theorem dX1_grant_4 : decode cX1_grant 4 = .ok (.sipush 1000, 3) := by decide +kernel
theorem dX1_grant_7 : decode cX1_grant 7 = .ok (.goto 16, 3) := by decide +kernel
theorem dX1_grant_10 : decode cX1_grant 10 = .ok (.aload_n 0, 1) := by decide +kernel
theorem dX1_grant_11 : decode cX1_grant 11 = .ok (.getfield 13, 3) := by decide +kernel
theorem dX1_grant_14 : decode cX1_grant 14 = .ok (.iload_n 1, 1) := by decide +kernel
theorem dX1_grant_15 : decode cX1_grant 15 = .ok (.iaload, 1) := by decide +kernel
theorem dX1_grant_16 : decode cX1_grant 16 = .ok (.aload_n 0, 1) := by decide +kernel
theorem dX1_grant_17 : decode cX1_grant 17 = .ok (.getfield 17, 3) := by decide +kernel
theorem dX1_grant_20 : decode cX1_grant 20 = .ok (.iload_n 1, 1) := by decide +kernel
theorem dX1_grant_21 : decode cX1_grant 21 = .ok (.iaload, 1) := by decide +kernel
theorem dX1_grant_22 : decode cX1_grant 22 = .ok (.isub, 1) := by decide +kernel
theorem dX1_grant_23 : decode cX1_grant 23 = .ok (.istore_n 2, 1) := by decide +kernel
theorem dX1_grant_24 : decode cX1_grant 24 = .ok (.iconst 1, 1) := by decide +kernel
theorem dX1_grant_25 : decode cX1_grant 25 = .ok (.istore_n 3, 1) := by decide +kernel
theorem dX1_grant_26 : decode cX1_grant 26 = .ok (.iload_n 3, 1) := by decide +kernel
theorem dX1_grant_27 : decode cX1_grant 27 = .ok (.ifCond .eq 130, 3) := by decide +kernel
theorem dX1_grant_30 : decode cX1_grant 30 = .ok (.iconst 0, 1) := by decide +kernel
theorem dX1_grant_31 : decode cX1_grant 31 = .ok (.istore_n 3, 1) := by decide +kernel
theorem dX1_grant_32 : decode cX1_grant 32 = .ok (.iconst 0, 1) := by decide +kernel
theorem dX1_grant_33 : decode cX1_grant 33 = .ok (.istore 4, 2) := by decide +kernel
theorem dX1_grant_35 : decode cX1_grant 35 = .ok (.iload 4, 2) := by decide +kernel
theorem dX1_grant_37 : decode cX1_grant 37 = .ok (.aload_n 0, 1) := by decide +kernel
theorem dX1_grant_38 : decode cX1_grant 38 = .ok (.getfield 64, 3) := by decide +kernel
theorem dX1_grant_41 : decode cX1_grant 41 = .ok (.if_icmp .ge 113, 3) := by decide +kernel
theorem dX1_grant_44 : decode cX1_grant 44 = .ok (.aload_n 0, 1) := by decide +kernel
theorem dX1_grant_45 : decode cX1_grant 45 = .ok (.getfield 54, 3) := by decide +kernel
theorem dX1_grant_48 : decode cX1_grant 48 = .ok (.iload 4, 2) := by decide +kernel
theorem dX1_grant_50 : decode cX1_grant 50 = .ok (.iaload, 1) := by decide +kernel
theorem dX1_grant_51 : decode cX1_grant 51 = .ok (.iload_n 1, 1) := by decide +kernel
theorem dX1_grant_52 : decode cX1_grant 52 = .ok (.if_icmp .ne 21, 3) := by decide +kernel
theorem dX1_grant_55 : decode cX1_grant 55 = .ok (.aload_n 0, 1) := by decide +kernel
theorem dX1_grant_56 : decode cX1_grant 56 = .ok (.getfield 48, 3) := by decide +kernel
theorem dX1_grant_59 : decode cX1_grant 59 = .ok (.iload 4, 2) := by decide +kernel
theorem dX1_grant_61 : decode cX1_grant 61 = .ok (.iaload, 1) := by decide +kernel
theorem dX1_grant_62 : decode cX1_grant 62 = .ok (.aload_n 0, 1) := by decide +kernel
theorem dX1_grant_63 : decode cX1_grant 63 = .ok (.getfield 51, 3) := by decide +kernel
theorem dX1_grant_66 : decode cX1_grant 66 = .ok (.iload 4, 2) := by decide +kernel
theorem dX1_grant_68 : decode cX1_grant 68 = .ok (.iaload, 1) := by decide +kernel
theorem dX1_grant_69 : decode cX1_grant 69 = .ok (.isub, 1) := by decide +kernel
theorem dX1_grant_70 : decode cX1_grant 70 = .ok (.goto 4, 3) := by decide +kernel
theorem dX1_grant_73 : decode cX1_grant 73 = .ok (.iconst 0, 1) := by decide +kernel
theorem dX1_grant_74 : decode cX1_grant 74 = .ok (.istore 5, 2) := by decide +kernel
theorem dX1_grant_76 : decode cX1_grant 76 = .ok (.iload 5, 2) := by decide +kernel
theorem dX1_grant_78 : decode cX1_grant 78 = .ok (.aload_n 0, 1) := by decide +kernel
theorem dX1_grant_79 : decode cX1_grant 79 = .ok (.getfield 32, 3) := by decide +kernel
theorem dX1_grant_82 : decode cX1_grant 82 = .ok (.iload 4, 2) := by decide +kernel
theorem dX1_grant_84 : decode cX1_grant 84 = .ok (.iaload, 1) := by decide +kernel
theorem dX1_grant_85 : decode cX1_grant 85 = .ok (.if_icmp .ge 8, 3) := by decide +kernel
theorem dX1_grant_88 : decode cX1_grant 88 = .ok (.iload 5, 2) := by decide +kernel
theorem dX1_grant_90 : decode cX1_grant 90 = .ok (.goto 10, 3) := by decide +kernel
theorem dX1_grant_93 : decode cX1_grant 93 = .ok (.aload_n 0, 1) := by decide +kernel
theorem dX1_grant_94 : decode cX1_grant 94 = .ok (.getfield 32, 3) := by decide +kernel
theorem dX1_grant_97 : decode cX1_grant 97 = .ok (.iload 4, 2) := by decide +kernel
theorem dX1_grant_99 : decode cX1_grant 99 = .ok (.iaload, 1) := by decide +kernel
theorem dX1_grant_100 : decode cX1_grant 100 = .ok (.istore 6, 2) := by decide +kernel
theorem dX1_grant_102 : decode cX1_grant 102 = .ok (.iload 6, 2) := by decide +kernel
theorem dX1_grant_104 : decode cX1_grant 104 = .ok (.iload_n 2, 1) := by decide +kernel
theorem dX1_grant_105 : decode cX1_grant 105 = .ok (.if_icmp .ge 8, 3) := by decide +kernel
theorem dX1_grant_108 : decode cX1_grant 108 = .ok (.iload 6, 2) := by decide +kernel
theorem dX1_grant_110 : decode cX1_grant 110 = .ok (.goto 4, 3) := by decide +kernel
theorem dX1_grant_113 : decode cX1_grant 113 = .ok (.iload_n 2, 1) := by decide +kernel
theorem dX1_grant_114 : decode cX1_grant 114 = .ok (.istore 6, 2) := by decide +kernel
theorem dX1_grant_116 : decode cX1_grant 116 = .ok (.aload_n 0, 1) := by decide +kernel
theorem dX1_grant_117 : decode cX1_grant 117 = .ok (.getfield 51, 3) := by decide +kernel
theorem dX1_grant_120 : decode cX1_grant 120 = .ok (.iload 4, 2) := by decide +kernel
theorem dX1_grant_122 : decode cX1_grant 122 = .ok (.dup2, 1) := by decide +kernel
theorem dX1_grant_123 : decode cX1_grant 123 = .ok (.iaload, 1) := by decide +kernel
theorem dX1_grant_124 : decode cX1_grant 124 = .ok (.iload 6, 2) := by decide +kernel
theorem dX1_grant_126 : decode cX1_grant 126 = .ok (.iadd, 1) := by decide +kernel
theorem dX1_grant_127 : decode cX1_grant 127 = .ok (.iastore, 1) := by decide +kernel
theorem dX1_grant_128 : decode cX1_grant 128 = .ok (.iload_n 2, 1) := by decide +kernel
theorem dX1_grant_129 : decode cX1_grant 129 = .ok (.iload 6, 2) := by decide +kernel
theorem dX1_grant_131 : decode cX1_grant 131 = .ok (.isub, 1) := by decide +kernel
theorem dX1_grant_132 : decode cX1_grant 132 = .ok (.istore_n 2, 1) := by decide +kernel
theorem dX1_grant_133 : decode cX1_grant 133 = .ok (.iload_n 3, 1) := by decide +kernel
theorem dX1_grant_134 : decode cX1_grant 134 = .ok (.ifCond .ne 8, 3) := by decide +kernel
theorem dX1_grant_137 : decode cX1_grant 137 = .ok (.iload 6, 2) := by decide +kernel
theorem dX1_grant_139 : decode cX1_grant 139 = .ok (.ifCond .le 7, 3) := by decide +kernel
theorem dX1_grant_142 : decode cX1_grant 142 = .ok (.iconst 1, 1) := by decide +kernel
theorem dX1_grant_143 : decode cX1_grant 143 = .ok (.goto 4, 3) := by decide +kernel
theorem dX1_grant_146 : decode cX1_grant 146 = .ok (.iconst 0, 1) := by decide +kernel
theorem dX1_grant_147 : decode cX1_grant 147 = .ok (.istore_n 3, 1) := by decide +kernel
theorem dX1_grant_148 : decode cX1_grant 148 = .ok (.iinc 4 1, 3) := by decide +kernel
theorem dX1_grant_151 : decode cX1_grant 151 = .ok (.goto (-116), 3) := by decide +kernel
theorem dX1_grant_154 : decode cX1_grant 154 = .ok (.goto (-128), 3) := by decide +kernel
theorem dX1_grant_157 : decode cX1_grant 157 = .ok (.return_, 1) := by decide +kernel
theorem dX1_decide_0 : decode cX1_decide 0 = .ok (.aload_n 0, 1) := by decide +kernel
theorem dX1_decide_1 : decode cX1_decide 1 = .ok (.invokevirtual 95, 3) := by decide +kernel
theorem dX1_decide_4 : decode cX1_decide 4 = .ok (.iconst 0, 1) := by decide +kernel
theorem dX1_decide_5 : decode cX1_decide 5 = .ok (.istore_n 1, 1) := by decide +kernel
theorem dX1_decide_6 : decode cX1_decide 6 = .ok (.iload_n 1, 1) := by decide +kernel
theorem dX1_decide_7 : decode cX1_decide 7 = .ok (.aload_n 0, 1) := by decide +kernel
theorem dX1_decide_8 : decode cX1_decide 8 = .ok (.getfield 7, 3) := by decide +kernel
theorem dX1_decide_11 : decode cX1_decide 11 = .ok (.if_icmp .ge 14, 3) := by decide +kernel
theorem dX1_decide_14 : decode cX1_decide 14 = .ok (.aload_n 0, 1) := by decide +kernel
theorem dX1_decide_15 : decode cX1_decide 15 = .ok (.iload_n 1, 1) := by decide +kernel
theorem dX1_decide_16 : decode cX1_decide 16 = .ok (.invokevirtual 98, 3) := by decide +kernel
theorem dX1_decide_19 : decode cX1_decide 19 = .ok (.iinc 1 1, 3) := by decide +kernel
theorem dX1_decide_22 : decode cX1_decide 22 = .ok (.goto (-16), 3) := by decide +kernel
theorem dX1_decide_25 : decode cX1_decide 25 = .ok (.return_, 1) := by decide +kernel
theorem dX1_insideNow_0 : decode cX1_insideNow 0 = .ok (.iconst 0, 1) := by decide +kernel
theorem dX1_insideNow_1 : decode cX1_insideNow 1 = .ok (.istore_n 1, 1) := by decide +kernel
theorem dX1_insideNow_2 : decode cX1_insideNow 2 = .ok (.iconst 1, 1) := by decide +kernel
theorem dX1_insideNow_3 : decode cX1_insideNow 3 = .ok (.istore_n 2, 1) := by decide +kernel
theorem dX1_insideNow_4 : decode cX1_insideNow 4 = .ok (.iload_n 2, 1) := by decide +kernel
theorem dX1_insideNow_5 : decode cX1_insideNow 5 = .ok (.aload_n 0, 1) := by decide +kernel
theorem dX1_insideNow_6 : decode cX1_insideNow 6 = .ok (.getfield 7, 3) := by decide +kernel
theorem dX1_insideNow_9 : decode cX1_insideNow 9 = .ok (.if_icmp .ge 18, 3) := by decide +kernel
theorem dX1_insideNow_12 : decode cX1_insideNow 12 = .ok (.iload_n 1, 1) := by decide +kernel
theorem dX1_insideNow_13 : decode cX1_insideNow 13 = .ok (.aload_n 0, 1) := by decide +kernel
theorem dX1_insideNow_14 : decode cX1_insideNow 14 = .ok (.getfield 17, 3) := by decide +kernel
theorem dX1_insideNow_17 : decode cX1_insideNow 17 = .ok (.iload_n 2, 1) := by decide +kernel
theorem dX1_insideNow_18 : decode cX1_insideNow 18 = .ok (.iaload, 1) := by decide +kernel
theorem dX1_insideNow_19 : decode cX1_insideNow 19 = .ok (.iadd, 1) := by decide +kernel
theorem dX1_insideNow_20 : decode cX1_insideNow 20 = .ok (.istore_n 1, 1) := by decide +kernel
theorem dX1_insideNow_21 : decode cX1_insideNow 21 = .ok (.iinc 2 1, 3) := by decide +kernel
theorem dX1_insideNow_24 : decode cX1_insideNow 24 = .ok (.goto (-20), 3) := by decide +kernel
theorem dX1_insideNow_27 : decode cX1_insideNow 27 = .ok (.iload_n 1, 1) := by decide +kernel
theorem dX1_insideNow_28 : decode cX1_insideNow 28 = .ok (.ireturn, 1) := by decide +kernel
theorem dX1_go_0 : decode cX1_go 0 = .ok (.aload_n 0, 1) := by decide +kernel
theorem dX1_go_1 : decode cX1_go 1 = .ok (.invokevirtual 102, 3) := by decide +kernel
theorem dX1_go_4 : decode cX1_go 4 = .ok (.iconst 0, 1) := by decide +kernel
theorem dX1_go_5 : decode cX1_go 5 = .ok (.istore_n 1, 1) := by decide +kernel
theorem dX1_go_6 : decode cX1_go 6 = .ok (.iconst 0, 1) := by decide +kernel
theorem dX1_go_7 : decode cX1_go 7 = .ok (.istore_n 2, 1) := by decide +kernel
theorem dX1_go_8 : decode cX1_go 8 = .ok (.iload_n 2, 1) := by decide +kernel
theorem dX1_go_9 : decode cX1_go 9 = .ok (.aload_n 0, 1) := by decide +kernel
theorem dX1_go_10 : decode cX1_go 10 = .ok (.getfield 64, 3) := by decide +kernel
theorem dX1_go_13 : decode cX1_go 13 = .ok (.if_icmp .ge 113, 3) := by decide +kernel
theorem dX1_go_16 : decode cX1_go 16 = .ok (.aload_n 0, 1) := by decide +kernel
theorem dX1_go_17 : decode cX1_go 17 = .ok (.getfield 51, 3) := by decide +kernel
theorem dX1_go_20 : decode cX1_go 20 = .ok (.iload_n 2, 1) := by decide +kernel
theorem dX1_go_21 : decode cX1_go 21 = .ok (.iaload, 1) := by decide +kernel
theorem dX1_go_22 : decode cX1_go 22 = .ok (.ifCond .le 98, 3) := by decide +kernel
theorem dX1_go_25 : decode cX1_go 25 = .ok (.aload_n 0, 1) := by decide +kernel
theorem dX1_go_26 : decode cX1_go 26 = .ok (.getfield 17, 3) := by decide +kernel
theorem dX1_go_29 : decode cX1_go 29 = .ok (.aload_n 0, 1) := by decide +kernel
theorem dX1_go_30 : decode cX1_go 30 = .ok (.iload_n 2, 1) := by decide +kernel
theorem dX1_go_31 : decode cX1_go 31 = .ok (.aload_n 0, 1) := by decide +kernel
theorem dX1_go_32 : decode cX1_go 32 = .ok (.getfield 54, 3) := by decide +kernel
theorem dX1_go_35 : decode cX1_go 35 = .ok (.iload_n 2, 1) := by decide +kernel
theorem dX1_go_36 : decode cX1_go 36 = .ok (.iaload, 1) := by decide +kernel
theorem dX1_go_37 : decode cX1_go 37 = .ok (.invokevirtual 81, 3) := by decide +kernel
theorem dX1_go_40 : decode cX1_go 40 = .ok (.dup2, 1) := by decide +kernel
theorem dX1_go_41 : decode cX1_go 41 = .ok (.iaload, 1) := by decide +kernel
theorem dX1_go_42 : decode cX1_go 42 = .ok (.aload_n 0, 1) := by decide +kernel
theorem dX1_go_43 : decode cX1_go 43 = .ok (.getfield 51, 3) := by decide +kernel
theorem dX1_go_46 : decode cX1_go 46 = .ok (.iload_n 2, 1) := by decide +kernel
theorem dX1_go_47 : decode cX1_go 47 = .ok (.iaload, 1) := by decide +kernel
theorem dX1_go_48 : decode cX1_go 48 = .ok (.isub, 1) := by decide +kernel
theorem dX1_go_49 : decode cX1_go 49 = .ok (.iastore, 1) := by decide +kernel
theorem dX1_go_50 : decode cX1_go 50 = .ok (.aload_n 0, 1) := by decide +kernel
theorem dX1_go_51 : decode cX1_go 51 = .ok (.getfield 17, 3) := by decide +kernel
theorem dX1_go_54 : decode cX1_go 54 = .ok (.aload_n 0, 1) := by decide +kernel
theorem dX1_go_55 : decode cX1_go 55 = .ok (.getfield 54, 3) := by decide +kernel
theorem dX1_go_58 : decode cX1_go 58 = .ok (.iload_n 2, 1) := by decide +kernel
theorem dX1_go_59 : decode cX1_go 59 = .ok (.iaload, 1) := by decide +kernel
theorem dX1_go_60 : decode cX1_go 60 = .ok (.dup2, 1) := by decide +kernel
theorem dX1_go_61 : decode cX1_go 61 = .ok (.iaload, 1) := by decide +kernel
theorem dX1_go_62 : decode cX1_go 62 = .ok (.aload_n 0, 1) := by decide +kernel
theorem dX1_go_63 : decode cX1_go 63 = .ok (.getfield 51, 3) := by decide +kernel
theorem dX1_go_66 : decode cX1_go 66 = .ok (.iload_n 2, 1) := by decide +kernel
theorem dX1_go_67 : decode cX1_go 67 = .ok (.iaload, 1) := by decide +kernel
theorem dX1_go_68 : decode cX1_go 68 = .ok (.iadd, 1) := by decide +kernel
theorem dX1_go_69 : decode cX1_go 69 = .ok (.iastore, 1) := by decide +kernel
theorem dX1_go_70 : decode cX1_go 70 = .ok (.aload_n 0, 1) := by decide +kernel
theorem dX1_go_71 : decode cX1_go 71 = .ok (.getfield 39, 3) := by decide +kernel
theorem dX1_go_74 : decode cX1_go 74 = .ok (.iload_n 2, 1) := by decide +kernel
theorem dX1_go_75 : decode cX1_go 75 = .ok (.dup2, 1) := by decide +kernel
theorem dX1_go_76 : decode cX1_go 76 = .ok (.iaload, 1) := by decide +kernel
theorem dX1_go_77 : decode cX1_go 77 = .ok (.aload_n 0, 1) := by decide +kernel
theorem dX1_go_78 : decode cX1_go 78 = .ok (.getfield 51, 3) := by decide +kernel
theorem dX1_go_81 : decode cX1_go 81 = .ok (.iload_n 2, 1) := by decide +kernel
theorem dX1_go_82 : decode cX1_go 82 = .ok (.iaload, 1) := by decide +kernel
theorem dX1_go_83 : decode cX1_go 83 = .ok (.iadd, 1) := by decide +kernel
theorem dX1_go_84 : decode cX1_go 84 = .ok (.iastore, 1) := by decide +kernel
theorem dX1_go_85 : decode cX1_go 85 = .ok (.iload_n 1, 1) := by decide +kernel
theorem dX1_go_86 : decode cX1_go 86 = .ok (.aload_n 0, 1) := by decide +kernel
theorem dX1_go_87 : decode cX1_go 87 = .ok (.getfield 51, 3) := by decide +kernel
theorem dX1_go_90 : decode cX1_go 90 = .ok (.iload_n 2, 1) := by decide +kernel
theorem dX1_go_91 : decode cX1_go 91 = .ok (.iaload, 1) := by decide +kernel
theorem dX1_go_92 : decode cX1_go 92 = .ok (.iadd, 1) := by decide +kernel
theorem dX1_go_93 : decode cX1_go 93 = .ok (.istore_n 1, 1) := by decide +kernel
theorem dX1_go_94 : decode cX1_go 94 = .ok (.aload_n 0, 1) := by decide +kernel
theorem dX1_go_95 : decode cX1_go 95 = .ok (.aload_n 0, 1) := by decide +kernel
theorem dX1_go_96 : decode cX1_go 96 = .ok (.getfield 54, 3) := by decide +kernel
theorem dX1_go_99 : decode cX1_go 99 = .ok (.iload_n 2, 1) := by decide +kernel
theorem dX1_go_100 : decode cX1_go 100 = .ok (.iaload, 1) := by decide +kernel
theorem dX1_go_101 : decode cX1_go 101 = .ok (.ifCond .ne 12, 3) := by decide +kernel
theorem dX1_go_104 : decode cX1_go 104 = .ok (.aload_n 0, 1) := by decide +kernel
theorem dX1_go_105 : decode cX1_go 105 = .ok (.getfield 92, 3) := by decide +kernel
theorem dX1_go_108 : decode cX1_go 108 = .ok (.iconst 1, 1) := by decide +kernel
theorem dX1_go_109 : decode cX1_go 109 = .ok (.iadd, 1) := by decide +kernel
theorem dX1_go_110 : decode cX1_go 110 = .ok (.goto 7, 3) := by decide +kernel
theorem dX1_go_113 : decode cX1_go 113 = .ok (.aload_n 0, 1) := by decide +kernel
theorem dX1_go_114 : decode cX1_go 114 = .ok (.getfield 42, 3) := by decide +kernel
theorem dX1_go_117 : decode cX1_go 117 = .ok (.putfield 42, 3) := by decide +kernel
theorem dX1_go_120 : decode cX1_go 120 = .ok (.iinc 2 1, 3) := by decide +kernel
theorem dX1_go_123 : decode cX1_go 123 = .ok (.goto (-115), 3) := by decide +kernel
theorem dX1_go_126 : decode cX1_go 126 = .ok (.aload_n 0, 1) := by decide +kernel
theorem dX1_go_127 : decode cX1_go 127 = .ok (.dup, 1) := by decide +kernel
theorem dX1_go_128 : decode cX1_go 128 = .ok (.getfield 92, 3) := by decide +kernel
theorem dX1_go_131 : decode cX1_go 131 = .ok (.iconst 1, 1) := by decide +kernel
theorem dX1_go_132 : decode cX1_go 132 = .ok (.iadd, 1) := by decide +kernel
theorem dX1_go_133 : decode cX1_go 133 = .ok (.putfield 92, 3) := by decide +kernel
theorem dX1_go_136 : decode cX1_go 136 = .ok (.aload_n 0, 1) := by decide +kernel
theorem dX1_go_137 : decode cX1_go 137 = .ok (.dup, 1) := by decide +kernel
theorem dX1_go_138 : decode cX1_go 138 = .ok (.getfield 105, 3) := by decide +kernel
theorem dX1_go_141 : decode cX1_go 141 = .ok (.aload_n 0, 1) := by decide +kernel
theorem dX1_go_142 : decode cX1_go 142 = .ok (.invokevirtual 108, 3) := by decide +kernel
theorem dX1_go_145 : decode cX1_go 145 = .ok (.iadd, 1) := by decide +kernel
theorem dX1_go_146 : decode cX1_go 146 = .ok (.putfield 105, 3) := by decide +kernel
theorem dX1_go_149 : decode cX1_go 149 = .ok (.iload_n 1, 1) := by decide +kernel
theorem dX1_go_150 : decode cX1_go 150 = .ok (.ireturn, 1) := by decide +kernel
theorem dX1_step_0 : decode cX1_step 0 = .ok (.aload_n 0, 1) := by decide +kernel
theorem dX1_step_1 : decode cX1_step 1 = .ok (.iload_n 1, 1) := by decide +kernel
theorem dX1_step_2 : decode cX1_step 2 = .ok (.iconst 1, 1) := by decide +kernel
theorem dX1_step_3 : decode cX1_step 3 = .ok (.bipush 50, 2) := by decide +kernel
theorem dX1_step_5 : decode cX1_step 5 = .ok (.invokestatic 60, 3) := by decide +kernel
theorem dX1_step_8 : decode cX1_step 8 = .ok (.ifCond .eq 7, 3) := by decide +kernel
theorem dX1_step_11 : decode cX1_step 11 = .ok (.iconst 0, 1) := by decide +kernel
theorem dX1_step_12 : decode cX1_step 12 = .ok (.goto 4, 3) := by decide +kernel
theorem dX1_step_15 : decode cX1_step 15 = .ok (.iconst 1, 1) := by decide +kernel
theorem dX1_step_16 : decode cX1_step 16 = .ok (.invokevirtual 67, 3) := by decide +kernel
theorem dX1_step_19 : decode cX1_step 19 = .ok (.ifCond .ne 5, 3) := by decide +kernel
theorem dX1_step_22 : decode cX1_step 22 = .ok (.iconst 0, 1) := by decide +kernel
theorem dX1_step_23 : decode cX1_step 23 = .ok (.ireturn, 1) := by decide +kernel
theorem dX1_step_24 : decode cX1_step 24 = .ok (.aload_n 0, 1) := by decide +kernel
theorem dX1_step_25 : decode cX1_step 25 = .ok (.getfield 17, 3) := by decide +kernel
theorem dX1_step_28 : decode cX1_step 28 = .ok (.iconst 0, 1) := by decide +kernel
theorem dX1_step_29 : decode cX1_step 29 = .ok (.iaload, 1) := by decide +kernel
theorem dX1_step_30 : decode cX1_step 30 = .ok (.istore_n 2, 1) := by decide +kernel
theorem dX1_step_31 : decode cX1_step 31 = .ok (.iconst 0, 1) := by decide +kernel
theorem dX1_step_32 : decode cX1_step 32 = .ok (.istore_n 3, 1) := by decide +kernel
theorem dX1_step_33 : decode cX1_step 33 = .ok (.iload_n 3, 1) := by decide +kernel
theorem dX1_step_34 : decode cX1_step 34 = .ok (.iload_n 1, 1) := by decide +kernel
theorem dX1_step_35 : decode cX1_step 35 = .ok (.if_icmp .ge 15, 3) := by decide +kernel
theorem dX1_step_38 : decode cX1_step 38 = .ok (.aload_n 0, 1) := by decide +kernel
theorem dX1_step_39 : decode cX1_step 39 = .ok (.invokevirtual 112, 3) := by decide +kernel
theorem dX1_step_42 : decode cX1_step 42 = .ok (.istore 4, 2) := by decide +kernel
theorem dX1_step_44 : decode cX1_step 44 = .ok (.iinc 3 1, 3) := by decide +kernel
theorem dX1_step_47 : decode cX1_step 47 = .ok (.goto (-14), 3) := by decide +kernel
theorem dX1_step_50 : decode cX1_step 50 = .ok (.aload_n 0, 1) := by decide +kernel
theorem dX1_step_51 : decode cX1_step 51 = .ok (.getfield 17, 3) := by decide +kernel
theorem dX1_step_54 : decode cX1_step 54 = .ok (.iconst 0, 1) := by decide +kernel
theorem dX1_step_55 : decode cX1_step 55 = .ok (.iaload, 1) := by decide +kernel
theorem dX1_step_56 : decode cX1_step 56 = .ok (.iload_n 2, 1) := by decide +kernel
theorem dX1_step_57 : decode cX1_step 57 = .ok (.isub, 1) := by decide +kernel
theorem dX1_step_58 : decode cX1_step 58 = .ok (.ireturn, 1) := by decide +kernel
theorem dX1_clear_0 : decode cX1_clear 0 = .ok (.aload_n 0, 1) := by decide +kernel
theorem dX1_clear_1 : decode cX1_clear 1 = .ok (.iconst 0, 1) := by decide +kernel
theorem dX1_clear_2 : decode cX1_clear 2 = .ok (.putfield 57, 3) := by decide +kernel
theorem dX1_clear_5 : decode cX1_clear 5 = .ok (.iconst 0, 1) := by decide +kernel
theorem dX1_clear_6 : decode cX1_clear 6 = .ok (.istore_n 1, 1) := by decide +kernel
theorem dX1_clear_7 : decode cX1_clear 7 = .ok (.iconst 1, 1) := by decide +kernel
theorem dX1_clear_8 : decode cX1_clear 8 = .ok (.istore_n 2, 1) := by decide +kernel
theorem dX1_clear_9 : decode cX1_clear 9 = .ok (.iload_n 2, 1) := by decide +kernel
theorem dX1_clear_10 : decode cX1_clear 10 = .ok (.ifCond .eq 84, 3) := by decide +kernel
theorem dX1_clear_13 : decode cX1_clear 13 = .ok (.aload_n 0, 1) := by decide +kernel
theorem dX1_clear_14 : decode cX1_clear 14 = .ok (.invokevirtual 108, 3) := by decide +kernel
theorem dX1_clear_17 : decode cX1_clear 17 = .ok (.ifCond .le 77, 3) := by decide +kernel
theorem dX1_clear_20 : decode cX1_clear 20 = .ok (.iload_n 1, 1) := by decide +kernel
theorem dX1_clear_21 : decode cX1_clear 21 = .ok (.sipush 300, 3) := by decide +kernel
theorem dX1_clear_24 : decode cX1_clear 24 = .ok (.if_icmp .ge 70, 3) := by decide +kernel
theorem dX1_clear_27 : decode cX1_clear 27 = .ok (.iconst 0, 1) := by decide +kernel
theorem dX1_clear_28 : decode cX1_clear 28 = .ok (.istore_n 3, 1) := by decide +kernel
theorem dX1_clear_29 : decode cX1_clear 29 = .ok (.iconst 0, 1) := by decide +kernel
theorem dX1_clear_30 : decode cX1_clear 30 = .ok (.istore 4, 2) := by decide +kernel
theorem dX1_clear_32 : decode cX1_clear 32 = .ok (.iload 4, 2) := by decide +kernel
theorem dX1_clear_34 : decode cX1_clear 34 = .ok (.aload_n 0, 1) := by decide +kernel
theorem dX1_clear_35 : decode cX1_clear 35 = .ok (.getfield 7, 3) := by decide +kernel
theorem dX1_clear_38 : decode cX1_clear 38 = .ok (.if_icmp .ge 33, 3) := by decide +kernel
theorem dX1_clear_41 : decode cX1_clear 41 = .ok (.iload_n 3, 1) := by decide +kernel
theorem dX1_clear_42 : decode cX1_clear 42 = .ok (.ifCond .ne 17, 3) := by decide +kernel
theorem dX1_clear_45 : decode cX1_clear 45 = .ok (.aload_n 0, 1) := by decide +kernel
theorem dX1_clear_46 : decode cX1_clear 46 = .ok (.getfield 20, 3) := by decide +kernel
theorem dX1_clear_49 : decode cX1_clear 49 = .ok (.iload 4, 2) := by decide +kernel
theorem dX1_clear_51 : decode cX1_clear 51 = .ok (.iaload, 1) := by decide +kernel
theorem dX1_clear_52 : decode cX1_clear 52 = .ok (.aload_n 0, 1) := by decide +kernel
theorem dX1_clear_53 : decode cX1_clear 53 = .ok (.getfield 92, 3) := by decide +kernel
theorem dX1_clear_56 : decode cX1_clear 56 = .ok (.if_icmp .le 7, 3) := by decide +kernel
theorem dX1_clear_59 : decode cX1_clear 59 = .ok (.iconst 1, 1) := by decide +kernel
theorem dX1_clear_60 : decode cX1_clear 60 = .ok (.goto 4, 3) := by decide +kernel
theorem dX1_clear_63 : decode cX1_clear 63 = .ok (.iconst 0, 1) := by decide +kernel
theorem dX1_clear_64 : decode cX1_clear 64 = .ok (.istore_n 3, 1) := by decide +kernel
theorem dX1_clear_65 : decode cX1_clear 65 = .ok (.iinc 4 1, 3) := by decide +kernel
theorem dX1_clear_68 : decode cX1_clear 68 = .ok (.goto (-36), 3) := by decide +kernel
theorem dX1_clear_71 : decode cX1_clear 71 = .ok (.aload_n 0, 1) := by decide +kernel
theorem dX1_clear_72 : decode cX1_clear 72 = .ok (.invokevirtual 112, 3) := by decide +kernel
theorem dX1_clear_75 : decode cX1_clear 75 = .ok (.ifCond .gt 7, 3) := by decide +kernel
theorem dX1_clear_78 : decode cX1_clear 78 = .ok (.iload_n 3, 1) := by decide +kernel
theorem dX1_clear_79 : decode cX1_clear 79 = .ok (.ifCond .eq 7, 3) := by decide +kernel
theorem dX1_clear_82 : decode cX1_clear 82 = .ok (.iconst 1, 1) := by decide +kernel
theorem dX1_clear_83 : decode cX1_clear 83 = .ok (.goto 4, 3) := by decide +kernel
theorem dX1_clear_86 : decode cX1_clear 86 = .ok (.iconst 0, 1) := by decide +kernel
theorem dX1_clear_87 : decode cX1_clear 87 = .ok (.istore_n 2, 1) := by decide +kernel
theorem dX1_clear_88 : decode cX1_clear 88 = .ok (.iinc 1 1, 3) := by decide +kernel
theorem dX1_clear_91 : decode cX1_clear 91 = .ok (.goto (-82), 3) := by decide +kernel
theorem dX1_clear_94 : decode cX1_clear 94 = .ok (.iload_n 1, 1) := by decide +kernel
theorem dX1_clear_95 : decode cX1_clear 95 = .ok (.ireturn, 1) := by decide +kernel
theorem dX1_now_0 : decode cX1_now 0 = .ok (.aload_n 0, 1) := by decide +kernel
theorem dX1_now_1 : decode cX1_now 1 = .ok (.iconst 0, 1) := by decide +kernel
theorem dX1_now_2 : decode cX1_now 2 = .ok (.putfield 57, 3) := by decide +kernel
theorem dX1_now_5 : decode cX1_now 5 = .ok (.aload_n 0, 1) := by decide +kernel
theorem dX1_now_6 : decode cX1_now 6 = .ok (.getfield 92, 3) := by decide +kernel
theorem dX1_now_9 : decode cX1_now 9 = .ok (.ireturn, 1) := by decide +kernel
theorem dX1_people_0 : decode cX1_people 0 = .ok (.aload_n 0, 1) := by decide +kernel
theorem dX1_people_1 : decode cX1_people 1 = .ok (.aload_n 0, 1) := by decide +kernel
theorem dX1_people_2 : decode cX1_people 2 = .ok (.iload_n 1, 1) := by decide +kernel
theorem dX1_people_3 : decode cX1_people 3 = .ok (.invokevirtual 71, 3) := by decide +kernel
theorem dX1_people_6 : decode cX1_people 6 = .ok (.ifCond .eq 7, 3) := by decide +kernel
theorem dX1_people_9 : decode cX1_people 9 = .ok (.iconst 0, 1) := by decide +kernel
theorem dX1_people_10 : decode cX1_people 10 = .ok (.goto 4, 3) := by decide +kernel
theorem dX1_people_13 : decode cX1_people 13 = .ok (.iconst 1, 1) := by decide +kernel
theorem dX1_people_14 : decode cX1_people 14 = .ok (.invokevirtual 67, 3) := by decide +kernel
theorem dX1_people_17 : decode cX1_people 17 = .ok (.ifCond .eq 12, 3) := by decide +kernel
theorem dX1_people_20 : decode cX1_people 20 = .ok (.aload_n 0, 1) := by decide +kernel
theorem dX1_people_21 : decode cX1_people 21 = .ok (.getfield 17, 3) := by decide +kernel
theorem dX1_people_24 : decode cX1_people 24 = .ok (.iload_n 1, 1) := by decide +kernel
theorem dX1_people_25 : decode cX1_people 25 = .ok (.iaload, 1) := by decide +kernel
theorem dX1_people_26 : decode cX1_people 26 = .ok (.goto 4, 3) := by decide +kernel
theorem dX1_people_29 : decode cX1_people 29 = .ok (.iconst 0, 1) := by decide +kernel
theorem dX1_people_30 : decode cX1_people 30 = .ok (.ireturn, 1) := by decide +kernel
theorem dX1_inside_0 : decode cX1_inside 0 = .ok (.aload_n 0, 1) := by decide +kernel
theorem dX1_inside_1 : decode cX1_inside 1 = .ok (.iconst 0, 1) := by decide +kernel
theorem dX1_inside_2 : decode cX1_inside 2 = .ok (.putfield 57, 3) := by decide +kernel
theorem dX1_inside_5 : decode cX1_inside 5 = .ok (.aload_n 0, 1) := by decide +kernel
theorem dX1_inside_6 : decode cX1_inside 6 = .ok (.invokevirtual 108, 3) := by decide +kernel
theorem dX1_inside_9 : decode cX1_inside 9 = .ok (.ireturn, 1) := by decide +kernel
theorem dX1_latest_0 : decode cX1_latest 0 = .ok (.aload_n 0, 1) := by decide +kernel
theorem dX1_latest_1 : decode cX1_latest 1 = .ok (.aload_n 0, 1) := by decide +kernel
theorem dX1_latest_2 : decode cX1_latest 2 = .ok (.getfield 42, 3) := by decide +kernel
theorem dX1_latest_5 : decode cX1_latest 5 = .ok (.iconst (-1), 1) := by decide +kernel
theorem dX1_latest_6 : decode cX1_latest 6 = .ok (.if_icmp .ne 7, 3) := by decide +kernel
theorem dX1_latest_9 : decode cX1_latest 9 = .ok (.iconst 1, 1) := by decide +kernel
theorem dX1_latest_10 : decode cX1_latest 10 = .ok (.goto 4, 3) := by decide +kernel
theorem dX1_latest_13 : decode cX1_latest 13 = .ok (.iconst 0, 1) := by decide +kernel
theorem dX1_latest_14 : decode cX1_latest 14 = .ok (.invokevirtual 67, 3) := by decide +kernel
theorem dX1_latest_17 : decode cX1_latest 17 = .ok (.ifCond .eq 10, 3) := by decide +kernel
theorem dX1_latest_20 : decode cX1_latest 20 = .ok (.aload_n 0, 1) := by decide +kernel
theorem dX1_latest_21 : decode cX1_latest 21 = .ok (.getfield 42, 3) := by decide +kernel
theorem dX1_latest_24 : decode cX1_latest 24 = .ok (.goto 4, 3) := by decide +kernel
theorem dX1_latest_27 : decode cX1_latest 27 = .ok (.iconst 0, 1) := by decide +kernel
theorem dX1_latest_28 : decode cX1_latest 28 = .ok (.ireturn, 1) := by decide +kernel
theorem dX1_passed_0 : decode cX1_passed 0 = .ok (.aload_n 0, 1) := by decide +kernel
theorem dX1_passed_1 : decode cX1_passed 1 = .ok (.aload_n 0, 1) := by decide +kernel
theorem dX1_passed_2 : decode cX1_passed 2 = .ok (.iload_n 1, 1) := by decide +kernel
theorem dX1_passed_3 : decode cX1_passed 3 = .ok (.invokevirtual 74, 3) := by decide +kernel
theorem dX1_passed_6 : decode cX1_passed 6 = .ok (.ifCond .eq 7, 3) := by decide +kernel
theorem dX1_passed_9 : decode cX1_passed 9 = .ok (.iconst 0, 1) := by decide +kernel
theorem dX1_passed_10 : decode cX1_passed 10 = .ok (.goto 4, 3) := by decide +kernel
theorem dX1_passed_13 : decode cX1_passed 13 = .ok (.iconst 1, 1) := by decide +kernel
theorem dX1_passed_14 : decode cX1_passed 14 = .ok (.invokevirtual 67, 3) := by decide +kernel
theorem dX1_passed_17 : decode cX1_passed 17 = .ok (.ifCond .eq 12, 3) := by decide +kernel
theorem dX1_passed_20 : decode cX1_passed 20 = .ok (.aload_n 0, 1) := by decide +kernel
theorem dX1_passed_21 : decode cX1_passed 21 = .ok (.getfield 39, 3) := by decide +kernel
theorem dX1_passed_24 : decode cX1_passed 24 = .ok (.iload_n 1, 1) := by decide +kernel
theorem dX1_passed_25 : decode cX1_passed 25 = .ok (.iaload, 1) := by decide +kernel
theorem dX1_passed_26 : decode cX1_passed 26 = .ok (.goto 4, 3) := by decide +kernel
theorem dX1_passed_29 : decode cX1_passed 29 = .ok (.iconst 0, 1) := by decide +kernel
theorem dX1_passed_30 : decode cX1_passed 30 = .ok (.ireturn, 1) := by decide +kernel
theorem dX1_waited_0 : decode cX1_waited 0 = .ok (.aload_n 0, 1) := by decide +kernel
theorem dX1_waited_1 : decode cX1_waited 1 = .ok (.iconst 0, 1) := by decide +kernel
theorem dX1_waited_2 : decode cX1_waited 2 = .ok (.putfield 57, 3) := by decide +kernel
theorem dX1_waited_5 : decode cX1_waited 5 = .ok (.aload_n 0, 1) := by decide +kernel
theorem dX1_waited_6 : decode cX1_waited 6 = .ok (.getfield 105, 3) := by decide +kernel
theorem dX1_waited_9 : decode cX1_waited 9 = .ok (.ireturn, 1) := by decide +kernel
theorem dX1_distance_0 : decode cX1_distance 0 = .ok (.aload_n 0, 1) := by decide +kernel
theorem dX1_distance_1 : decode cX1_distance 1 = .ok (.invokevirtual 85, 3) := by decide +kernel
theorem dX1_distance_4 : decode cX1_distance 4 = .ok (.aload_n 0, 1) := by decide +kernel
theorem dX1_distance_5 : decode cX1_distance 5 = .ok (.aload_n 0, 1) := by decide +kernel
theorem dX1_distance_6 : decode cX1_distance 6 = .ok (.iload_n 1, 1) := by decide +kernel
theorem dX1_distance_7 : decode cX1_distance 7 = .ok (.invokevirtual 71, 3) := by decide +kernel
theorem dX1_distance_10 : decode cX1_distance 10 = .ok (.ifCond .ne 7, 3) := by decide +kernel
theorem dX1_distance_13 : decode cX1_distance 13 = .ok (.iconst 1, 1) := by decide +kernel
theorem dX1_distance_14 : decode cX1_distance 14 = .ok (.goto 18, 3) := by decide +kernel
theorem dX1_distance_17 : decode cX1_distance 17 = .ok (.aload_n 0, 1) := by decide +kernel
theorem dX1_distance_18 : decode cX1_distance 18 = .ok (.getfield 45, 3) := by decide +kernel
theorem dX1_distance_21 : decode cX1_distance 21 = .ok (.iload_n 1, 1) := by decide +kernel
theorem dX1_distance_22 : decode cX1_distance 22 = .ok (.iaload, 1) := by decide +kernel
theorem dX1_distance_23 : decode cX1_distance 23 = .ok (.iconst (-1), 1) := by decide +kernel
theorem dX1_distance_24 : decode cX1_distance 24 = .ok (.if_icmp .ne 7, 3) := by decide +kernel
theorem dX1_distance_27 : decode cX1_distance 27 = .ok (.iconst 2, 1) := by decide +kernel
theorem dX1_distance_28 : decode cX1_distance 28 = .ok (.goto 4, 3) := by decide +kernel
theorem dX1_distance_31 : decode cX1_distance 31 = .ok (.iconst 0, 1) := by decide +kernel
theorem dX1_distance_32 : decode cX1_distance 32 = .ok (.invokevirtual 67, 3) := by decide +kernel
theorem dX1_distance_35 : decode cX1_distance 35 = .ok (.ifCond .eq 12, 3) := by decide +kernel
theorem dX1_distance_38 : decode cX1_distance 38 = .ok (.aload_n 0, 1) := by decide +kernel
theorem dX1_distance_39 : decode cX1_distance 39 = .ok (.getfield 45, 3) := by decide +kernel
theorem dX1_distance_42 : decode cX1_distance 42 = .ok (.iload_n 1, 1) := by decide +kernel
theorem dX1_distance_43 : decode cX1_distance 43 = .ok (.iaload, 1) := by decide +kernel
theorem dX1_distance_44 : decode cX1_distance 44 = .ok (.goto 4, 3) := by decide +kernel
theorem dX1_distance_47 : decode cX1_distance 47 = .ok (.iconst 0, 1) := by decide +kernel
theorem dX1_distance_48 : decode cX1_distance 48 = .ok (.ireturn, 1) := by decide +kernel
theorem dX1_door_0 : decode cX1_door 0 = .ok (.aload_n 0, 1) := by decide +kernel
theorem dX1_door_1 : decode cX1_door 1 = .ok (.invokevirtual 85, 3) := by decide +kernel
theorem dX1_door_4 : decode cX1_door 4 = .ok (.aload_n 0, 1) := by decide +kernel
theorem dX1_door_5 : decode cX1_door 5 = .ok (.iload_n 1, 1) := by decide +kernel
theorem dX1_door_6 : decode cX1_door 6 = .ok (.invokevirtual 71, 3) := by decide +kernel
theorem dX1_door_9 : decode cX1_door 9 = .ok (.ifCond .eq 11, 3) := by decide +kernel
theorem dX1_door_12 : decode cX1_door 12 = .ok (.aload_n 0, 1) := by decide +kernel
theorem dX1_door_13 : decode cX1_door 13 = .ok (.iload_n 1, 1) := by decide +kernel
theorem dX1_door_14 : decode cX1_door 14 = .ok (.invokevirtual 88, 3) := by decide +kernel
theorem dX1_door_17 : decode cX1_door 17 = .ok (.goto 4, 3) := by decide +kernel
theorem dX1_door_20 : decode cX1_door 20 = .ok (.iconst (-1), 1) := by decide +kernel
theorem dX1_door_21 : decode cX1_door 21 = .ok (.istore_n 2, 1) := by decide +kernel
theorem dX1_door_22 : decode cX1_door 22 = .ok (.aload_n 0, 1) := by decide +kernel
theorem dX1_door_23 : decode cX1_door 23 = .ok (.aload_n 0, 1) := by decide +kernel
theorem dX1_door_24 : decode cX1_door 24 = .ok (.iload_n 1, 1) := by decide +kernel
theorem dX1_door_25 : decode cX1_door 25 = .ok (.invokevirtual 71, 3) := by decide +kernel
theorem dX1_door_28 : decode cX1_door 28 = .ok (.ifCond .ne 7, 3) := by decide +kernel
theorem dX1_door_31 : decode cX1_door 31 = .ok (.iconst 1, 1) := by decide +kernel
theorem dX1_door_32 : decode cX1_door 32 = .ok (.goto 13, 3) := by decide +kernel
theorem dX1_door_35 : decode cX1_door 35 = .ok (.iload_n 2, 1) := by decide +kernel
theorem dX1_door_36 : decode cX1_door 36 = .ok (.iconst (-1), 1) := by decide +kernel
theorem dX1_door_37 : decode cX1_door 37 = .ok (.if_icmp .ne 7, 3) := by decide +kernel
theorem dX1_door_40 : decode cX1_door 40 = .ok (.iconst 2, 1) := by decide +kernel
theorem dX1_door_41 : decode cX1_door 41 = .ok (.goto 4, 3) := by decide +kernel
theorem dX1_door_44 : decode cX1_door 44 = .ok (.iconst 0, 1) := by decide +kernel
theorem dX1_door_45 : decode cX1_door 45 = .ok (.invokevirtual 67, 3) := by decide +kernel
theorem dX1_door_48 : decode cX1_door 48 = .ok (.ifCond .eq 7, 3) := by decide +kernel
theorem dX1_door_51 : decode cX1_door 51 = .ok (.iload_n 2, 1) := by decide +kernel
theorem dX1_door_52 : decode cX1_door 52 = .ok (.goto 4, 3) := by decide +kernel
theorem dX1_door_55 : decode cX1_door 55 = .ok (.iconst 0, 1) := by decide +kernel
theorem dX1_door_56 : decode cX1_door 56 = .ok (.ireturn, 1) := by decide +kernel
theorem dX1_trappedNow_0 : decode cX1_trappedNow 0 = .ok (.aload_n 0, 1) := by decide +kernel
theorem dX1_trappedNow_1 : decode cX1_trappedNow 1 = .ok (.invokevirtual 85, 3) := by decide +kernel
theorem dX1_trappedNow_4 : decode cX1_trappedNow 4 = .ok (.iconst 0, 1) := by decide +kernel
theorem dX1_trappedNow_5 : decode cX1_trappedNow 5 = .ok (.istore_n 1, 1) := by decide +kernel
theorem dX1_trappedNow_6 : decode cX1_trappedNow 6 = .ok (.iconst 1, 1) := by decide +kernel
theorem dX1_trappedNow_7 : decode cX1_trappedNow 7 = .ok (.istore_n 2, 1) := by decide +kernel
theorem dX1_trappedNow_8 : decode cX1_trappedNow 8 = .ok (.iload_n 2, 1) := by decide +kernel
theorem dX1_trappedNow_9 : decode cX1_trappedNow 9 = .ok (.aload_n 0, 1) := by decide +kernel
theorem dX1_trappedNow_10 : decode cX1_trappedNow 10 = .ok (.getfield 7, 3) := by decide +kernel
theorem dX1_trappedNow_13 : decode cX1_trappedNow 13 = .ok (.if_icmp .ge 32, 3) := by decide +kernel
theorem dX1_trappedNow_16 : decode cX1_trappedNow 16 = .ok (.iload_n 1, 1) := by decide +kernel
theorem dX1_trappedNow_17 : decode cX1_trappedNow 17 = .ok (.aload_n 0, 1) := by decide +kernel
theorem dX1_trappedNow_18 : decode cX1_trappedNow 18 = .ok (.getfield 45, 3) := by decide +kernel
theorem dX1_trappedNow_21 : decode cX1_trappedNow 21 = .ok (.iload_n 2, 1) := by decide +kernel
theorem dX1_trappedNow_22 : decode cX1_trappedNow 22 = .ok (.iaload, 1) := by decide +kernel
theorem dX1_trappedNow_23 : decode cX1_trappedNow 23 = .ok (.iconst (-1), 1) := by decide +kernel
theorem dX1_trappedNow_24 : decode cX1_trappedNow 24 = .ok (.if_icmp .ne 12, 3) := by decide +kernel
theorem dX1_trappedNow_27 : decode cX1_trappedNow 27 = .ok (.aload_n 0, 1) := by decide +kernel
theorem dX1_trappedNow_28 : decode cX1_trappedNow 28 = .ok (.getfield 17, 3) := by decide +kernel
theorem dX1_trappedNow_31 : decode cX1_trappedNow 31 = .ok (.iload_n 2, 1) := by decide +kernel
theorem dX1_trappedNow_32 : decode cX1_trappedNow 32 = .ok (.iaload, 1) := by decide +kernel
theorem dX1_trappedNow_33 : decode cX1_trappedNow 33 = .ok (.goto 4, 3) := by decide +kernel
theorem dX1_trappedNow_36 : decode cX1_trappedNow 36 = .ok (.iconst 0, 1) := by decide +kernel
theorem dX1_trappedNow_37 : decode cX1_trappedNow 37 = .ok (.iadd, 1) := by decide +kernel
theorem dX1_trappedNow_38 : decode cX1_trappedNow 38 = .ok (.istore_n 1, 1) := by decide +kernel
theorem dX1_trappedNow_39 : decode cX1_trappedNow 39 = .ok (.iinc 2 1, 3) := by decide +kernel
theorem dX1_trappedNow_42 : decode cX1_trappedNow 42 = .ok (.goto (-34), 3) := by decide +kernel
theorem dX1_trappedNow_45 : decode cX1_trappedNow 45 = .ok (.iload_n 1, 1) := by decide +kernel
theorem dX1_trappedNow_46 : decode cX1_trappedNow 46 = .ok (.ireturn, 1) := by decide +kernel
theorem dX1_trapped_0 : decode cX1_trapped 0 = .ok (.aload_n 0, 1) := by decide +kernel
theorem dX1_trapped_1 : decode cX1_trapped 1 = .ok (.iconst 0, 1) := by decide +kernel
theorem dX1_trapped_2 : decode cX1_trapped 2 = .ok (.putfield 57, 3) := by decide +kernel
theorem dX1_trapped_5 : decode cX1_trapped 5 = .ok (.aload_n 0, 1) := by decide +kernel
theorem dX1_trapped_6 : decode cX1_trapped 6 = .ok (.invokevirtual 115, 3) := by decide +kernel
theorem dX1_trapped_9 : decode cX1_trapped 9 = .ok (.ireturn, 1) := by decide +kernel
theorem dX1_wouldMove_0 : decode cX1_wouldMove 0 = .ok (.aload_n 0, 1) := by decide +kernel
theorem dX1_wouldMove_1 : decode cX1_wouldMove 1 = .ok (.aload_n 0, 1) := by decide +kernel
theorem dX1_wouldMove_2 : decode cX1_wouldMove 2 = .ok (.iload_n 1, 1) := by decide +kernel
theorem dX1_wouldMove_3 : decode cX1_wouldMove 3 = .ok (.invokevirtual 71, 3) := by decide +kernel
theorem dX1_wouldMove_6 : decode cX1_wouldMove 6 = .ok (.ifCond .eq 7, 3) := by decide +kernel
theorem dX1_wouldMove_9 : decode cX1_wouldMove 9 = .ok (.iconst 0, 1) := by decide +kernel
theorem dX1_wouldMove_10 : decode cX1_wouldMove 10 = .ok (.goto 4, 3) := by decide +kernel
theorem dX1_wouldMove_13 : decode cX1_wouldMove 13 = .ok (.iconst 1, 1) := by decide +kernel
theorem dX1_wouldMove_14 : decode cX1_wouldMove 14 = .ok (.invokevirtual 67, 3) := by decide +kernel
theorem dX1_wouldMove_17 : decode cX1_wouldMove 17 = .ok (.ifCond .ne 5, 3) := by decide +kernel
theorem dX1_wouldMove_20 : decode cX1_wouldMove 20 = .ok (.iconst 0, 1) := by decide +kernel
theorem dX1_wouldMove_21 : decode cX1_wouldMove 21 = .ok (.ireturn, 1) := by decide +kernel
theorem dX1_wouldMove_22 : decode cX1_wouldMove 22 = .ok (.aload_n 0, 1) := by decide +kernel
theorem dX1_wouldMove_23 : decode cX1_wouldMove 23 = .ok (.invokevirtual 102, 3) := by decide +kernel
theorem dX1_wouldMove_26 : decode cX1_wouldMove 26 = .ok (.aload_n 0, 1) := by decide +kernel
theorem dX1_wouldMove_27 : decode cX1_wouldMove 27 = .ok (.iload_n 1, 1) := by decide +kernel
theorem dX1_wouldMove_28 : decode cX1_wouldMove 28 = .ok (.invokevirtual 88, 3) := by decide +kernel
theorem dX1_wouldMove_31 : decode cX1_wouldMove 31 = .ok (.istore_n 2, 1) := by decide +kernel
theorem dX1_wouldMove_32 : decode cX1_wouldMove 32 = .ok (.iload_n 2, 1) := by decide +kernel
theorem dX1_wouldMove_33 : decode cX1_wouldMove 33 = .ok (.iconst (-1), 1) := by decide +kernel
theorem dX1_wouldMove_34 : decode cX1_wouldMove 34 = .ok (.if_icmp .ne 7, 3) := by decide +kernel
theorem dX1_wouldMove_37 : decode cX1_wouldMove 37 = .ok (.iconst 0, 1) := by decide +kernel
theorem dX1_wouldMove_38 : decode cX1_wouldMove 38 = .ok (.goto 9, 3) := by decide +kernel
theorem dX1_wouldMove_41 : decode cX1_wouldMove 41 = .ok (.aload_n 0, 1) := by decide +kernel
theorem dX1_wouldMove_42 : decode cX1_wouldMove 42 = .ok (.getfield 51, 3) := by decide +kernel
theorem dX1_wouldMove_45 : decode cX1_wouldMove 45 = .ok (.iload_n 2, 1) := by decide +kernel
theorem dX1_wouldMove_46 : decode cX1_wouldMove 46 = .ok (.iaload, 1) := by decide +kernel
theorem dX1_wouldMove_47 : decode cX1_wouldMove 47 = .ok (.ireturn, 1) := by decide +kernel
theorem dX1_bound_0 : decode cX1_bound 0 = .ok (.aload_n 0, 1) := by decide +kernel
theorem dX1_bound_1 : decode cX1_bound 1 = .ok (.aload_n 0, 1) := by decide +kernel
theorem dX1_bound_2 : decode cX1_bound 2 = .ok (.invokevirtual 115, 3) := by decide +kernel
theorem dX1_bound_5 : decode cX1_bound 5 = .ok (.ifCond .le 7, 3) := by decide +kernel
theorem dX1_bound_8 : decode cX1_bound 8 = .ok (.iconst 1, 1) := by decide +kernel
theorem dX1_bound_9 : decode cX1_bound 9 = .ok (.goto 4, 3) := by decide +kernel
theorem dX1_bound_12 : decode cX1_bound 12 = .ok (.iconst 0, 1) := by decide +kernel
theorem dX1_bound_13 : decode cX1_bound 13 = .ok (.invokevirtual 67, 3) := by decide +kernel
theorem dX1_bound_16 : decode cX1_bound 16 = .ok (.ifCond .ne 5, 3) := by decide +kernel
theorem dX1_bound_19 : decode cX1_bound 19 = .ok (.iconst 0, 1) := by decide +kernel
theorem dX1_bound_20 : decode cX1_bound 20 = .ok (.ireturn, 1) := by decide +kernel
theorem dX1_bound_21 : decode cX1_bound 21 = .ok (.iconst 0, 1) := by decide +kernel
theorem dX1_bound_22 : decode cX1_bound 22 = .ok (.istore_n 1, 1) := by decide +kernel
theorem dX1_bound_23 : decode cX1_bound 23 = .ok (.iconst 1, 1) := by decide +kernel
theorem dX1_bound_24 : decode cX1_bound 24 = .ok (.istore_n 2, 1) := by decide +kernel
theorem dX1_bound_25 : decode cX1_bound 25 = .ok (.iload_n 2, 1) := by decide +kernel
theorem dX1_bound_26 : decode cX1_bound 26 = .ok (.aload_n 0, 1) := by decide +kernel
theorem dX1_bound_27 : decode cX1_bound 27 = .ok (.getfield 7, 3) := by decide +kernel
theorem dX1_bound_30 : decode cX1_bound 30 = .ok (.if_icmp .ge 237, 3) := by decide +kernel
theorem dX1_bound_33 : decode cX1_bound 33 = .ok (.iconst 0, 1) := by decide +kernel
theorem dX1_bound_34 : decode cX1_bound 34 = .ok (.istore_n 3, 1) := by decide +kernel
theorem dX1_bound_35 : decode cX1_bound 35 = .ok (.iconst 0, 1) := by decide +kernel
theorem dX1_bound_36 : decode cX1_bound 36 = .ok (.istore 4, 2) := by decide +kernel
theorem dX1_bound_38 : decode cX1_bound 38 = .ok (.iconst 1, 1) := by decide +kernel
theorem dX1_bound_39 : decode cX1_bound 39 = .ok (.istore 5, 2) := by decide +kernel
theorem dX1_bound_41 : decode cX1_bound 41 = .ok (.iload 5, 2) := by decide +kernel
theorem dX1_bound_43 : decode cX1_bound 43 = .ok (.aload_n 0, 1) := by decide +kernel
theorem dX1_bound_44 : decode cX1_bound 44 = .ok (.getfield 7, 3) := by decide +kernel
theorem dX1_bound_47 : decode cX1_bound 47 = .ok (.if_icmp .ge 34, 3) := by decide +kernel
theorem dX1_bound_50 : decode cX1_bound 50 = .ok (.iload_n 3, 1) := by decide +kernel
theorem dX1_bound_51 : decode cX1_bound 51 = .ok (.aload_n 0, 1) := by decide +kernel
theorem dX1_bound_52 : decode cX1_bound 52 = .ok (.getfield 45, 3) := by decide +kernel
theorem dX1_bound_55 : decode cX1_bound 55 = .ok (.iload 5, 2) := by decide +kernel
theorem dX1_bound_57 : decode cX1_bound 57 = .ok (.iaload, 1) := by decide +kernel
theorem dX1_bound_58 : decode cX1_bound 58 = .ok (.iload_n 2, 1) := by decide +kernel
theorem dX1_bound_59 : decode cX1_bound 59 = .ok (.if_icmp .lt 13, 3) := by decide +kernel
theorem dX1_bound_62 : decode cX1_bound 62 = .ok (.aload_n 0, 1) := by decide +kernel
theorem dX1_bound_63 : decode cX1_bound 63 = .ok (.getfield 17, 3) := by decide +kernel
theorem dX1_bound_66 : decode cX1_bound 66 = .ok (.iload 5, 2) := by decide +kernel
theorem dX1_bound_68 : decode cX1_bound 68 = .ok (.iaload, 1) := by decide +kernel
theorem dX1_bound_69 : decode cX1_bound 69 = .ok (.goto 4, 3) := by decide +kernel
theorem dX1_bound_72 : decode cX1_bound 72 = .ok (.iconst 0, 1) := by decide +kernel
theorem dX1_bound_73 : decode cX1_bound 73 = .ok (.iadd, 1) := by decide +kernel
theorem dX1_bound_74 : decode cX1_bound 74 = .ok (.istore_n 3, 1) := by decide +kernel
theorem dX1_bound_75 : decode cX1_bound 75 = .ok (.iinc 5 1, 3) := by decide +kernel
theorem dX1_bound_78 : decode cX1_bound 78 = .ok (.goto (-37), 3) := by decide +kernel
theorem dX1_bound_81 : decode cX1_bound 81 = .ok (.iconst 0, 1) := by decide +kernel
theorem dX1_bound_82 : decode cX1_bound 82 = .ok (.istore 5, 2) := by decide +kernel
theorem dX1_bound_84 : decode cX1_bound 84 = .ok (.iload 5, 2) := by decide +kernel
theorem dX1_bound_86 : decode cX1_bound 86 = .ok (.aload_n 0, 1) := by decide +kernel
theorem dX1_bound_87 : decode cX1_bound 87 = .ok (.getfield 64, 3) := by decide +kernel
theorem dX1_bound_90 : decode cX1_bound 90 = .ok (.if_icmp .ge 135, 3) := by decide +kernel
theorem dX1_bound_93 : decode cX1_bound 93 = .ok (.aload_n 0, 1) := by decide +kernel
theorem dX1_bound_94 : decode cX1_bound 94 = .ok (.getfield 45, 3) := by decide +kernel
theorem dX1_bound_97 : decode cX1_bound 97 = .ok (.aload_n 0, 1) := by decide +kernel
theorem dX1_bound_98 : decode cX1_bound 98 = .ok (.getfield 23, 3) := by decide +kernel
theorem dX1_bound_101 : decode cX1_bound 101 = .ok (.iload 5, 2) := by decide +kernel
theorem dX1_bound_103 : decode cX1_bound 103 = .ok (.iaload, 1) := by decide +kernel
theorem dX1_bound_104 : decode cX1_bound 104 = .ok (.iaload, 1) := by decide +kernel
theorem dX1_bound_105 : decode cX1_bound 105 = .ok (.aload_n 0, 1) := by decide +kernel
theorem dX1_bound_106 : decode cX1_bound 106 = .ok (.getfield 45, 3) := by decide +kernel
theorem dX1_bound_109 : decode cX1_bound 109 = .ok (.aload_n 0, 1) := by decide +kernel
theorem dX1_bound_110 : decode cX1_bound 110 = .ok (.getfield 26, 3) := by decide +kernel
theorem dX1_bound_113 : decode cX1_bound 113 = .ok (.iload 5, 2) := by decide +kernel
theorem dX1_bound_115 : decode cX1_bound 115 = .ok (.iaload, 1) := by decide +kernel
theorem dX1_bound_116 : decode cX1_bound 116 = .ok (.iaload, 1) := by decide +kernel
theorem dX1_bound_117 : decode cX1_bound 117 = .ok (.if_icmp .ge 18, 3) := by decide +kernel
theorem dX1_bound_120 : decode cX1_bound 120 = .ok (.aload_n 0, 1) := by decide +kernel
theorem dX1_bound_121 : decode cX1_bound 121 = .ok (.getfield 45, 3) := by decide +kernel
theorem dX1_bound_124 : decode cX1_bound 124 = .ok (.aload_n 0, 1) := by decide +kernel
theorem dX1_bound_125 : decode cX1_bound 125 = .ok (.getfield 23, 3) := by decide +kernel
theorem dX1_bound_128 : decode cX1_bound 128 = .ok (.iload 5, 2) := by decide +kernel
theorem dX1_bound_130 : decode cX1_bound 130 = .ok (.iaload, 1) := by decide +kernel
theorem dX1_bound_131 : decode cX1_bound 131 = .ok (.iaload, 1) := by decide +kernel
theorem dX1_bound_132 : decode cX1_bound 132 = .ok (.goto 15, 3) := by decide +kernel
theorem dX1_bound_135 : decode cX1_bound 135 = .ok (.aload_n 0, 1) := by decide +kernel
theorem dX1_bound_136 : decode cX1_bound 136 = .ok (.getfield 45, 3) := by decide +kernel
theorem dX1_bound_139 : decode cX1_bound 139 = .ok (.aload_n 0, 1) := by decide +kernel
theorem dX1_bound_140 : decode cX1_bound 140 = .ok (.getfield 26, 3) := by decide +kernel
theorem dX1_bound_143 : decode cX1_bound 143 = .ok (.iload 5, 2) := by decide +kernel
theorem dX1_bound_145 : decode cX1_bound 145 = .ok (.iaload, 1) := by decide +kernel
theorem dX1_bound_146 : decode cX1_bound 146 = .ok (.iaload, 1) := by decide +kernel
theorem dX1_bound_147 : decode cX1_bound 147 = .ok (.istore 6, 2) := by decide +kernel
theorem dX1_bound_149 : decode cX1_bound 149 = .ok (.aload_n 0, 1) := by decide +kernel
theorem dX1_bound_150 : decode cX1_bound 150 = .ok (.getfield 45, 3) := by decide +kernel
theorem dX1_bound_153 : decode cX1_bound 153 = .ok (.aload_n 0, 1) := by decide +kernel
theorem dX1_bound_154 : decode cX1_bound 154 = .ok (.getfield 23, 3) := by decide +kernel
theorem dX1_bound_157 : decode cX1_bound 157 = .ok (.iload 5, 2) := by decide +kernel
theorem dX1_bound_159 : decode cX1_bound 159 = .ok (.iaload, 1) := by decide +kernel
theorem dX1_bound_160 : decode cX1_bound 160 = .ok (.iaload, 1) := by decide +kernel
theorem dX1_bound_161 : decode cX1_bound 161 = .ok (.aload_n 0, 1) := by decide +kernel
theorem dX1_bound_162 : decode cX1_bound 162 = .ok (.getfield 45, 3) := by decide +kernel
theorem dX1_bound_165 : decode cX1_bound 165 = .ok (.aload_n 0, 1) := by decide +kernel
theorem dX1_bound_166 : decode cX1_bound 166 = .ok (.getfield 26, 3) := by decide +kernel
theorem dX1_bound_169 : decode cX1_bound 169 = .ok (.iload 5, 2) := by decide +kernel
theorem dX1_bound_171 : decode cX1_bound 171 = .ok (.iaload, 1) := by decide +kernel
theorem dX1_bound_172 : decode cX1_bound 172 = .ok (.iaload, 1) := by decide +kernel
theorem dX1_bound_173 : decode cX1_bound 173 = .ok (.iadd, 1) := by decide +kernel
theorem dX1_bound_174 : decode cX1_bound 174 = .ok (.iload 6, 2) := by decide +kernel
theorem dX1_bound_176 : decode cX1_bound 176 = .ok (.isub, 1) := by decide +kernel
theorem dX1_bound_177 : decode cX1_bound 177 = .ok (.istore 7, 2) := by decide +kernel
theorem dX1_bound_179 : decode cX1_bound 179 = .ok (.iload 4, 2) := by decide +kernel
theorem dX1_bound_181 : decode cX1_bound 181 = .ok (.aload_n 0, 1) := by decide +kernel
theorem dX1_bound_182 : decode cX1_bound 182 = .ok (.getfield 35, 3) := by decide +kernel
theorem dX1_bound_185 : decode cX1_bound 185 = .ok (.iload 5, 2) := by decide +kernel
theorem dX1_bound_187 : decode cX1_bound 187 = .ok (.baload, 1) := by decide +kernel
theorem dX1_bound_188 : decode cX1_bound 188 = .ok (.ifCond .eq 27, 3) := by decide +kernel
theorem dX1_bound_191 : decode cX1_bound 191 = .ok (.iload 6, 2) := by decide +kernel
theorem dX1_bound_193 : decode cX1_bound 193 = .ok (.iload_n 2, 1) := by decide +kernel
theorem dX1_bound_194 : decode cX1_bound 194 = .ok (.iconst 1, 1) := by decide +kernel
theorem dX1_bound_195 : decode cX1_bound 195 = .ok (.isub, 1) := by decide +kernel
theorem dX1_bound_196 : decode cX1_bound 196 = .ok (.if_icmp .ne 19, 3) := by decide +kernel
theorem dX1_bound_199 : decode cX1_bound 199 = .ok (.iload 7, 2) := by decide +kernel
theorem dX1_bound_201 : decode cX1_bound 201 = .ok (.iload_n 2, 1) := by decide +kernel
theorem dX1_bound_202 : decode cX1_bound 202 = .ok (.if_icmp .ne 13, 3) := by decide +kernel
theorem dX1_bound_205 : decode cX1_bound 205 = .ok (.aload_n 0, 1) := by decide +kernel
theorem dX1_bound_206 : decode cX1_bound 206 = .ok (.getfield 29, 3) := by decide +kernel
theorem dX1_bound_209 : decode cX1_bound 209 = .ok (.iload 5, 2) := by decide +kernel
theorem dX1_bound_211 : decode cX1_bound 211 = .ok (.iaload, 1) := by decide +kernel
theorem dX1_bound_212 : decode cX1_bound 212 = .ok (.goto 4, 3) := by decide +kernel
theorem dX1_bound_215 : decode cX1_bound 215 = .ok (.iconst 0, 1) := by decide +kernel
theorem dX1_bound_216 : decode cX1_bound 216 = .ok (.iadd, 1) := by decide +kernel
theorem dX1_bound_217 : decode cX1_bound 217 = .ok (.istore 4, 2) := by decide +kernel
theorem dX1_bound_219 : decode cX1_bound 219 = .ok (.iinc 5 1, 3) := by decide +kernel
theorem dX1_bound_222 : decode cX1_bound 222 = .ok (.goto (-138), 3) := by decide +kernel
theorem dX1_bound_225 : decode cX1_bound 225 = .ok (.iload_n 3, 1) := by decide +kernel
theorem dX1_bound_226 : decode cX1_bound 226 = .ok (.ifCond .ne 7, 3) := by decide +kernel
theorem dX1_bound_229 : decode cX1_bound 229 = .ok (.iconst 0, 1) := by decide +kernel
theorem dX1_bound_230 : decode cX1_bound 230 = .ok (.goto 16, 3) := by decide +kernel
theorem dX1_bound_233 : decode cX1_bound 233 = .ok (.iload_n 2, 1) := by decide +kernel
theorem dX1_bound_234 : decode cX1_bound 234 = .ok (.iconst 1, 1) := by decide +kernel
theorem dX1_bound_235 : decode cX1_bound 235 = .ok (.isub, 1) := by decide +kernel
theorem dX1_bound_236 : decode cX1_bound 236 = .ok (.iload_n 3, 1) := by decide +kernel
theorem dX1_bound_237 : decode cX1_bound 237 = .ok (.iload 4, 2) := by decide +kernel
theorem dX1_bound_239 : decode cX1_bound 239 = .ok (.iadd, 1) := by decide +kernel
theorem dX1_bound_240 : decode cX1_bound 240 = .ok (.iconst 1, 1) := by decide +kernel
theorem dX1_bound_241 : decode cX1_bound 241 = .ok (.isub, 1) := by decide +kernel
theorem dX1_bound_242 : decode cX1_bound 242 = .ok (.iload 4, 2) := by decide +kernel
theorem dX1_bound_244 : decode cX1_bound 244 = .ok (.idiv, 1) := by decide +kernel
theorem dX1_bound_245 : decode cX1_bound 245 = .ok (.iadd, 1) := by decide +kernel
theorem dX1_bound_246 : decode cX1_bound 246 = .ok (.istore 5, 2) := by decide +kernel
theorem dX1_bound_248 : decode cX1_bound 248 = .ok (.iload 5, 2) := by decide +kernel
theorem dX1_bound_250 : decode cX1_bound 250 = .ok (.iload_n 1, 1) := by decide +kernel
theorem dX1_bound_251 : decode cX1_bound 251 = .ok (.if_icmp .le 8, 3) := by decide +kernel
theorem dX1_bound_254 : decode cX1_bound 254 = .ok (.iload 5, 2) := by decide +kernel
theorem dX1_bound_256 : decode cX1_bound 256 = .ok (.goto 4, 3) := by decide +kernel
theorem dX1_bound_259 : decode cX1_bound 259 = .ok (.iload_n 1, 1) := by decide +kernel
theorem dX1_bound_260 : decode cX1_bound 260 = .ok (.istore_n 1, 1) := by decide +kernel
theorem dX1_bound_261 : decode cX1_bound 261 = .ok (.iinc 2 1, 3) := by decide +kernel
theorem dX1_bound_264 : decode cX1_bound 264 = .ok (.goto (-239), 3) := by decide +kernel
theorem dX1_bound_267 : decode cX1_bound 267 = .ok (.iload_n 1, 1) := by decide +kernel
theorem dX1_bound_268 : decode cX1_bound 268 = .ok (.ireturn, 1) := by decide +kernel
