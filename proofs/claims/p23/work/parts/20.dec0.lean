theorem dX0_init_0 : decode cX0_init 0 = .ok (.aload_n 0, 1) := by decide +kernel
theorem dX0_init_1 : decode cX0_init 1 = .ok (.invokespecial 1, 3) := by decide +kernel
theorem dX0_init_4 : decode cX0_init 4 = .ok (.aload_n 0, 1) := by decide +kernel
theorem dX0_init_5 : decode cX0_init 5 = .ok (.bipush 11, 2) := by decide +kernel
theorem dX0_init_7 : decode cX0_init 7 = .ok (.newarray .int, 2) := by decide +kernel
theorem dX0_init_9 : decode cX0_init 9 = .ok (.putfield 9, 3) := by decide +kernel
theorem dX0_init_12 : decode cX0_init 12 = .ok (.aload_n 0, 1) := by decide +kernel
theorem dX0_init_13 : decode cX0_init 13 = .ok (.bipush 11, 2) := by decide +kernel
theorem dX0_init_15 : decode cX0_init 15 = .ok (.newarray .int, 2) := by decide +kernel
theorem dX0_init_17 : decode cX0_init 17 = .ok (.putfield 13, 3) := by decide +kernel
theorem dX0_init_20 : decode cX0_init 20 = .ok (.aload_n 0, 1) := by decide +kernel
theorem dX0_init_21 : decode cX0_init 21 = .ok (.bipush 11, 2) := by decide +kernel
theorem dX0_init_23 : decode cX0_init 23 = .ok (.newarray .int, 2) := by decide +kernel
theorem dX0_init_25 : decode cX0_init 25 = .ok (.putfield 16, 3) := by decide +kernel
theorem dX0_init_28 : decode cX0_init 28 = .ok (.aload_n 0, 1) := by decide +kernel
theorem dX0_init_29 : decode cX0_init 29 = .ok (.bipush 11, 2) := by decide +kernel
theorem dX0_init_31 : decode cX0_init 31 = .ok (.newarray .int, 2) := by decide +kernel
theorem dX0_init_33 : decode cX0_init 33 = .ok (.putfield 19, 3) := by decide +kernel
theorem dX0_init_36 : decode cX0_init 36 = .ok (.aload_n 0, 1) := by decide +kernel
theorem dX0_init_37 : decode cX0_init 37 = .ok (.bipush 11, 2) := by decide +kernel
theorem dX0_init_39 : decode cX0_init 39 = .ok (.newarray .int, 2) := by decide +kernel
theorem dX0_init_41 : decode cX0_init 41 = .ok (.putfield 22, 3) := by decide +kernel
theorem dX0_init_44 : decode cX0_init 44 = .ok (.aload_n 0, 1) := by decide +kernel
theorem dX0_init_45 : decode cX0_init 45 = .ok (.bipush 16, 2) := by decide +kernel
theorem dX0_init_47 : decode cX0_init 47 = .ok (.newarray .int, 2) := by decide +kernel
theorem dX0_init_49 : decode cX0_init 49 = .ok (.putfield 25, 3) := by decide +kernel
theorem dX0_init_52 : decode cX0_init 52 = .ok (.aload_n 0, 1) := by decide +kernel
theorem dX0_init_53 : decode cX0_init 53 = .ok (.bipush 16, 2) := by decide +kernel
theorem dX0_init_55 : decode cX0_init 55 = .ok (.newarray .int, 2) := by decide +kernel
theorem dX0_init_57 : decode cX0_init 57 = .ok (.putfield 28, 3) := by decide +kernel
theorem dX0_init_60 : decode cX0_init 60 = .ok (.aload_n 0, 1) := by decide +kernel
theorem dX0_init_61 : decode cX0_init 61 = .ok (.bipush 16, 2) := by decide +kernel
theorem dX0_init_63 : decode cX0_init 63 = .ok (.newarray .int, 2) := by decide +kernel
theorem dX0_init_65 : decode cX0_init 65 = .ok (.putfield 31, 3) := by decide +kernel
theorem dX0_init_68 : decode cX0_init 68 = .ok (.aload_n 0, 1) := by decide +kernel
theorem dX0_init_69 : decode cX0_init 69 = .ok (.bipush 16, 2) := by decide +kernel
theorem dX0_init_71 : decode cX0_init 71 = .ok (.newarray .int, 2) := by decide +kernel
theorem dX0_init_73 : decode cX0_init 73 = .ok (.putfield 34, 3) := by decide +kernel
theorem dX0_init_76 : decode cX0_init 76 = .ok (.aload_n 0, 1) := by decide +kernel
theorem dX0_init_77 : decode cX0_init 77 = .ok (.bipush 16, 2) := by decide +kernel
theorem dX0_init_79 : decode cX0_init 79 = .ok (.newarray .boolean, 2) := by decide +kernel
theorem dX0_init_81 : decode cX0_init 81 = .ok (.putfield 37, 3) := by decide +kernel
theorem dX0_init_84 : decode cX0_init 84 = .ok (.aload_n 0, 1) := by decide +kernel
theorem dX0_init_85 : decode cX0_init 85 = .ok (.bipush 16, 2) := by decide +kernel
theorem dX0_init_87 : decode cX0_init 87 = .ok (.newarray .int, 2) := by decide +kernel
theorem dX0_init_89 : decode cX0_init 89 = .ok (.putfield 41, 3) := by decide +kernel
theorem dX0_init_92 : decode cX0_init 92 = .ok (.aload_n 0, 1) := by decide +kernel
theorem dX0_init_93 : decode cX0_init 93 = .ok (.bipush 16, 2) := by decide +kernel
theorem dX0_init_95 : decode cX0_init 95 = .ok (.newarray .int, 2) := by decide +kernel
theorem dX0_init_97 : decode cX0_init 97 = .ok (.putfield 44, 3) := by decide +kernel
theorem dX0_init_100 : decode cX0_init 100 = .ok (.aload_n 0, 1) := by decide +kernel
theorem dX0_init_101 : decode cX0_init 101 = .ok (.bipush 16, 2) := by decide +kernel
theorem dX0_init_103 : decode cX0_init 103 = .ok (.newarray .int, 2) := by decide +kernel
theorem dX0_init_105 : decode cX0_init 105 = .ok (.putfield 47, 3) := by decide +kernel
theorem dX0_init_108 : decode cX0_init 108 = .ok (.aload_n 0, 1) := by decide +kernel
theorem dX0_init_109 : decode cX0_init 109 = .ok (.bipush 16, 2) := by decide +kernel
theorem dX0_init_111 : decode cX0_init 111 = .ok (.newarray .int, 2) := by decide +kernel
theorem dX0_init_113 : decode cX0_init 113 = .ok (.putfield 50, 3) := by decide +kernel
theorem dX0_init_116 : decode cX0_init 116 = .ok (.aload_n 0, 1) := by decide +kernel
theorem dX0_init_117 : decode cX0_init 117 = .ok (.iconst 1, 1) := by decide +kernel
theorem dX0_init_118 : decode cX0_init 118 = .ok (.putfield 53, 3) := by decide +kernel
theorem dX0_init_121 : decode cX0_init 121 = .ok (.aload_n 0, 1) := by decide +kernel
theorem dX0_init_122 : decode cX0_init 122 = .ok (.iconst (-1), 1) := by decide +kernel
theorem dX0_init_123 : decode cX0_init 123 = .ok (.putfield 57, 3) := by decide +kernel
theorem dX0_init_126 : decode cX0_init 126 = .ok (.aload_n 0, 1) := by decide +kernel
theorem dX0_init_127 : decode cX0_init 127 = .ok (.getfield 22, 3) := by decide +kernel
theorem dX0_init_130 : decode cX0_init 130 = .ok (.iconst 0, 1) := by decide +kernel
theorem dX0_init_131 : decode cX0_init 131 = .ok (.iconst (-1), 1) := by decide +kernel
theorem dX0_init_132 : decode cX0_init 132 = .ok (.iastore, 1) := by decide +kernel
theorem dX0_init_133 : decode cX0_init 133 = .ok (.return_, 1) := by decide +kernel
theorem dX0_addPlace_0 : decode cX0_addPlace 0 = .ok (.iload_n 1, 1) := by decide +kernel
theorem dX0_addPlace_1 : decode cX0_addPlace 1 = .ok (.iconst 1, 1) := by decide +kernel
theorem dX0_addPlace_2 : decode cX0_addPlace 2 = .ok (.bipush 30, 2) := by decide +kernel
theorem dX0_addPlace_4 : decode cX0_addPlace 4 = .ok (.invokestatic 60, 3) := by decide +kernel
theorem dX0_addPlace_7 : decode cX0_addPlace 7 = .ok (.invokestatic 64, 3) := by decide +kernel
theorem dX0_addPlace_10 : decode cX0_addPlace 10 = .ok (.aload_n 0, 1) := by decide +kernel
theorem dX0_addPlace_11 : decode cX0_addPlace 11 = .ok (.getfield 53, 3) := by decide +kernel
theorem dX0_addPlace_14 : decode cX0_addPlace 14 = .ok (.bipush 11, 2) := by decide +kernel
theorem dX0_addPlace_16 : decode cX0_addPlace 16 = .ok (.if_icmp .ge 7, 3) := by decide +kernel
theorem dX0_addPlace_19 : decode cX0_addPlace 19 = .ok (.iconst 1, 1) := by decide +kernel
theorem dX0_addPlace_20 : decode cX0_addPlace 20 = .ok (.goto 4, 3) := by decide +kernel
theorem dX0_addPlace_23 : decode cX0_addPlace 23 = .ok (.iconst 0, 1) := by decide +kernel
theorem dX0_addPlace_24 : decode cX0_addPlace 24 = .ok (.invokestatic 68, 3) := by decide +kernel
theorem dX0_addPlace_27 : decode cX0_addPlace 27 = .ok (.aload_n 0, 1) := by decide +kernel
theorem dX0_addPlace_28 : decode cX0_addPlace 28 = .ok (.getfield 53, 3) := by decide +kernel
theorem dX0_addPlace_31 : decode cX0_addPlace 31 = .ok (.istore_n 2, 1) := by decide +kernel
theorem dX0_addPlace_32 : decode cX0_addPlace 32 = .ok (.aload_n 0, 1) := by decide +kernel
theorem dX0_addPlace_33 : decode cX0_addPlace 33 = .ok (.getfield 9, 3) := by decide +kernel
theorem dX0_addPlace_36 : decode cX0_addPlace 36 = .ok (.iload_n 2, 1) := by decide +kernel
theorem dX0_addPlace_37 : decode cX0_addPlace 37 = .ok (.iload_n 1, 1) := by decide +kernel
theorem dX0_addPlace_38 : decode cX0_addPlace 38 = .ok (.iastore, 1) := by decide +kernel
theorem dX0_addPlace_39 : decode cX0_addPlace 39 = .ok (.aload_n 0, 1) := by decide +kernel
theorem dX0_addPlace_40 : decode cX0_addPlace 40 = .ok (.dup, 1) := by decide +kernel
theorem dX0_addPlace_41 : decode cX0_addPlace 41 = .ok (.getfield 53, 3) := by decide +kernel
theorem dX0_addPlace_44 : decode cX0_addPlace 44 = .ok (.iconst 1, 1) := by decide +kernel
theorem dX0_addPlace_45 : decode cX0_addPlace 45 = .ok (.iadd, 1) := by decide +kernel
theorem dX0_addPlace_46 : decode cX0_addPlace 46 = .ok (.putfield 53, 3) := by decide +kernel
theorem dX0_addPlace_49 : decode cX0_addPlace 49 = .ok (.aload_n 0, 1) := by decide +kernel
theorem dX0_addPlace_50 : decode cX0_addPlace 50 = .ok (.invokevirtual 71, 3) := by decide +kernel
theorem dX0_addPlace_53 : decode cX0_addPlace 53 = .ok (.iload_n 2, 1) := by decide +kernel
theorem dX0_addPlace_54 : decode cX0_addPlace 54 = .ok (.ireturn, 1) := by decide +kernel
theorem dX0_addDoor_0 : decode cX0_addDoor 0 = .ok (.aload_n 0, 1) := by decide +kernel
theorem dX0_addDoor_1 : decode cX0_addDoor 1 = .ok (.iload_n 1, 1) := by decide +kernel
theorem dX0_addDoor_2 : decode cX0_addDoor 2 = .ok (.invokevirtual 74, 3) := by decide +kernel
theorem dX0_addDoor_5 : decode cX0_addDoor 5 = .ok (.aload_n 0, 1) := by decide +kernel
theorem dX0_addDoor_6 : decode cX0_addDoor 6 = .ok (.iload_n 2, 1) := by decide +kernel
theorem dX0_addDoor_7 : decode cX0_addDoor 7 = .ok (.invokevirtual 74, 3) := by decide +kernel
theorem dX0_addDoor_10 : decode cX0_addDoor 10 = .ok (.iload_n 1, 1) := by decide +kernel
theorem dX0_addDoor_11 : decode cX0_addDoor 11 = .ok (.iload_n 2, 1) := by decide +kernel
theorem dX0_addDoor_12 : decode cX0_addDoor 12 = .ok (.if_icmp .eq 27, 3) := by decide +kernel
theorem dX0_addDoor_15 : decode cX0_addDoor 15 = .ok (.iload_n 3, 1) := by decide +kernel
theorem dX0_addDoor_16 : decode cX0_addDoor 16 = .ok (.iconst 1, 1) := by decide +kernel
theorem dX0_addDoor_17 : decode cX0_addDoor 17 = .ok (.bipush 9, 2) := by decide +kernel
theorem dX0_addDoor_19 : decode cX0_addDoor 19 = .ok (.invokestatic 60, 3) := by decide +kernel
theorem dX0_addDoor_22 : decode cX0_addDoor 22 = .ok (.ifCond .eq 17, 3) := by decide +kernel
theorem dX0_addDoor_25 : decode cX0_addDoor 25 = .ok (.iload 4, 2) := by decide +kernel
theorem dX0_addDoor_27 : decode cX0_addDoor 27 = .ok (.iconst 1, 1) := by decide +kernel
theorem dX0_addDoor_28 : decode cX0_addDoor 28 = .ok (.iconst 5, 1) := by decide +kernel
theorem dX0_addDoor_29 : decode cX0_addDoor 29 = .ok (.invokestatic 60, 3) := by decide +kernel
theorem dX0_addDoor_32 : decode cX0_addDoor 32 = .ok (.ifCond .eq 7, 3) := by decide +kernel
theorem dX0_addDoor_35 : decode cX0_addDoor 35 = .ok (.iconst 1, 1) := by decide +kernel
theorem dX0_addDoor_36 : decode cX0_addDoor 36 = .ok (.goto 4, 3) := by decide +kernel
theorem dX0_addDoor_39 : decode cX0_addDoor 39 = .ok (.iconst 0, 1) := by decide +kernel
theorem dX0_addDoor_40 : decode cX0_addDoor 40 = .ok (.invokestatic 64, 3) := by decide +kernel
theorem dX0_addDoor_43 : decode cX0_addDoor 43 = .ok (.aload_n 0, 1) := by decide +kernel
theorem dX0_addDoor_44 : decode cX0_addDoor 44 = .ok (.getfield 78, 3) := by decide +kernel
theorem dX0_addDoor_47 : decode cX0_addDoor 47 = .ok (.bipush 16, 2) := by decide +kernel
theorem dX0_addDoor_49 : decode cX0_addDoor 49 = .ok (.if_icmp .ge 7, 3) := by decide +kernel
theorem dX0_addDoor_52 : decode cX0_addDoor 52 = .ok (.iconst 1, 1) := by decide +kernel
theorem dX0_addDoor_53 : decode cX0_addDoor 53 = .ok (.goto 4, 3) := by decide +kernel
theorem dX0_addDoor_56 : decode cX0_addDoor 56 = .ok (.iconst 0, 1) := by decide +kernel
theorem dX0_addDoor_57 : decode cX0_addDoor 57 = .ok (.invokestatic 68, 3) := by decide +kernel
theorem dX0_addDoor_60 : decode cX0_addDoor 60 = .ok (.aload_n 0, 1) := by decide +kernel
theorem dX0_addDoor_61 : decode cX0_addDoor 61 = .ok (.getfield 78, 3) := by decide +kernel
theorem dX0_addDoor_64 : decode cX0_addDoor 64 = .ok (.istore 5, 2) := by decide +kernel
theorem dX0_addDoor_66 : decode cX0_addDoor 66 = .ok (.aload_n 0, 1) := by decide +kernel
theorem dX0_addDoor_67 : decode cX0_addDoor 67 = .ok (.getfield 25, 3) := by decide +kernel
theorem dX0_addDoor_70 : decode cX0_addDoor 70 = .ok (.iload 5, 2) := by decide +kernel
theorem dX0_addDoor_72 : decode cX0_addDoor 72 = .ok (.iload_n 1, 1) := by decide +kernel
theorem dX0_addDoor_73 : decode cX0_addDoor 73 = .ok (.iastore, 1) := by decide +kernel
theorem dX0_addDoor_74 : decode cX0_addDoor 74 = .ok (.aload_n 0, 1) := by decide +kernel
theorem dX0_addDoor_75 : decode cX0_addDoor 75 = .ok (.getfield 28, 3) := by decide +kernel
theorem dX0_addDoor_78 : decode cX0_addDoor 78 = .ok (.iload 5, 2) := by decide +kernel
theorem dX0_addDoor_80 : decode cX0_addDoor 80 = .ok (.iload_n 2, 1) := by decide +kernel
theorem dX0_addDoor_81 : decode cX0_addDoor 81 = .ok (.iastore, 1) := by decide +kernel
theorem dX0_addDoor_82 : decode cX0_addDoor 82 = .ok (.aload_n 0, 1) := by decide +kernel
theorem dX0_addDoor_83 : decode cX0_addDoor 83 = .ok (.getfield 31, 3) := by decide +kernel
theorem dX0_addDoor_86 : decode cX0_addDoor 86 = .ok (.iload 5, 2) := by decide +kernel
theorem dX0_addDoor_88 : decode cX0_addDoor 88 = .ok (.iload_n 3, 1) := by decide +kernel
theorem dX0_addDoor_89 : decode cX0_addDoor 89 = .ok (.iastore, 1) := by decide +kernel
theorem dX0_addDoor_90 : decode cX0_addDoor 90 = .ok (.aload_n 0, 1) := by decide +kernel
theorem dX0_addDoor_91 : decode cX0_addDoor 91 = .ok (.getfield 34, 3) := by decide +kernel
theorem dX0_addDoor_94 : decode cX0_addDoor 94 = .ok (.iload 5, 2) := by decide +kernel
theorem dX0_addDoor_96 : decode cX0_addDoor 96 = .ok (.iload 4, 2) := by decide +kernel
theorem dX0_addDoor_98 : decode cX0_addDoor 98 = .ok (.iastore, 1) := by decide +kernel
theorem dX0_addDoor_99 : decode cX0_addDoor 99 = .ok (.aload_n 0, 1) := by decide +kernel
theorem dX0_addDoor_100 : decode cX0_addDoor 100 = .ok (.getfield 37, 3) := by decide +kernel
theorem dX0_addDoor_103 : decode cX0_addDoor 103 = .ok (.iload 5, 2) := by decide +kernel
theorem dX0_addDoor_105 : decode cX0_addDoor 105 = .ok (.iconst 1, 1) := by decide +kernel
theorem dX0_addDoor_106 : decode cX0_addDoor 106 = .ok (.bastore, 1) := by decide +kernel
theorem dX0_addDoor_107 : decode cX0_addDoor 107 = .ok (.aload_n 0, 1) := by decide +kernel
theorem dX0_addDoor_108 : decode cX0_addDoor 108 = .ok (.dup, 1) := by decide +kernel
theorem dX0_addDoor_109 : decode cX0_addDoor 109 = .ok (.getfield 78, 3) := by decide +kernel
theorem dX0_addDoor_112 : decode cX0_addDoor 112 = .ok (.iconst 1, 1) := by decide +kernel
theorem dX0_addDoor_113 : decode cX0_addDoor 113 = .ok (.iadd, 1) := by decide +kernel
theorem dX0_addDoor_114 : decode cX0_addDoor 114 = .ok (.putfield 78, 3) := by decide +kernel
theorem dX0_addDoor_117 : decode cX0_addDoor 117 = .ok (.aload_n 0, 1) := by decide +kernel
theorem dX0_addDoor_118 : decode cX0_addDoor 118 = .ok (.invokevirtual 71, 3) := by decide +kernel
theorem dX0_addDoor_121 : decode cX0_addDoor 121 = .ok (.iload 5, 2) := by decide +kernel
theorem dX0_addDoor_123 : decode cX0_addDoor 123 = .ok (.ireturn, 1) := by decide +kernel
theorem dX0_setDoor_0 : decode cX0_setDoor 0 = .ok (.aload_n 0, 1) := by decide +kernel
theorem dX0_setDoor_1 : decode cX0_setDoor 1 = .ok (.iload_n 1, 1) := by decide +kernel
theorem dX0_setDoor_2 : decode cX0_setDoor 2 = .ok (.invokevirtual 81, 3) := by decide +kernel
theorem dX0_setDoor_5 : decode cX0_setDoor 5 = .ok (.aload_n 0, 1) := by decide +kernel
theorem dX0_setDoor_6 : decode cX0_setDoor 6 = .ok (.getfield 37, 3) := by decide +kernel
theorem dX0_setDoor_9 : decode cX0_setDoor 9 = .ok (.iload_n 1, 1) := by decide +kernel
theorem dX0_setDoor_10 : decode cX0_setDoor 10 = .ok (.baload, 1) := by decide +kernel
theorem dX0_setDoor_11 : decode cX0_setDoor 11 = .ok (.istore_n 3, 1) := by decide +kernel
theorem dX0_setDoor_12 : decode cX0_setDoor 12 = .ok (.aload_n 0, 1) := by decide +kernel
theorem dX0_setDoor_13 : decode cX0_setDoor 13 = .ok (.getfield 37, 3) := by decide +kernel
theorem dX0_setDoor_16 : decode cX0_setDoor 16 = .ok (.iload_n 1, 1) := by decide +kernel
theorem dX0_setDoor_17 : decode cX0_setDoor 17 = .ok (.iload_n 2, 1) := by decide +kernel
theorem dX0_setDoor_18 : decode cX0_setDoor 18 = .ok (.bastore, 1) := by decide +kernel
theorem dX0_setDoor_19 : decode cX0_setDoor 19 = .ok (.aload_n 0, 1) := by decide +kernel
theorem dX0_setDoor_20 : decode cX0_setDoor 20 = .ok (.invokevirtual 71, 3) := by decide +kernel
theorem dX0_setDoor_23 : decode cX0_setDoor 23 = .ok (.iload_n 3, 1) := by decide +kernel
theorem dX0_setDoor_24 : decode cX0_setDoor 24 = .ok (.ireturn, 1) := by decide +kernel
theorem dX0_come_0 : decode cX0_come 0 = .ok (.aload_n 0, 1) := by decide +kernel
theorem dX0_come_1 : decode cX0_come 1 = .ok (.iload_n 1, 1) := by decide +kernel
theorem dX0_come_2 : decode cX0_come 2 = .ok (.invokevirtual 74, 3) := by decide +kernel
theorem dX0_come_5 : decode cX0_come 5 = .ok (.iload_n 1, 1) := by decide +kernel
theorem dX0_come_6 : decode cX0_come 6 = .ok (.ifCond .eq 17, 3) := by decide +kernel
theorem dX0_come_9 : decode cX0_come 9 = .ok (.iload_n 2, 1) := by decide +kernel
theorem dX0_come_10 : decode cX0_come 10 = .ok (.iconst 1, 1) := by decide +kernel
theorem dX0_come_11 : decode cX0_come 11 = .ok (.bipush 30, 2) := by decide +kernel
theorem dX0_come_13 : decode cX0_come 13 = .ok (.invokestatic 60, 3) := by decide +kernel
theorem dX0_come_16 : decode cX0_come 16 = .ok (.ifCond .eq 7, 3) := by decide +kernel
theorem dX0_come_19 : decode cX0_come 19 = .ok (.iconst 1, 1) := by decide +kernel
theorem dX0_come_20 : decode cX0_come 20 = .ok (.goto 4, 3) := by decide +kernel
theorem dX0_come_23 : decode cX0_come 23 = .ok (.iconst 0, 1) := by decide +kernel
theorem dX0_come_24 : decode cX0_come 24 = .ok (.invokestatic 64, 3) := by decide +kernel
theorem dX0_come_27 : decode cX0_come 27 = .ok (.iload_n 2, 1) := by decide +kernel
theorem dX0_come_28 : decode cX0_come 28 = .ok (.aload_n 0, 1) := by decide +kernel
theorem dX0_come_29 : decode cX0_come 29 = .ok (.iload_n 1, 1) := by decide +kernel
theorem dX0_come_30 : decode cX0_come 30 = .ok (.invokevirtual 84, 3) := by decide +kernel
theorem dX0_come_33 : decode cX0_come 33 = .ok (.if_icmp .gt 7, 3) := by decide +kernel
theorem dX0_come_36 : decode cX0_come 36 = .ok (.iconst 1, 1) := by decide +kernel
theorem dX0_come_37 : decode cX0_come 37 = .ok (.goto 4, 3) := by decide +kernel
theorem dX0_come_40 : decode cX0_come 40 = .ok (.iconst 0, 1) := by decide +kernel
theorem dX0_come_41 : decode cX0_come 41 = .ok (.invokestatic 68, 3) := by decide +kernel
theorem dX0_come_44 : decode cX0_come 44 = .ok (.aload_n 0, 1) := by decide +kernel
theorem dX0_come_45 : decode cX0_come 45 = .ok (.getfield 13, 3) := by decide +kernel
theorem dX0_come_48 : decode cX0_come 48 = .ok (.iload_n 1, 1) := by decide +kernel
theorem dX0_come_49 : decode cX0_come 49 = .ok (.dup2, 1) := by decide +kernel
theorem dX0_come_50 : decode cX0_come 50 = .ok (.iaload, 1) := by decide +kernel
theorem dX0_come_51 : decode cX0_come 51 = .ok (.iload_n 2, 1) := by decide +kernel
theorem dX0_come_52 : decode cX0_come 52 = .ok (.iadd, 1) := by decide +kernel
theorem dX0_come_53 : decode cX0_come 53 = .ok (.iastore, 1) := by decide +kernel
theorem dX0_come_54 : decode cX0_come 54 = .ok (.aload_n 0, 1) := by decide +kernel
theorem dX0_come_55 : decode cX0_come 55 = .ok (.getfield 13, 3) := by decide +kernel
theorem dX0_come_58 : decode cX0_come 58 = .ok (.iload_n 1, 1) := by decide +kernel
theorem dX0_come_59 : decode cX0_come 59 = .ok (.iaload, 1) := by decide +kernel
theorem dX0_come_60 : decode cX0_come 60 = .ok (.ireturn, 1) := by decide +kernel
theorem dX0_setRelease_0 : decode cX0_setRelease 0 = .ok (.aload_n 0, 1) := by decide +kernel
theorem dX0_setRelease_1 : decode cX0_setRelease 1 = .ok (.iload_n 1, 1) := by decide +kernel
theorem dX0_setRelease_2 : decode cX0_setRelease 2 = .ok (.invokevirtual 74, 3) := by decide +kernel
theorem dX0_setRelease_5 : decode cX0_setRelease 5 = .ok (.iload_n 2, 1) := by decide +kernel
theorem dX0_setRelease_6 : decode cX0_setRelease 6 = .ok (.iconst 0, 1) := by decide +kernel
theorem dX0_setRelease_7 : decode cX0_setRelease 7 = .ok (.sipush 1000, 3) := by decide +kernel
theorem dX0_setRelease_10 : decode cX0_setRelease 10 = .ok (.invokestatic 60, 3) := by decide +kernel
theorem dX0_setRelease_13 : decode cX0_setRelease 13 = .ok (.invokestatic 64, 3) := by decide +kernel
theorem dX0_setRelease_16 : decode cX0_setRelease 16 = .ok (.aload_n 0, 1) := by decide +kernel
theorem dX0_setRelease_17 : decode cX0_setRelease 17 = .ok (.getfield 16, 3) := by decide +kernel
theorem dX0_setRelease_20 : decode cX0_setRelease 20 = .ok (.iload_n 1, 1) := by decide +kernel
theorem dX0_setRelease_21 : decode cX0_setRelease 21 = .ok (.iaload, 1) := by decide +kernel
theorem dX0_setRelease_22 : decode cX0_setRelease 22 = .ok (.istore_n 3, 1) := by decide +kernel
theorem dX0_setRelease_23 : decode cX0_setRelease 23 = .ok (.aload_n 0, 1) := by decide +kernel
theorem dX0_setRelease_24 : decode cX0_setRelease 24 = .ok (.getfield 16, 3) := by decide +kernel
theorem dX0_setRelease_27 : decode cX0_setRelease 27 = .ok (.iload_n 1, 1) := by decide +kernel
theorem dX0_setRelease_28 : decode cX0_setRelease 28 = .ok (.iload_n 2, 1) := by decide +kernel
theorem dX0_setRelease_29 : decode cX0_setRelease 29 = .ok (.iastore, 1) := by decide +kernel
theorem dX0_setRelease_30 : decode cX0_setRelease 30 = .ok (.iload_n 3, 1) := by decide +kernel
theorem dX0_setRelease_31 : decode cX0_setRelease 31 = .ok (.ireturn, 1) := by decide +kernel
theorem dX0_places_0 : decode cX0_places 0 = .ok (.aload_n 0, 1) := by decide +kernel
theorem dX0_places_1 : decode cX0_places 1 = .ok (.getfield 53, 3) := by decide +kernel
theorem dX0_places_4 : decode cX0_places 4 = .ok (.ireturn, 1) := by decide +kernel
theorem dX0_doors_0 : decode cX0_doors 0 = .ok (.aload_n 0, 1) := by decide +kernel
theorem dX0_doors_1 : decode cX0_doors 1 = .ok (.getfield 78, 3) := by decide +kernel
theorem dX0_doors_4 : decode cX0_doors 4 = .ok (.ireturn, 1) := by decide +kernel
theorem dX0_step_0 : decode cX0_step 0 = .ok (.iload_n 1, 1) := by decide +kernel
theorem dX0_step_1 : decode cX0_step 1 = .ok (.iconst 1, 1) := by decide +kernel
theorem dX0_step_2 : decode cX0_step 2 = .ok (.bipush 50, 2) := by decide +kernel
theorem dX0_step_4 : decode cX0_step 4 = .ok (.invokestatic 60, 3) := by decide +kernel
theorem dX0_step_7 : decode cX0_step 7 = .ok (.invokestatic 64, 3) := by decide +kernel
theorem dX0_step_10 : decode cX0_step 10 = .ok (.aload_n 0, 1) := by decide +kernel
theorem dX0_step_11 : decode cX0_step 11 = .ok (.getfield 13, 3) := by decide +kernel
theorem dX0_step_14 : decode cX0_step 14 = .ok (.iconst 0, 1) := by decide +kernel
theorem dX0_step_15 : decode cX0_step 15 = .ok (.iaload, 1) := by decide +kernel
theorem dX0_step_16 : decode cX0_step 16 = .ok (.istore_n 2, 1) := by decide +kernel
theorem dX0_step_17 : decode cX0_step 17 = .ok (.iconst 0, 1) := by decide +kernel
theorem dX0_step_18 : decode cX0_step 18 = .ok (.istore_n 3, 1) := by decide +kernel
theorem dX0_step_19 : decode cX0_step 19 = .ok (.iload_n 3, 1) := by decide +kernel
theorem dX0_step_20 : decode cX0_step 20 = .ok (.iload_n 1, 1) := by decide +kernel
theorem dX0_step_21 : decode cX0_step 21 = .ok (.if_icmp .ge 14, 3) := by decide +kernel
theorem dX0_step_24 : decode cX0_step 24 = .ok (.aload_n 0, 1) := by decide +kernel
theorem dX0_step_25 : decode cX0_step 25 = .ok (.invokevirtual 88, 3) := by decide +kernel
theorem dX0_step_28 : decode cX0_step 28 = .ok (.pop, 1) := by decide +kernel
theorem dX0_step_29 : decode cX0_step 29 = .ok (.iinc 3 1, 3) := by decide +kernel
theorem dX0_step_32 : decode cX0_step 32 = .ok (.goto (-13), 3) := by decide +kernel
theorem dX0_step_35 : decode cX0_step 35 = .ok (.aload_n 0, 1) := by decide +kernel
theorem dX0_step_36 : decode cX0_step 36 = .ok (.getfield 13, 3) := by decide +kernel
theorem dX0_step_39 : decode cX0_step 39 = .ok (.iconst 0, 1) := by decide +kernel
theorem dX0_step_40 : decode cX0_step 40 = .ok (.iaload, 1) := by decide +kernel
theorem dX0_step_41 : decode cX0_step 41 = .ok (.iload_n 2, 1) := by decide +kernel
theorem dX0_step_42 : decode cX0_step 42 = .ok (.isub, 1) := by decide +kernel
theorem dX0_step_43 : decode cX0_step 43 = .ok (.ireturn, 1) := by decide +kernel
theorem dX0_clear_0 : decode cX0_clear 0 = .ok (.iconst 0, 1) := by decide +kernel
theorem dX0_clear_1 : decode cX0_clear 1 = .ok (.istore_n 1, 1) := by decide +kernel
theorem dX0_clear_2 : decode cX0_clear 2 = .ok (.iconst 0, 1) := by decide +kernel
theorem dX0_clear_3 : decode cX0_clear 3 = .ok (.istore_n 2, 1) := by decide +kernel
theorem dX0_clear_4 : decode cX0_clear 4 = .ok (.iload_n 1, 1) := by decide +kernel
theorem dX0_clear_5 : decode cX0_clear 5 = .ok (.sipush 300, 3) := by decide +kernel
theorem dX0_clear_8 : decode cX0_clear 8 = .ok (.if_icmp .ge 46, 3) := by decide +kernel
theorem dX0_clear_11 : decode cX0_clear 11 = .ok (.iload_n 2, 1) := by decide +kernel
theorem dX0_clear_12 : decode cX0_clear 12 = .ok (.ifCond .ne 42, 3) := by decide +kernel
theorem dX0_clear_15 : decode cX0_clear 15 = .ok (.aload_n 0, 1) := by decide +kernel
theorem dX0_clear_16 : decode cX0_clear 16 = .ok (.invokevirtual 92, 3) := by decide +kernel
theorem dX0_clear_19 : decode cX0_clear 19 = .ok (.ifCond .le 35, 3) := by decide +kernel
theorem dX0_clear_22 : decode cX0_clear 22 = .ok (.aload_n 0, 1) := by decide +kernel
theorem dX0_clear_23 : decode cX0_clear 23 = .ok (.invokevirtual 95, 3) := by decide +kernel
theorem dX0_clear_26 : decode cX0_clear 26 = .ok (.istore_n 3, 1) := by decide +kernel
theorem dX0_clear_27 : decode cX0_clear 27 = .ok (.aload_n 0, 1) := by decide +kernel
theorem dX0_clear_28 : decode cX0_clear 28 = .ok (.invokevirtual 88, 3) := by decide +kernel
theorem dX0_clear_31 : decode cX0_clear 31 = .ok (.istore 4, 2) := by decide +kernel
theorem dX0_clear_33 : decode cX0_clear 33 = .ok (.iload 4, 2) := by decide +kernel
theorem dX0_clear_35 : decode cX0_clear 35 = .ok (.ifCond .ne 11, 3) := by decide +kernel
theorem dX0_clear_38 : decode cX0_clear 38 = .ok (.iload_n 3, 1) := by decide +kernel
theorem dX0_clear_39 : decode cX0_clear 39 = .ok (.ifCond .eq 7, 3) := by decide +kernel
theorem dX0_clear_42 : decode cX0_clear 42 = .ok (.iconst 1, 1) := by decide +kernel
theorem dX0_clear_43 : decode cX0_clear 43 = .ok (.goto 4, 3) := by decide +kernel
theorem dX0_clear_46 : decode cX0_clear 46 = .ok (.iconst 0, 1) := by decide +kernel
theorem dX0_clear_47 : decode cX0_clear 47 = .ok (.istore_n 2, 1) := by decide +kernel
theorem dX0_clear_48 : decode cX0_clear 48 = .ok (.iinc 1 1, 3) := by decide +kernel
theorem dX0_clear_51 : decode cX0_clear 51 = .ok (.goto (-47), 3) := by decide +kernel
theorem dX0_clear_54 : decode cX0_clear 54 = .ok (.iload_n 1, 1) := by decide +kernel
theorem dX0_clear_55 : decode cX0_clear 55 = .ok (.ireturn, 1) := by decide +kernel
theorem dX0_now_0 : decode cX0_now 0 = .ok (.aload_n 0, 1) := by decide +kernel
theorem dX0_now_1 : decode cX0_now 1 = .ok (.getfield 99, 3) := by decide +kernel
theorem dX0_now_4 : decode cX0_now 4 = .ok (.ireturn, 1) := by decide +kernel
theorem dX0_people_0 : decode cX0_people 0 = .ok (.aload_n 0, 1) := by decide +kernel
theorem dX0_people_1 : decode cX0_people 1 = .ok (.iload_n 1, 1) := by decide +kernel
theorem dX0_people_2 : decode cX0_people 2 = .ok (.invokevirtual 74, 3) := by decide +kernel
theorem dX0_people_5 : decode cX0_people 5 = .ok (.aload_n 0, 1) := by decide +kernel
theorem dX0_people_6 : decode cX0_people 6 = .ok (.getfield 13, 3) := by decide +kernel
theorem dX0_people_9 : decode cX0_people 9 = .ok (.iload_n 1, 1) := by decide +kernel
theorem dX0_people_10 : decode cX0_people 10 = .ok (.iaload, 1) := by decide +kernel
theorem dX0_people_11 : decode cX0_people 11 = .ok (.ireturn, 1) := by decide +kernel
theorem dX0_inside_0 : decode cX0_inside 0 = .ok (.iconst 0, 1) := by decide +kernel
theorem dX0_inside_1 : decode cX0_inside 1 = .ok (.istore_n 1, 1) := by decide +kernel
theorem dX0_inside_2 : decode cX0_inside 2 = .ok (.iconst 1, 1) := by decide +kernel
theorem dX0_inside_3 : decode cX0_inside 3 = .ok (.istore_n 2, 1) := by decide +kernel
theorem dX0_inside_4 : decode cX0_inside 4 = .ok (.iload_n 2, 1) := by decide +kernel
theorem dX0_inside_5 : decode cX0_inside 5 = .ok (.aload_n 0, 1) := by decide +kernel
theorem dX0_inside_6 : decode cX0_inside 6 = .ok (.getfield 53, 3) := by decide +kernel
theorem dX0_inside_9 : decode cX0_inside 9 = .ok (.if_icmp .ge 18, 3) := by decide +kernel
theorem dX0_inside_12 : decode cX0_inside 12 = .ok (.iload_n 1, 1) := by decide +kernel
theorem dX0_inside_13 : decode cX0_inside 13 = .ok (.aload_n 0, 1) := by decide +kernel
theorem dX0_inside_14 : decode cX0_inside 14 = .ok (.getfield 13, 3) := by decide +kernel
theorem dX0_inside_17 : decode cX0_inside 17 = .ok (.iload_n 2, 1) := by decide +kernel
theorem dX0_inside_18 : decode cX0_inside 18 = .ok (.iaload, 1) := by decide +kernel
theorem dX0_inside_19 : decode cX0_inside 19 = .ok (.iadd, 1) := by decide +kernel
theorem dX0_inside_20 : decode cX0_inside 20 = .ok (.istore_n 1, 1) := by decide +kernel
theorem dX0_inside_21 : decode cX0_inside 21 = .ok (.iinc 2 1, 3) := by decide +kernel
theorem dX0_inside_24 : decode cX0_inside 24 = .ok (.goto (-20), 3) := by decide +kernel
theorem dX0_inside_27 : decode cX0_inside 27 = .ok (.iload_n 1, 1) := by decide +kernel
theorem dX0_inside_28 : decode cX0_inside 28 = .ok (.ireturn, 1) := by decide +kernel
theorem dX0_latest_0 : decode cX0_latest 0 = .ok (.aload_n 0, 1) := by decide +kernel
theorem dX0_latest_1 : decode cX0_latest 1 = .ok (.getfield 57, 3) := by decide +kernel
theorem dX0_latest_4 : decode cX0_latest 4 = .ok (.iconst (-1), 1) := by decide +kernel
theorem dX0_latest_5 : decode cX0_latest 5 = .ok (.if_icmp .eq 7, 3) := by decide +kernel
theorem dX0_latest_8 : decode cX0_latest 8 = .ok (.iconst 1, 1) := by decide +kernel
theorem dX0_latest_9 : decode cX0_latest 9 = .ok (.goto 4, 3) := by decide +kernel
theorem dX0_latest_12 : decode cX0_latest 12 = .ok (.iconst 0, 1) := by decide +kernel
theorem dX0_latest_13 : decode cX0_latest 13 = .ok (.invokestatic 102, 3) := by decide +kernel
theorem dX0_latest_16 : decode cX0_latest 16 = .ok (.aload_n 0, 1) := by decide +kernel
theorem dX0_latest_17 : decode cX0_latest 17 = .ok (.getfield 57, 3) := by decide +kernel
theorem dX0_latest_20 : decode cX0_latest 20 = .ok (.ireturn, 1) := by decide +kernel
theorem dX0_passed_0 : decode cX0_passed 0 = .ok (.aload_n 0, 1) := by decide +kernel
theorem dX0_passed_1 : decode cX0_passed 1 = .ok (.iload_n 1, 1) := by decide +kernel
theorem dX0_passed_2 : decode cX0_passed 2 = .ok (.invokevirtual 81, 3) := by decide +kernel
theorem dX0_passed_5 : decode cX0_passed 5 = .ok (.aload_n 0, 1) := by decide +kernel
theorem dX0_passed_6 : decode cX0_passed 6 = .ok (.getfield 41, 3) := by decide +kernel
theorem dX0_passed_9 : decode cX0_passed 9 = .ok (.iload_n 1, 1) := by decide +kernel
theorem dX0_passed_10 : decode cX0_passed 10 = .ok (.iaload, 1) := by decide +kernel
theorem dX0_passed_11 : decode cX0_passed 11 = .ok (.ireturn, 1) := by decide +kernel
theorem dX0_waited_0 : decode cX0_waited 0 = .ok (.aload_n 0, 1) := by decide +kernel
theorem dX0_waited_1 : decode cX0_waited 1 = .ok (.getfield 105, 3) := by decide +kernel
theorem dX0_waited_4 : decode cX0_waited 4 = .ok (.ireturn, 1) := by decide +kernel
theorem dX0_distance_0 : decode cX0_distance 0 = .ok (.aload_n 0, 1) := by decide +kernel
theorem dX0_distance_1 : decode cX0_distance 1 = .ok (.iload_n 1, 1) := by decide +kernel
theorem dX0_distance_2 : decode cX0_distance 2 = .ok (.invokevirtual 74, 3) := by decide +kernel
theorem dX0_distance_5 : decode cX0_distance 5 = .ok (.aload_n 0, 1) := by decide +kernel
theorem dX0_distance_6 : decode cX0_distance 6 = .ok (.getfield 19, 3) := by decide +kernel
theorem dX0_distance_9 : decode cX0_distance 9 = .ok (.iload_n 1, 1) := by decide +kernel
theorem dX0_distance_10 : decode cX0_distance 10 = .ok (.iaload, 1) := by decide +kernel
theorem dX0_distance_11 : decode cX0_distance 11 = .ok (.iconst (-1), 1) := by decide +kernel
theorem dX0_distance_12 : decode cX0_distance 12 = .ok (.if_icmp .eq 7, 3) := by decide +kernel
theorem dX0_distance_15 : decode cX0_distance 15 = .ok (.iconst 1, 1) := by decide +kernel
theorem dX0_distance_16 : decode cX0_distance 16 = .ok (.goto 4, 3) := by decide +kernel
theorem dX0_distance_19 : decode cX0_distance 19 = .ok (.iconst 0, 1) := by decide +kernel
theorem dX0_distance_20 : decode cX0_distance 20 = .ok (.invokestatic 102, 3) := by decide +kernel
theorem dX0_distance_23 : decode cX0_distance 23 = .ok (.aload_n 0, 1) := by decide +kernel
theorem dX0_distance_24 : decode cX0_distance 24 = .ok (.getfield 19, 3) := by decide +kernel
theorem dX0_distance_27 : decode cX0_distance 27 = .ok (.iload_n 1, 1) := by decide +kernel
theorem dX0_distance_28 : decode cX0_distance 28 = .ok (.iaload, 1) := by decide +kernel
theorem dX0_distance_29 : decode cX0_distance 29 = .ok (.ireturn, 1) := by decide +kernel
theorem dX0_door_0 : decode cX0_door 0 = .ok (.aload_n 0, 1) := by decide +kernel
theorem dX0_door_1 : decode cX0_door 1 = .ok (.iload_n 1, 1) := by decide +kernel
theorem dX0_door_2 : decode cX0_door 2 = .ok (.invokevirtual 74, 3) := by decide +kernel
theorem dX0_door_5 : decode cX0_door 5 = .ok (.aload_n 0, 1) := by decide +kernel
theorem dX0_door_6 : decode cX0_door 6 = .ok (.getfield 22, 3) := by decide +kernel
theorem dX0_door_9 : decode cX0_door 9 = .ok (.iload_n 1, 1) := by decide +kernel
theorem dX0_door_10 : decode cX0_door 10 = .ok (.iaload, 1) := by decide +kernel
theorem dX0_door_11 : decode cX0_door 11 = .ok (.iconst (-1), 1) := by decide +kernel
theorem dX0_door_12 : decode cX0_door 12 = .ok (.if_icmp .eq 7, 3) := by decide +kernel
theorem dX0_door_15 : decode cX0_door 15 = .ok (.iconst 1, 1) := by decide +kernel
theorem dX0_door_16 : decode cX0_door 16 = .ok (.goto 4, 3) := by decide +kernel
theorem dX0_door_19 : decode cX0_door 19 = .ok (.iconst 0, 1) := by decide +kernel
theorem dX0_door_20 : decode cX0_door 20 = .ok (.invokestatic 102, 3) := by decide +kernel
theorem dX0_door_23 : decode cX0_door 23 = .ok (.aload_n 0, 1) := by decide +kernel
theorem dX0_door_24 : decode cX0_door 24 = .ok (.getfield 22, 3) := by decide +kernel
theorem dX0_door_27 : decode cX0_door 27 = .ok (.iload_n 1, 1) := by decide +kernel
theorem dX0_door_28 : decode cX0_door 28 = .ok (.iaload, 1) := by decide +kernel
theorem dX0_door_29 : decode cX0_door 29 = .ok (.ireturn, 1) := by decide +kernel
theorem dX0_trapped_0 : decode cX0_trapped 0 = .ok (.iconst 0, 1) := by decide +kernel
theorem dX0_trapped_1 : decode cX0_trapped 1 = .ok (.istore_n 1, 1) := by decide +kernel
theorem dX0_trapped_2 : decode cX0_trapped 2 = .ok (.iconst 1, 1) := by decide +kernel
theorem dX0_trapped_3 : decode cX0_trapped 3 = .ok (.istore_n 2, 1) := by decide +kernel
theorem dX0_trapped_4 : decode cX0_trapped 4 = .ok (.iload_n 2, 1) := by decide +kernel
theorem dX0_trapped_5 : decode cX0_trapped 5 = .ok (.aload_n 0, 1) := by decide +kernel
theorem dX0_trapped_6 : decode cX0_trapped 6 = .ok (.getfield 53, 3) := by decide +kernel
theorem dX0_trapped_9 : decode cX0_trapped 9 = .ok (.if_icmp .ge 28, 3) := by decide +kernel
theorem dX0_trapped_12 : decode cX0_trapped 12 = .ok (.aload_n 0, 1) := by decide +kernel
theorem dX0_trapped_13 : decode cX0_trapped 13 = .ok (.getfield 19, 3) := by decide +kernel
theorem dX0_trapped_16 : decode cX0_trapped 16 = .ok (.iload_n 2, 1) := by decide +kernel
theorem dX0_trapped_17 : decode cX0_trapped 17 = .ok (.iaload, 1) := by decide +kernel
theorem dX0_trapped_18 : decode cX0_trapped 18 = .ok (.iconst (-1), 1) := by decide +kernel
theorem dX0_trapped_19 : decode cX0_trapped 19 = .ok (.if_icmp .ne 12, 3) := by decide +kernel
theorem dX0_trapped_22 : decode cX0_trapped 22 = .ok (.iload_n 1, 1) := by decide +kernel
theorem dX0_trapped_23 : decode cX0_trapped 23 = .ok (.aload_n 0, 1) := by decide +kernel
theorem dX0_trapped_24 : decode cX0_trapped 24 = .ok (.getfield 13, 3) := by decide +kernel
theorem dX0_trapped_27 : decode cX0_trapped 27 = .ok (.iload_n 2, 1) := by decide +kernel
theorem dX0_trapped_28 : decode cX0_trapped 28 = .ok (.iaload, 1) := by decide +kernel
theorem dX0_trapped_29 : decode cX0_trapped 29 = .ok (.iadd, 1) := by decide +kernel
theorem dX0_trapped_30 : decode cX0_trapped 30 = .ok (.istore_n 1, 1) := by decide +kernel
theorem dX0_trapped_31 : decode cX0_trapped 31 = .ok (.iinc 2 1, 3) := by decide +kernel
theorem dX0_trapped_34 : decode cX0_trapped 34 = .ok (.goto (-30), 3) := by decide +kernel
theorem dX0_trapped_37 : decode cX0_trapped 37 = .ok (.iload_n 1, 1) := by decide +kernel
theorem dX0_trapped_38 : decode cX0_trapped 38 = .ok (.ireturn, 1) := by decide +kernel
theorem dX0_wouldMove_0 : decode cX0_wouldMove 0 = .ok (.aload_n 0, 1) := by decide +kernel
theorem dX0_wouldMove_1 : decode cX0_wouldMove 1 = .ok (.iload_n 1, 1) := by decide +kernel
theorem dX0_wouldMove_2 : decode cX0_wouldMove 2 = .ok (.invokevirtual 74, 3) := by decide +kernel
theorem dX0_wouldMove_5 : decode cX0_wouldMove 5 = .ok (.aload_n 0, 1) := by decide +kernel
theorem dX0_wouldMove_6 : decode cX0_wouldMove 6 = .ok (.getfield 22, 3) := by decide +kernel
theorem dX0_wouldMove_9 : decode cX0_wouldMove 9 = .ok (.iload_n 1, 1) := by decide +kernel
theorem dX0_wouldMove_10 : decode cX0_wouldMove 10 = .ok (.iaload, 1) := by decide +kernel
theorem dX0_wouldMove_11 : decode cX0_wouldMove 11 = .ok (.istore_n 2, 1) := by decide +kernel
theorem dX0_wouldMove_12 : decode cX0_wouldMove 12 = .ok (.aload_n 0, 1) := by decide +kernel
theorem dX0_wouldMove_13 : decode cX0_wouldMove 13 = .ok (.iload_n 2, 1) := by decide +kernel
theorem dX0_wouldMove_14 : decode cX0_wouldMove 14 = .ok (.invokevirtual 108, 3) := by decide +kernel
theorem dX0_wouldMove_17 : decode cX0_wouldMove 17 = .ok (.ifCond .ne 5, 3) := by decide +kernel
theorem dX0_wouldMove_20 : decode cX0_wouldMove 20 = .ok (.iconst 0, 1) := by decide +kernel
theorem dX0_wouldMove_21 : decode cX0_wouldMove 21 = .ok (.ireturn, 1) := by decide +kernel
theorem dX0_wouldMove_22 : decode cX0_wouldMove 22 = .ok (.aload_n 0, 1) := by decide +kernel
theorem dX0_wouldMove_23 : decode cX0_wouldMove 23 = .ok (.invokevirtual 112, 3) := by decide +kernel
theorem dX0_wouldMove_26 : decode cX0_wouldMove 26 = .ok (.aload_n 0, 1) := by decide +kernel
theorem dX0_wouldMove_27 : decode cX0_wouldMove 27 = .ok (.getfield 50, 3) := by decide +kernel
theorem dX0_wouldMove_30 : decode cX0_wouldMove 30 = .ok (.iload_n 2, 1) := by decide +kernel
theorem dX0_wouldMove_31 : decode cX0_wouldMove 31 = .ok (.iaload, 1) := by decide +kernel
theorem dX0_wouldMove_32 : decode cX0_wouldMove 32 = .ok (.ireturn, 1) := by decide +kernel
theorem dX0_bound_0 : decode cX0_bound 0 = .ok (.aload_n 0, 1) := by decide +kernel
theorem dX0_bound_1 : decode cX0_bound 1 = .ok (.invokevirtual 115, 3) := by decide +kernel
theorem dX0_bound_4 : decode cX0_bound 4 = .ok (.ifCond .ne 7, 3) := by decide +kernel
theorem dX0_bound_7 : decode cX0_bound 7 = .ok (.iconst 1, 1) := by decide +kernel
theorem dX0_bound_8 : decode cX0_bound 8 = .ok (.goto 4, 3) := by decide +kernel
theorem dX0_bound_11 : decode cX0_bound 11 = .ok (.iconst 0, 1) := by decide +kernel
theorem dX0_bound_12 : decode cX0_bound 12 = .ok (.invokestatic 68, 3) := by decide +kernel
theorem dX0_bound_15 : decode cX0_bound 15 = .ok (.iconst 0, 1) := by decide +kernel
theorem dX0_bound_16 : decode cX0_bound 16 = .ok (.istore_n 1, 1) := by decide +kernel
theorem dX0_bound_17 : decode cX0_bound 17 = .ok (.iconst 1, 1) := by decide +kernel
theorem dX0_bound_18 : decode cX0_bound 18 = .ok (.istore_n 2, 1) := by decide +kernel
theorem dX0_bound_19 : decode cX0_bound 19 = .ok (.iload_n 2, 1) := by decide +kernel
theorem dX0_bound_20 : decode cX0_bound 20 = .ok (.aload_n 0, 1) := by decide +kernel
theorem dX0_bound_21 : decode cX0_bound 21 = .ok (.getfield 53, 3) := by decide +kernel
theorem dX0_bound_24 : decode cX0_bound 24 = .ok (.if_icmp .ge 19, 3) := by decide +kernel
theorem dX0_bound_27 : decode cX0_bound 27 = .ok (.iload_n 1, 1) := by decide +kernel
theorem dX0_bound_28 : decode cX0_bound 28 = .ok (.aload_n 0, 1) := by decide +kernel
theorem dX0_bound_29 : decode cX0_bound 29 = .ok (.iload_n 2, 1) := by decide +kernel
theorem dX0_bound_30 : decode cX0_bound 30 = .ok (.invokevirtual 118, 3) := by decide +kernel
theorem dX0_bound_33 : decode cX0_bound 33 = .ok (.invokestatic 121, 3) := by decide +kernel
theorem dX0_bound_36 : decode cX0_bound 36 = .ok (.istore_n 1, 1) := by decide +kernel
theorem dX0_bound_37 : decode cX0_bound 37 = .ok (.iinc 2 1, 3) := by decide +kernel
theorem dX0_bound_40 : decode cX0_bound 40 = .ok (.goto (-21), 3) := by decide +kernel
theorem dX0_bound_43 : decode cX0_bound 43 = .ok (.iload_n 1, 1) := by decide +kernel
theorem dX0_bound_44 : decode cX0_bound 44 = .ok (.ireturn, 1) := by decide +kernel
theorem dX0_boundAt_0 : decode cX0_boundAt 0 = .ok (.aload_n 0, 1) := by decide +kernel
theorem dX0_boundAt_1 : decode cX0_boundAt 1 = .ok (.iload_n 1, 1) := by decide +kernel
theorem dX0_boundAt_2 : decode cX0_boundAt 2 = .ok (.invokevirtual 127, 3) := by decide +kernel
theorem dX0_boundAt_5 : decode cX0_boundAt 5 = .ok (.istore_n 2, 1) := by decide +kernel
theorem dX0_boundAt_6 : decode cX0_boundAt 6 = .ok (.aload_n 0, 1) := by decide +kernel
theorem dX0_boundAt_7 : decode cX0_boundAt 7 = .ok (.iload_n 1, 1) := by decide +kernel
theorem dX0_boundAt_8 : decode cX0_boundAt 8 = .ok (.invokevirtual 130, 3) := by decide +kernel
theorem dX0_boundAt_11 : decode cX0_boundAt 11 = .ok (.istore_n 3, 1) := by decide +kernel
theorem dX0_boundAt_12 : decode cX0_boundAt 12 = .ok (.iload_n 2, 1) := by decide +kernel
theorem dX0_boundAt_13 : decode cX0_boundAt 13 = .ok (.ifCond .eq 7, 3) := by decide +kernel
theorem dX0_boundAt_16 : decode cX0_boundAt 16 = .ok (.iload_n 3, 1) := by decide +kernel
theorem dX0_boundAt_17 : decode cX0_boundAt 17 = .ok (.ifCond .ne 5, 3) := by decide +kernel
theorem dX0_boundAt_20 : decode cX0_boundAt 20 = .ok (.iconst 0, 1) := by decide +kernel
theorem dX0_boundAt_21 : decode cX0_boundAt 21 = .ok (.ireturn, 1) := by decide +kernel
theorem dX0_boundAt_22 : decode cX0_boundAt 22 = .ok (.iload_n 1, 1) := by decide +kernel
theorem dX0_boundAt_23 : decode cX0_boundAt 23 = .ok (.iconst 1, 1) := by decide +kernel
theorem dX0_boundAt_24 : decode cX0_boundAt 24 = .ok (.isub, 1) := by decide +kernel
theorem dX0_boundAt_25 : decode cX0_boundAt 25 = .ok (.iload_n 2, 1) := by decide +kernel
theorem dX0_boundAt_26 : decode cX0_boundAt 26 = .ok (.iload_n 3, 1) := by decide +kernel
theorem dX0_boundAt_27 : decode cX0_boundAt 27 = .ok (.iadd, 1) := by decide +kernel
theorem dX0_boundAt_28 : decode cX0_boundAt 28 = .ok (.iconst 1, 1) := by decide +kernel
theorem dX0_boundAt_29 : decode cX0_boundAt 29 = .ok (.isub, 1) := by decide +kernel
theorem dX0_boundAt_30 : decode cX0_boundAt 30 = .ok (.iload_n 3, 1) := by decide +kernel
theorem dX0_boundAt_31 : decode cX0_boundAt 31 = .ok (.idiv, 1) := by decide +kernel
theorem dX0_boundAt_32 : decode cX0_boundAt 32 = .ok (.iadd, 1) := by decide +kernel
theorem dX0_boundAt_33 : decode cX0_boundAt 33 = .ok (.ireturn, 1) := by decide +kernel
theorem dX0_peopleFrom_0 : decode cX0_peopleFrom 0 = .ok (.iconst 0, 1) := by decide +kernel
theorem dX0_peopleFrom_1 : decode cX0_peopleFrom 1 = .ok (.istore_n 2, 1) := by decide +kernel
theorem dX0_peopleFrom_2 : decode cX0_peopleFrom 2 = .ok (.iconst 1, 1) := by decide +kernel
theorem dX0_peopleFrom_3 : decode cX0_peopleFrom 3 = .ok (.istore_n 3, 1) := by decide +kernel
theorem dX0_peopleFrom_4 : decode cX0_peopleFrom 4 = .ok (.iload_n 3, 1) := by decide +kernel
theorem dX0_peopleFrom_5 : decode cX0_peopleFrom 5 = .ok (.aload_n 0, 1) := by decide +kernel
theorem dX0_peopleFrom_6 : decode cX0_peopleFrom 6 = .ok (.getfield 53, 3) := by decide +kernel
theorem dX0_peopleFrom_9 : decode cX0_peopleFrom 9 = .ok (.if_icmp .ge 28, 3) := by decide +kernel
theorem dX0_peopleFrom_12 : decode cX0_peopleFrom 12 = .ok (.aload_n 0, 1) := by decide +kernel
theorem dX0_peopleFrom_13 : decode cX0_peopleFrom 13 = .ok (.getfield 19, 3) := by decide +kernel
theorem dX0_peopleFrom_16 : decode cX0_peopleFrom 16 = .ok (.iload_n 3, 1) := by decide +kernel
theorem dX0_peopleFrom_17 : decode cX0_peopleFrom 17 = .ok (.iaload, 1) := by decide +kernel
theorem dX0_peopleFrom_18 : decode cX0_peopleFrom 18 = .ok (.iload_n 1, 1) := by decide +kernel
theorem dX0_peopleFrom_19 : decode cX0_peopleFrom 19 = .ok (.if_icmp .lt 12, 3) := by decide +kernel
theorem dX0_peopleFrom_22 : decode cX0_peopleFrom 22 = .ok (.iload_n 2, 1) := by decide +kernel
theorem dX0_peopleFrom_23 : decode cX0_peopleFrom 23 = .ok (.aload_n 0, 1) := by decide +kernel
theorem dX0_peopleFrom_24 : decode cX0_peopleFrom 24 = .ok (.getfield 13, 3) := by decide +kernel
theorem dX0_peopleFrom_27 : decode cX0_peopleFrom 27 = .ok (.iload_n 3, 1) := by decide +kernel
theorem dX0_peopleFrom_28 : decode cX0_peopleFrom 28 = .ok (.iaload, 1) := by decide +kernel
theorem dX0_peopleFrom_29 : decode cX0_peopleFrom 29 = .ok (.iadd, 1) := by decide +kernel
theorem dX0_peopleFrom_30 : decode cX0_peopleFrom 30 = .ok (.istore_n 2, 1) := by decide +kernel
theorem dX0_peopleFrom_31 : decode cX0_peopleFrom 31 = .ok (.iinc 3 1, 3) := by decide +kernel
theorem dX0_peopleFrom_34 : decode cX0_peopleFrom 34 = .ok (.goto (-30), 3) := by decide +kernel
theorem dX0_peopleFrom_37 : decode cX0_peopleFrom 37 = .ok (.iload_n 2, 1) := by decide +kernel
theorem dX0_peopleFrom_38 : decode cX0_peopleFrom 38 = .ok (.ireturn, 1) := by decide +kernel
theorem dX0_flowInward_0 : decode cX0_flowInward 0 = .ok (.iconst 0, 1) := by decide +kernel
theorem dX0_flowInward_1 : decode cX0_flowInward 1 = .ok (.istore_n 2, 1) := by decide +kernel
theorem dX0_flowInward_2 : decode cX0_flowInward 2 = .ok (.iconst 0, 1) := by decide +kernel
theorem dX0_flowInward_3 : decode cX0_flowInward 3 = .ok (.istore_n 3, 1) := by decide +kernel
theorem dX0_flowInward_4 : decode cX0_flowInward 4 = .ok (.iload_n 3, 1) := by decide +kernel
theorem dX0_flowInward_5 : decode cX0_flowInward 5 = .ok (.aload_n 0, 1) := by decide +kernel
theorem dX0_flowInward_6 : decode cX0_flowInward 6 = .ok (.getfield 78, 3) := by decide +kernel
theorem dX0_flowInward_9 : decode cX0_flowInward 9 = .ok (.if_icmp .ge 93, 3) := by decide +kernel
theorem dX0_flowInward_12 : decode cX0_flowInward 12 = .ok (.aload_n 0, 1) := by decide +kernel
theorem dX0_flowInward_13 : decode cX0_flowInward 13 = .ok (.getfield 19, 3) := by decide +kernel
theorem dX0_flowInward_16 : decode cX0_flowInward 16 = .ok (.aload_n 0, 1) := by decide +kernel
theorem dX0_flowInward_17 : decode cX0_flowInward 17 = .ok (.getfield 25, 3) := by decide +kernel
theorem dX0_flowInward_20 : decode cX0_flowInward 20 = .ok (.iload_n 3, 1) := by decide +kernel
theorem dX0_flowInward_21 : decode cX0_flowInward 21 = .ok (.iaload, 1) := by decide +kernel
theorem dX0_flowInward_22 : decode cX0_flowInward 22 = .ok (.iaload, 1) := by decide +kernel
theorem dX0_flowInward_23 : decode cX0_flowInward 23 = .ok (.istore 4, 2) := by decide +kernel
theorem dX0_flowInward_25 : decode cX0_flowInward 25 = .ok (.aload_n 0, 1) := by decide +kernel
theorem dX0_flowInward_26 : decode cX0_flowInward 26 = .ok (.getfield 19, 3) := by decide +kernel
theorem dX0_flowInward_29 : decode cX0_flowInward 29 = .ok (.aload_n 0, 1) := by decide +kernel
theorem dX0_flowInward_30 : decode cX0_flowInward 30 = .ok (.getfield 28, 3) := by decide +kernel
theorem dX0_flowInward_33 : decode cX0_flowInward 33 = .ok (.iload_n 3, 1) := by decide +kernel
theorem dX0_flowInward_34 : decode cX0_flowInward 34 = .ok (.iaload, 1) := by decide +kernel
theorem dX0_flowInward_35 : decode cX0_flowInward 35 = .ok (.iaload, 1) := by decide +kernel
theorem dX0_flowInward_36 : decode cX0_flowInward 36 = .ok (.istore 5, 2) := by decide +kernel
theorem dX0_flowInward_38 : decode cX0_flowInward 38 = .ok (.iload 4, 2) := by decide +kernel
theorem dX0_flowInward_40 : decode cX0_flowInward 40 = .ok (.iload_n 1, 1) := by decide +kernel
theorem dX0_flowInward_41 : decode cX0_flowInward 41 = .ok (.if_icmp .ne 11, 3) := by decide +kernel
theorem dX0_flowInward_44 : decode cX0_flowInward 44 = .ok (.iload 5, 2) := by decide +kernel
theorem dX0_flowInward_46 : decode cX0_flowInward 46 = .ok (.iload_n 1, 1) := by decide +kernel
theorem dX0_flowInward_47 : decode cX0_flowInward 47 = .ok (.iconst 1, 1) := by decide +kernel
theorem dX0_flowInward_48 : decode cX0_flowInward 48 = .ok (.isub, 1) := by decide +kernel
theorem dX0_flowInward_49 : decode cX0_flowInward 49 = .ok (.if_icmp .eq 17, 3) := by decide +kernel
theorem dX0_flowInward_52 : decode cX0_flowInward 52 = .ok (.iload 5, 2) := by decide +kernel
theorem dX0_flowInward_54 : decode cX0_flowInward 54 = .ok (.iload_n 1, 1) := by decide +kernel
theorem dX0_flowInward_55 : decode cX0_flowInward 55 = .ok (.if_icmp .ne 15, 3) := by decide +kernel
theorem dX0_flowInward_58 : decode cX0_flowInward 58 = .ok (.iload 4, 2) := by decide +kernel
theorem dX0_flowInward_60 : decode cX0_flowInward 60 = .ok (.iload_n 1, 1) := by decide +kernel
theorem dX0_flowInward_61 : decode cX0_flowInward 61 = .ok (.iconst 1, 1) := by decide +kernel
theorem dX0_flowInward_62 : decode cX0_flowInward 62 = .ok (.isub, 1) := by decide +kernel
theorem dX0_flowInward_63 : decode cX0_flowInward 63 = .ok (.if_icmp .ne 7, 3) := by decide +kernel
theorem dX0_flowInward_66 : decode cX0_flowInward 66 = .ok (.iconst 1, 1) := by decide +kernel
theorem dX0_flowInward_67 : decode cX0_flowInward 67 = .ok (.goto 4, 3) := by decide +kernel
theorem dX0_flowInward_70 : decode cX0_flowInward 70 = .ok (.iconst 0, 1) := by decide +kernel
theorem dX0_flowInward_71 : decode cX0_flowInward 71 = .ok (.istore 6, 2) := by decide +kernel
theorem dX0_flowInward_73 : decode cX0_flowInward 73 = .ok (.aload_n 0, 1) := by decide +kernel
theorem dX0_flowInward_74 : decode cX0_flowInward 74 = .ok (.getfield 37, 3) := by decide +kernel
theorem dX0_flowInward_77 : decode cX0_flowInward 77 = .ok (.iload_n 3, 1) := by decide +kernel
theorem dX0_flowInward_78 : decode cX0_flowInward 78 = .ok (.baload, 1) := by decide +kernel
theorem dX0_flowInward_79 : decode cX0_flowInward 79 = .ok (.ifCond .eq 17, 3) := by decide +kernel
theorem dX0_flowInward_82 : decode cX0_flowInward 82 = .ok (.iload 6, 2) := by decide +kernel
theorem dX0_flowInward_84 : decode cX0_flowInward 84 = .ok (.ifCond .eq 12, 3) := by decide +kernel
theorem dX0_flowInward_87 : decode cX0_flowInward 87 = .ok (.iload_n 2, 1) := by decide +kernel
theorem dX0_flowInward_88 : decode cX0_flowInward 88 = .ok (.aload_n 0, 1) := by decide +kernel
theorem dX0_flowInward_89 : decode cX0_flowInward 89 = .ok (.getfield 31, 3) := by decide +kernel
theorem dX0_flowInward_92 : decode cX0_flowInward 92 = .ok (.iload_n 3, 1) := by decide +kernel
theorem dX0_flowInward_93 : decode cX0_flowInward 93 = .ok (.iaload, 1) := by decide +kernel
theorem dX0_flowInward_94 : decode cX0_flowInward 94 = .ok (.iadd, 1) := by decide +kernel
theorem dX0_flowInward_95 : decode cX0_flowInward 95 = .ok (.istore_n 2, 1) := by decide +kernel
theorem dX0_flowInward_96 : decode cX0_flowInward 96 = .ok (.iinc 3 1, 3) := by decide +kernel
theorem dX0_flowInward_99 : decode cX0_flowInward 99 = .ok (.goto (-95), 3) := by decide +kernel
theorem dX0_flowInward_102 : decode cX0_flowInward 102 = .ok (.iload_n 2, 1) := by decide +kernel
theorem dX0_flowInward_103 : decode cX0_flowInward 103 = .ok (.ireturn, 1) := by decide +kernel
theorem dX0_passOneStep_0 : decode cX0_passOneStep 0 = .ok (.aload_n 0, 1) := by decide +kernel
theorem dX0_passOneStep_1 : decode cX0_passOneStep 1 = .ok (.invokevirtual 112, 3) := by decide +kernel
theorem dX0_passOneStep_4 : decode cX0_passOneStep 4 = .ok (.aload_n 0, 1) := by decide +kernel
theorem dX0_passOneStep_5 : decode cX0_passOneStep 5 = .ok (.getfield 13, 3) := by decide +kernel
theorem dX0_passOneStep_8 : decode cX0_passOneStep 8 = .ok (.iconst 0, 1) := by decide +kernel
theorem dX0_passOneStep_9 : decode cX0_passOneStep 9 = .ok (.iaload, 1) := by decide +kernel
theorem dX0_passOneStep_10 : decode cX0_passOneStep 10 = .ok (.istore_n 1, 1) := by decide +kernel
theorem dX0_passOneStep_11 : decode cX0_passOneStep 11 = .ok (.aload_n 0, 1) := by decide +kernel
theorem dX0_passOneStep_12 : decode cX0_passOneStep 12 = .ok (.invokevirtual 133, 3) := by decide +kernel
theorem dX0_passOneStep_15 : decode cX0_passOneStep 15 = .ok (.istore_n 2, 1) := by decide +kernel
theorem dX0_passOneStep_16 : decode cX0_passOneStep 16 = .ok (.aload_n 0, 1) := by decide +kernel
theorem dX0_passOneStep_17 : decode cX0_passOneStep 17 = .ok (.dup, 1) := by decide +kernel
theorem dX0_passOneStep_18 : decode cX0_passOneStep 18 = .ok (.getfield 99, 3) := by decide +kernel
theorem dX0_passOneStep_21 : decode cX0_passOneStep 21 = .ok (.iconst 1, 1) := by decide +kernel
theorem dX0_passOneStep_22 : decode cX0_passOneStep 22 = .ok (.iadd, 1) := by decide +kernel
theorem dX0_passOneStep_23 : decode cX0_passOneStep 23 = .ok (.putfield 99, 3) := by decide +kernel
theorem dX0_passOneStep_26 : decode cX0_passOneStep 26 = .ok (.aload_n 0, 1) := by decide +kernel
theorem dX0_passOneStep_27 : decode cX0_passOneStep 27 = .ok (.getfield 13, 3) := by decide +kernel
theorem dX0_passOneStep_30 : decode cX0_passOneStep 30 = .ok (.iconst 0, 1) := by decide +kernel
theorem dX0_passOneStep_31 : decode cX0_passOneStep 31 = .ok (.iaload, 1) := by decide +kernel
theorem dX0_passOneStep_32 : decode cX0_passOneStep 32 = .ok (.iload_n 1, 1) := by decide +kernel
theorem dX0_passOneStep_33 : decode cX0_passOneStep 33 = .ok (.if_icmp .le 11, 3) := by decide +kernel
theorem dX0_passOneStep_36 : decode cX0_passOneStep 36 = .ok (.aload_n 0, 1) := by decide +kernel
theorem dX0_passOneStep_37 : decode cX0_passOneStep 37 = .ok (.aload_n 0, 1) := by decide +kernel
theorem dX0_passOneStep_38 : decode cX0_passOneStep 38 = .ok (.getfield 99, 3) := by decide +kernel
theorem dX0_passOneStep_41 : decode cX0_passOneStep 41 = .ok (.putfield 57, 3) := by decide +kernel
theorem dX0_passOneStep_44 : decode cX0_passOneStep 44 = .ok (.aload_n 0, 1) := by decide +kernel
theorem dX0_passOneStep_45 : decode cX0_passOneStep 45 = .ok (.dup, 1) := by decide +kernel
theorem dX0_passOneStep_46 : decode cX0_passOneStep 46 = .ok (.getfield 105, 3) := by decide +kernel
theorem dX0_passOneStep_49 : decode cX0_passOneStep 49 = .ok (.aload_n 0, 1) := by decide +kernel
theorem dX0_passOneStep_50 : decode cX0_passOneStep 50 = .ok (.invokevirtual 92, 3) := by decide +kernel
theorem dX0_passOneStep_53 : decode cX0_passOneStep 53 = .ok (.iadd, 1) := by decide +kernel
theorem dX0_passOneStep_54 : decode cX0_passOneStep 54 = .ok (.putfield 105, 3) := by decide +kernel
theorem dX0_passOneStep_57 : decode cX0_passOneStep 57 = .ok (.iload_n 2, 1) := by decide +kernel
theorem dX0_passOneStep_58 : decode cX0_passOneStep 58 = .ok (.ireturn, 1) := by decide +kernel
theorem dX0_grantAll_0 : decode cX0_grantAll 0 = .ok (.iconst 0, 1) := by decide +kernel
theorem dX0_grantAll_1 : decode cX0_grantAll 1 = .ok (.istore_n 1, 1) := by decide +kernel
theorem dX0_grantAll_2 : decode cX0_grantAll 2 = .ok (.iload_n 1, 1) := by decide +kernel
theorem dX0_grantAll_3 : decode cX0_grantAll 3 = .ok (.aload_n 0, 1) := by decide +kernel
theorem dX0_grantAll_4 : decode cX0_grantAll 4 = .ok (.getfield 78, 3) := by decide +kernel
theorem dX0_grantAll_7 : decode cX0_grantAll 7 = .ok (.if_icmp .ge 16, 3) := by decide +kernel
theorem dX0_grantAll_10 : decode cX0_grantAll 10 = .ok (.aload_n 0, 1) := by decide +kernel
theorem dX0_grantAll_11 : decode cX0_grantAll 11 = .ok (.getfield 50, 3) := by decide +kernel
theorem dX0_grantAll_14 : decode cX0_grantAll 14 = .ok (.iload_n 1, 1) := by decide +kernel
theorem dX0_grantAll_15 : decode cX0_grantAll 15 = .ok (.iconst 0, 1) := by decide +kernel
theorem dX0_grantAll_16 : decode cX0_grantAll 16 = .ok (.iastore, 1) := by decide +kernel
theorem dX0_grantAll_17 : decode cX0_grantAll 17 = .ok (.iinc 1 1, 3) := by decide +kernel
theorem dX0_grantAll_20 : decode cX0_grantAll 20 = .ok (.goto (-18), 3) := by decide +kernel
theorem dX0_grantAll_23 : decode cX0_grantAll 23 = .ok (.iconst 0, 1) := by decide +kernel
theorem dX0_grantAll_24 : decode cX0_grantAll 24 = .ok (.istore_n 1, 1) := by decide +kernel
theorem dX0_grantAll_25 : decode cX0_grantAll 25 = .ok (.iload_n 1, 1) := by decide +kernel
theorem dX0_grantAll_26 : decode cX0_grantAll 26 = .ok (.aload_n 0, 1) := by decide +kernel
theorem dX0_grantAll_27 : decode cX0_grantAll 27 = .ok (.getfield 53, 3) := by decide +kernel
theorem dX0_grantAll_30 : decode cX0_grantAll 30 = .ok (.if_icmp .ge 14, 3) := by decide +kernel
theorem dX0_grantAll_33 : decode cX0_grantAll 33 = .ok (.aload_n 0, 1) := by decide +kernel
theorem dX0_grantAll_34 : decode cX0_grantAll 34 = .ok (.iload_n 1, 1) := by decide +kernel
theorem dX0_grantAll_35 : decode cX0_grantAll 35 = .ok (.invokevirtual 136, 3) := by decide +kernel
theorem dX0_grantAll_38 : decode cX0_grantAll 38 = .ok (.iinc 1 1, 3) := by decide +kernel
theorem dX0_grantAll_41 : decode cX0_grantAll 41 = .ok (.goto (-16), 3) := by decide +kernel
theorem dX0_grantAll_44 : decode cX0_grantAll 44 = .ok (.return_, 1) := by decide +kernel
theorem dX0_grantAt_0 : decode cX0_grantAt 0 = .ok (.aload_n 0, 1) := by decide +kernel
theorem dX0_grantAt_1 : decode cX0_grantAt 1 = .ok (.iload_n 1, 1) := by decide +kernel
theorem dX0_grantAt_2 : decode cX0_grantAt 2 = .ok (.invokevirtual 84, 3) := by decide +kernel
theorem dX0_grantAt_5 : decode cX0_grantAt 5 = .ok (.istore_n 2, 1) := by decide +kernel
theorem dX0_grantAt_6 : decode cX0_grantAt 6 = .ok (.iconst 0, 1) := by decide +kernel
theorem dX0_grantAt_7 : decode cX0_grantAt 7 = .ok (.istore_n 3, 1) := by decide +kernel
theorem dX0_grantAt_8 : decode cX0_grantAt 8 = .ok (.iload_n 3, 1) := by decide +kernel
theorem dX0_grantAt_9 : decode cX0_grantAt 9 = .ok (.bipush 9, 2) := by decide +kernel
theorem dX0_grantAt_11 : decode cX0_grantAt 11 = .ok (.if_icmp .ge 28, 3) := by decide +kernel
theorem dX0_grantAt_14 : decode cX0_grantAt 14 = .ok (.aload_n 0, 1) := by decide +kernel
theorem dX0_grantAt_15 : decode cX0_grantAt 15 = .ok (.iload_n 1, 1) := by decide +kernel
theorem dX0_grantAt_16 : decode cX0_grantAt 16 = .ok (.iload_n 2, 1) := by decide +kernel
theorem dX0_grantAt_17 : decode cX0_grantAt 17 = .ok (.invokevirtual 139, 3) := by decide +kernel
theorem dX0_grantAt_20 : decode cX0_grantAt 20 = .ok (.istore 4, 2) := by decide +kernel
theorem dX0_grantAt_22 : decode cX0_grantAt 22 = .ok (.iload 4, 2) := by decide +kernel
theorem dX0_grantAt_24 : decode cX0_grantAt 24 = .ok (.ifCond .ne 4, 3) := by decide +kernel
theorem dX0_grantAt_27 : decode cX0_grantAt 27 = .ok (.return_, 1) := by decide +kernel
theorem dX0_grantAt_28 : decode cX0_grantAt 28 = .ok (.iload_n 2, 1) := by decide +kernel
theorem dX0_grantAt_29 : decode cX0_grantAt 29 = .ok (.iload 4, 2) := by decide +kernel
theorem dX0_grantAt_31 : decode cX0_grantAt 31 = .ok (.isub, 1) := by decide +kernel
theorem dX0_grantAt_32 : decode cX0_grantAt 32 = .ok (.istore_n 2, 1) := by decide +kernel
theorem dX0_grantAt_33 : decode cX0_grantAt 33 = .ok (.iinc 3 1, 3) := by decide +kernel
theorem dX0_grantAt_36 : decode cX0_grantAt 36 = .ok (.goto (-28), 3) := by decide +kernel
theorem dX0_grantAt_39 : decode cX0_grantAt 39 = .ok (.return_, 1) := by decide +kernel
theorem dX0_grantRound_0 : decode cX0_grantRound 0 = .ok (.iload_n 2, 1) := by decide +kernel
theorem dX0_grantRound_1 : decode cX0_grantRound 1 = .ok (.istore_n 3, 1) := by decide +kernel
theorem dX0_grantRound_2 : decode cX0_grantRound 2 = .ok (.iconst 0, 1) := by decide +kernel
theorem dX0_grantRound_3 : decode cX0_grantRound 3 = .ok (.istore 4, 2) := by decide +kernel
theorem dX0_grantRound_5 : decode cX0_grantRound 5 = .ok (.iload 4, 2) := by decide +kernel
theorem dX0_grantRound_7 : decode cX0_grantRound 7 = .ok (.aload_n 0, 1) := by decide +kernel
theorem dX0_grantRound_8 : decode cX0_grantRound 8 = .ok (.getfield 78, 3) := by decide +kernel
theorem dX0_grantRound_11 : decode cX0_grantRound 11 = .ok (.if_icmp .ge 71, 3) := by decide +kernel
theorem dX0_grantRound_14 : decode cX0_grantRound 14 = .ok (.aload_n 0, 1) := by decide +kernel
theorem dX0_grantRound_15 : decode cX0_grantRound 15 = .ok (.getfield 47, 3) := by decide +kernel
theorem dX0_grantRound_18 : decode cX0_grantRound 18 = .ok (.iload 4, 2) := by decide +kernel
theorem dX0_grantRound_20 : decode cX0_grantRound 20 = .ok (.iaload, 1) := by decide +kernel
theorem dX0_grantRound_21 : decode cX0_grantRound 21 = .ok (.iload_n 1, 1) := by decide +kernel
theorem dX0_grantRound_22 : decode cX0_grantRound 22 = .ok (.if_icmp .ne 54, 3) := by decide +kernel
theorem dX0_grantRound_25 : decode cX0_grantRound 25 = .ok (.aload_n 0, 1) := by decide +kernel
theorem dX0_grantRound_26 : decode cX0_grantRound 26 = .ok (.iload 4, 2) := by decide +kernel
theorem dX0_grantRound_28 : decode cX0_grantRound 28 = .ok (.invokevirtual 142, 3) := by decide +kernel
theorem dX0_grantRound_31 : decode cX0_grantRound 31 = .ok (.aload_n 0, 1) := by decide +kernel
theorem dX0_grantRound_32 : decode cX0_grantRound 32 = .ok (.getfield 50, 3) := by decide +kernel
theorem dX0_grantRound_35 : decode cX0_grantRound 35 = .ok (.iload 4, 2) := by decide +kernel
theorem dX0_grantRound_37 : decode cX0_grantRound 37 = .ok (.iaload, 1) := by decide +kernel
theorem dX0_grantRound_38 : decode cX0_grantRound 38 = .ok (.isub, 1) := by decide +kernel
theorem dX0_grantRound_39 : decode cX0_grantRound 39 = .ok (.istore 5, 2) := by decide +kernel
theorem dX0_grantRound_41 : decode cX0_grantRound 41 = .ok (.aload_n 0, 1) := by decide +kernel
theorem dX0_grantRound_42 : decode cX0_grantRound 42 = .ok (.getfield 34, 3) := by decide +kernel
theorem dX0_grantRound_45 : decode cX0_grantRound 45 = .ok (.iload 4, 2) := by decide +kernel
theorem dX0_grantRound_47 : decode cX0_grantRound 47 = .ok (.iaload, 1) := by decide +kernel
theorem dX0_grantRound_48 : decode cX0_grantRound 48 = .ok (.iload 5, 2) := by decide +kernel
theorem dX0_grantRound_50 : decode cX0_grantRound 50 = .ok (.invokestatic 145, 3) := by decide +kernel
theorem dX0_grantRound_53 : decode cX0_grantRound 53 = .ok (.iload_n 3, 1) := by decide +kernel
theorem dX0_grantRound_54 : decode cX0_grantRound 54 = .ok (.invokestatic 145, 3) := by decide +kernel
theorem dX0_grantRound_57 : decode cX0_grantRound 57 = .ok (.istore 6, 2) := by decide +kernel
theorem dX0_grantRound_59 : decode cX0_grantRound 59 = .ok (.aload_n 0, 1) := by decide +kernel
theorem dX0_grantRound_60 : decode cX0_grantRound 60 = .ok (.getfield 50, 3) := by decide +kernel
theorem dX0_grantRound_63 : decode cX0_grantRound 63 = .ok (.iload 4, 2) := by decide +kernel
theorem dX0_grantRound_65 : decode cX0_grantRound 65 = .ok (.dup2, 1) := by decide +kernel
theorem dX0_grantRound_66 : decode cX0_grantRound 66 = .ok (.iaload, 1) := by decide +kernel
theorem dX0_grantRound_67 : decode cX0_grantRound 67 = .ok (.iload 6, 2) := by decide +kernel
theorem dX0_grantRound_69 : decode cX0_grantRound 69 = .ok (.iadd, 1) := by decide +kernel
theorem dX0_grantRound_70 : decode cX0_grantRound 70 = .ok (.iastore, 1) := by decide +kernel
theorem dX0_grantRound_71 : decode cX0_grantRound 71 = .ok (.iload_n 3, 1) := by decide +kernel
theorem dX0_grantRound_72 : decode cX0_grantRound 72 = .ok (.iload 6, 2) := by decide +kernel
theorem dX0_grantRound_74 : decode cX0_grantRound 74 = .ok (.isub, 1) := by decide +kernel
theorem dX0_grantRound_75 : decode cX0_grantRound 75 = .ok (.istore_n 3, 1) := by decide +kernel
theorem dX0_grantRound_76 : decode cX0_grantRound 76 = .ok (.iinc 4 1, 3) := by decide +kernel
theorem dX0_grantRound_79 : decode cX0_grantRound 79 = .ok (.goto (-74), 3) := by decide +kernel
theorem dX0_grantRound_82 : decode cX0_grantRound 82 = .ok (.iload_n 2, 1) := by decide +kernel
theorem dX0_grantRound_83 : decode cX0_grantRound 83 = .ok (.iload_n 3, 1) := by decide +kernel
theorem dX0_grantRound_84 : decode cX0_grantRound 84 = .ok (.isub, 1) := by decide +kernel
theorem dX0_grantRound_85 : decode cX0_grantRound 85 = .ok (.ireturn, 1) := by decide +kernel
theorem dX0_wishBy_0 : decode cX0_wishBy 0 = .ok (.aload_n 0, 1) := by decide +kernel
theorem dX0_wishBy_1 : decode cX0_wishBy 1 = .ok (.getfield 44, 3) := by decide +kernel
theorem dX0_wishBy_4 : decode cX0_wishBy 4 = .ok (.iload_n 1, 1) := by decide +kernel
theorem dX0_wishBy_5 : decode cX0_wishBy 5 = .ok (.iaload, 1) := by decide +kernel
theorem dX0_wishBy_6 : decode cX0_wishBy 6 = .ok (.istore_n 2, 1) := by decide +kernel
theorem dX0_wishBy_7 : decode cX0_wishBy 7 = .ok (.aload_n 0, 1) := by decide +kernel
theorem dX0_wishBy_8 : decode cX0_wishBy 8 = .ok (.iload_n 2, 1) := by decide +kernel
theorem dX0_wishBy_9 : decode cX0_wishBy 9 = .ok (.invokevirtual 148, 3) := by decide +kernel
theorem dX0_wishBy_12 : decode cX0_wishBy 12 = .ok (.ifCond .eq 16, 3) := by decide +kernel
theorem dX0_wishBy_15 : decode cX0_wishBy 15 = .ok (.aload_n 0, 1) := by decide +kernel
theorem dX0_wishBy_16 : decode cX0_wishBy 16 = .ok (.getfield 16, 3) := by decide +kernel
theorem dX0_wishBy_19 : decode cX0_wishBy 19 = .ok (.iload_n 2, 1) := by decide +kernel
theorem dX0_wishBy_20 : decode cX0_wishBy 20 = .ok (.iaload, 1) := by decide +kernel
theorem dX0_wishBy_21 : decode cX0_wishBy 21 = .ok (.aload_n 0, 1) := by decide +kernel
theorem dX0_wishBy_22 : decode cX0_wishBy 22 = .ok (.getfield 99, 3) := by decide +kernel
theorem dX0_wishBy_25 : decode cX0_wishBy 25 = .ok (.if_icmp .le 5, 3) := by decide +kernel
theorem dX0_wishBy_28 : decode cX0_wishBy 28 = .ok (.iconst 0, 1) := by decide +kernel
theorem dX0_wishBy_29 : decode cX0_wishBy 29 = .ok (.ireturn, 1) := by decide +kernel
theorem dX0_wishBy_30 : decode cX0_wishBy 30 = .ok (.aload_n 0, 1) := by decide +kernel
theorem dX0_wishBy_31 : decode cX0_wishBy 31 = .ok (.getfield 13, 3) := by decide +kernel
theorem dX0_wishBy_34 : decode cX0_wishBy 34 = .ok (.iload_n 2, 1) := by decide +kernel
theorem dX0_wishBy_35 : decode cX0_wishBy 35 = .ok (.iaload, 1) := by decide +kernel
theorem dX0_wishBy_36 : decode cX0_wishBy 36 = .ok (.aload_n 0, 1) := by decide +kernel
theorem dX0_wishBy_37 : decode cX0_wishBy 37 = .ok (.getfield 31, 3) := by decide +kernel
theorem dX0_wishBy_40 : decode cX0_wishBy 40 = .ok (.iload_n 1, 1) := by decide +kernel
theorem dX0_wishBy_41 : decode cX0_wishBy 41 = .ok (.iaload, 1) := by decide +kernel
theorem dX0_wishBy_42 : decode cX0_wishBy 42 = .ok (.invokestatic 145, 3) := by decide +kernel
theorem dX0_wishBy_45 : decode cX0_wishBy 45 = .ok (.ireturn, 1) := by decide +kernel
theorem dX0_moveGranted_0 : decode cX0_moveGranted 0 = .ok (.iconst 0, 1) := by decide +kernel
theorem dX0_moveGranted_1 : decode cX0_moveGranted 1 = .ok (.istore_n 1, 1) := by decide +kernel
theorem dX0_moveGranted_2 : decode cX0_moveGranted 2 = .ok (.iconst 0, 1) := by decide +kernel
theorem dX0_moveGranted_3 : decode cX0_moveGranted 3 = .ok (.istore_n 2, 1) := by decide +kernel
theorem dX0_moveGranted_4 : decode cX0_moveGranted 4 = .ok (.iload_n 2, 1) := by decide +kernel
theorem dX0_moveGranted_5 : decode cX0_moveGranted 5 = .ok (.aload_n 0, 1) := by decide +kernel
theorem dX0_moveGranted_6 : decode cX0_moveGranted 6 = .ok (.getfield 78, 3) := by decide +kernel
theorem dX0_moveGranted_9 : decode cX0_moveGranted 9 = .ok (.if_icmp .ge 96, 3) := by decide +kernel
theorem dX0_moveGranted_12 : decode cX0_moveGranted 12 = .ok (.aload_n 0, 1) := by decide +kernel
theorem dX0_moveGranted_13 : decode cX0_moveGranted 13 = .ok (.getfield 44, 3) := by decide +kernel
theorem dX0_moveGranted_16 : decode cX0_moveGranted 16 = .ok (.iload_n 2, 1) := by decide +kernel
theorem dX0_moveGranted_17 : decode cX0_moveGranted 17 = .ok (.iaload, 1) := by decide +kernel
theorem dX0_moveGranted_18 : decode cX0_moveGranted 18 = .ok (.istore_n 3, 1) := by decide +kernel
theorem dX0_moveGranted_19 : decode cX0_moveGranted 19 = .ok (.aload_n 0, 1) := by decide +kernel
theorem dX0_moveGranted_20 : decode cX0_moveGranted 20 = .ok (.getfield 47, 3) := by decide +kernel
theorem dX0_moveGranted_23 : decode cX0_moveGranted 23 = .ok (.iload_n 2, 1) := by decide +kernel
theorem dX0_moveGranted_24 : decode cX0_moveGranted 24 = .ok (.iaload, 1) := by decide +kernel
theorem dX0_moveGranted_25 : decode cX0_moveGranted 25 = .ok (.istore 4, 2) := by decide +kernel
theorem dX0_moveGranted_27 : decode cX0_moveGranted 27 = .ok (.aload_n 0, 1) := by decide +kernel
theorem dX0_moveGranted_28 : decode cX0_moveGranted 28 = .ok (.iload_n 3, 1) := by decide +kernel
theorem dX0_moveGranted_29 : decode cX0_moveGranted 29 = .ok (.invokevirtual 148, 3) := by decide +kernel
theorem dX0_moveGranted_32 : decode cX0_moveGranted 32 = .ok (.ifCond .eq 67, 3) := by decide +kernel
theorem dX0_moveGranted_35 : decode cX0_moveGranted 35 = .ok (.aload_n 0, 1) := by decide +kernel
theorem dX0_moveGranted_36 : decode cX0_moveGranted 36 = .ok (.iload 4, 2) := by decide +kernel
theorem dX0_moveGranted_38 : decode cX0_moveGranted 38 = .ok (.invokevirtual 148, 3) := by decide +kernel
theorem dX0_moveGranted_41 : decode cX0_moveGranted 41 = .ok (.ifCond .eq 58, 3) := by decide +kernel
theorem dX0_moveGranted_44 : decode cX0_moveGranted 44 = .ok (.aload_n 0, 1) := by decide +kernel
theorem dX0_moveGranted_45 : decode cX0_moveGranted 45 = .ok (.getfield 13, 3) := by decide +kernel
theorem dX0_moveGranted_48 : decode cX0_moveGranted 48 = .ok (.iload_n 3, 1) := by decide +kernel
theorem dX0_moveGranted_49 : decode cX0_moveGranted 49 = .ok (.dup2, 1) := by decide +kernel
theorem dX0_moveGranted_50 : decode cX0_moveGranted 50 = .ok (.iaload, 1) := by decide +kernel
theorem dX0_moveGranted_51 : decode cX0_moveGranted 51 = .ok (.aload_n 0, 1) := by decide +kernel
theorem dX0_moveGranted_52 : decode cX0_moveGranted 52 = .ok (.getfield 50, 3) := by decide +kernel
theorem dX0_moveGranted_55 : decode cX0_moveGranted 55 = .ok (.iload_n 2, 1) := by decide +kernel
theorem dX0_moveGranted_56 : decode cX0_moveGranted 56 = .ok (.iaload, 1) := by decide +kernel
theorem dX0_moveGranted_57 : decode cX0_moveGranted 57 = .ok (.isub, 1) := by decide +kernel
theorem dX0_moveGranted_58 : decode cX0_moveGranted 58 = .ok (.iastore, 1) := by decide +kernel
theorem dX0_moveGranted_59 : decode cX0_moveGranted 59 = .ok (.aload_n 0, 1) := by decide +kernel
theorem dX0_moveGranted_60 : decode cX0_moveGranted 60 = .ok (.getfield 13, 3) := by decide +kernel
theorem dX0_moveGranted_63 : decode cX0_moveGranted 63 = .ok (.iload 4, 2) := by decide +kernel
theorem dX0_moveGranted_65 : decode cX0_moveGranted 65 = .ok (.dup2, 1) := by decide +kernel
theorem dX0_moveGranted_66 : decode cX0_moveGranted 66 = .ok (.iaload, 1) := by decide +kernel
theorem dX0_moveGranted_67 : decode cX0_moveGranted 67 = .ok (.aload_n 0, 1) := by decide +kernel
theorem dX0_moveGranted_68 : decode cX0_moveGranted 68 = .ok (.getfield 50, 3) := by decide +kernel
theorem dX0_moveGranted_71 : decode cX0_moveGranted 71 = .ok (.iload_n 2, 1) := by decide +kernel
theorem dX0_moveGranted_72 : decode cX0_moveGranted 72 = .ok (.iaload, 1) := by decide +kernel
theorem dX0_moveGranted_73 : decode cX0_moveGranted 73 = .ok (.iadd, 1) := by decide +kernel
theorem dX0_moveGranted_74 : decode cX0_moveGranted 74 = .ok (.iastore, 1) := by decide +kernel
theorem dX0_moveGranted_75 : decode cX0_moveGranted 75 = .ok (.aload_n 0, 1) := by decide +kernel
theorem dX0_moveGranted_76 : decode cX0_moveGranted 76 = .ok (.getfield 41, 3) := by decide +kernel
theorem dX0_moveGranted_79 : decode cX0_moveGranted 79 = .ok (.iload_n 2, 1) := by decide +kernel
theorem dX0_moveGranted_80 : decode cX0_moveGranted 80 = .ok (.dup2, 1) := by decide +kernel
theorem dX0_moveGranted_81 : decode cX0_moveGranted 81 = .ok (.iaload, 1) := by decide +kernel
theorem dX0_moveGranted_82 : decode cX0_moveGranted 82 = .ok (.aload_n 0, 1) := by decide +kernel
theorem dX0_moveGranted_83 : decode cX0_moveGranted 83 = .ok (.getfield 50, 3) := by decide +kernel
theorem dX0_moveGranted_86 : decode cX0_moveGranted 86 = .ok (.iload_n 2, 1) := by decide +kernel
theorem dX0_moveGranted_87 : decode cX0_moveGranted 87 = .ok (.iaload, 1) := by decide +kernel
theorem dX0_moveGranted_88 : decode cX0_moveGranted 88 = .ok (.iadd, 1) := by decide +kernel
theorem dX0_moveGranted_89 : decode cX0_moveGranted 89 = .ok (.iastore, 1) := by decide +kernel
theorem dX0_moveGranted_90 : decode cX0_moveGranted 90 = .ok (.iload_n 1, 1) := by decide +kernel
theorem dX0_moveGranted_91 : decode cX0_moveGranted 91 = .ok (.aload_n 0, 1) := by decide +kernel
theorem dX0_moveGranted_92 : decode cX0_moveGranted 92 = .ok (.getfield 50, 3) := by decide +kernel
theorem dX0_moveGranted_95 : decode cX0_moveGranted 95 = .ok (.iload_n 2, 1) := by decide +kernel
theorem dX0_moveGranted_96 : decode cX0_moveGranted 96 = .ok (.iaload, 1) := by decide +kernel
theorem dX0_moveGranted_97 : decode cX0_moveGranted 97 = .ok (.iadd, 1) := by decide +kernel
theorem dX0_moveGranted_98 : decode cX0_moveGranted 98 = .ok (.istore_n 1, 1) := by decide +kernel
theorem dX0_moveGranted_99 : decode cX0_moveGranted 99 = .ok (.iinc 2 1, 3) := by decide +kernel
theorem dX0_moveGranted_102 : decode cX0_moveGranted 102 = .ok (.goto (-98), 3) := by decide +kernel
theorem dX0_moveGranted_105 : decode cX0_moveGranted 105 = .ok (.iload_n 1, 1) := by decide +kernel
theorem dX0_moveGranted_106 : decode cX0_moveGranted 106 = .ok (.ireturn, 1) := by decide +kernel
theorem dX0_roomLeft_0 : decode cX0_roomLeft 0 = .ok (.iload_n 1, 1) := by decide +kernel
theorem dX0_roomLeft_1 : decode cX0_roomLeft 1 = .ok (.ifCond .ne 8, 3) := by decide +kernel
theorem dX0_roomLeft_4 : decode cX0_roomLeft 4 = .ok (.ldc 151, 2) := by decide +kernel
theorem dX0_roomLeft_6 : decode cX0_roomLeft 6 = .ok (.goto 16, 3) := by decide +kernel
theorem dX0_roomLeft_9 : decode cX0_roomLeft 9 = .ok (.aload_n 0, 1) := by decide +kernel
theorem dX0_roomLeft_10 : decode cX0_roomLeft 10 = .ok (.getfield 9, 3) := by decide +kernel
theorem dX0_roomLeft_13 : decode cX0_roomLeft 13 = .ok (.iload_n 1, 1) := by decide +kernel
theorem dX0_roomLeft_14 : decode cX0_roomLeft 14 = .ok (.iaload, 1) := by decide +kernel
theorem dX0_roomLeft_15 : decode cX0_roomLeft 15 = .ok (.aload_n 0, 1) := by decide +kernel
theorem dX0_roomLeft_16 : decode cX0_roomLeft 16 = .ok (.getfield 13, 3) := by decide +kernel
theorem dX0_roomLeft_19 : decode cX0_roomLeft 19 = .ok (.iload_n 1, 1) := by decide +kernel
theorem dX0_roomLeft_20 : decode cX0_roomLeft 20 = .ok (.iaload, 1) := by decide +kernel
theorem dX0_roomLeft_21 : decode cX0_roomLeft 21 = .ok (.isub, 1) := by decide +kernel
theorem dX0_roomLeft_22 : decode cX0_roomLeft 22 = .ok (.ireturn, 1) := by decide +kernel
theorem dX0_areAllReleased_0 : decode cX0_areAllReleased 0 = .ok (.iconst 0, 1) := by decide +kernel
theorem dX0_areAllReleased_1 : decode cX0_areAllReleased 1 = .ok (.istore_n 1, 1) := by decide +kernel
theorem dX0_areAllReleased_2 : decode cX0_areAllReleased 2 = .ok (.iload_n 1, 1) := by decide +kernel
theorem dX0_areAllReleased_3 : decode cX0_areAllReleased 3 = .ok (.aload_n 0, 1) := by decide +kernel
theorem dX0_areAllReleased_4 : decode cX0_areAllReleased 4 = .ok (.getfield 53, 3) := by decide +kernel
theorem dX0_areAllReleased_7 : decode cX0_areAllReleased 7 = .ok (.if_icmp .ge 24, 3) := by decide +kernel
theorem dX0_areAllReleased_10 : decode cX0_areAllReleased 10 = .ok (.aload_n 0, 1) := by decide +kernel
theorem dX0_areAllReleased_11 : decode cX0_areAllReleased 11 = .ok (.getfield 16, 3) := by decide +kernel
theorem dX0_areAllReleased_14 : decode cX0_areAllReleased 14 = .ok (.iload_n 1, 1) := by decide +kernel
theorem dX0_areAllReleased_15 : decode cX0_areAllReleased 15 = .ok (.iaload, 1) := by decide +kernel
theorem dX0_areAllReleased_16 : decode cX0_areAllReleased 16 = .ok (.aload_n 0, 1) := by decide +kernel
theorem dX0_areAllReleased_17 : decode cX0_areAllReleased 17 = .ok (.getfield 99, 3) := by decide +kernel
theorem dX0_areAllReleased_20 : decode cX0_areAllReleased 20 = .ok (.if_icmp .le 5, 3) := by decide +kernel
theorem dX0_areAllReleased_23 : decode cX0_areAllReleased 23 = .ok (.iconst 0, 1) := by decide +kernel
theorem dX0_areAllReleased_24 : decode cX0_areAllReleased 24 = .ok (.ireturn, 1) := by decide +kernel
theorem dX0_areAllReleased_25 : decode cX0_areAllReleased 25 = .ok (.iinc 1 1, 3) := by decide +kernel
theorem dX0_areAllReleased_28 : decode cX0_areAllReleased 28 = .ok (.goto (-26), 3) := by decide +kernel
theorem dX0_areAllReleased_31 : decode cX0_areAllReleased 31 = .ok (.iconst 1, 1) := by decide +kernel
theorem dX0_areAllReleased_32 : decode cX0_areAllReleased 32 = .ok (.ireturn, 1) := by decide +kernel
theorem dX0_findWays_0 : decode cX0_findWays 0 = .ok (.aload_n 0, 1) := by decide +kernel
theorem dX0_findWays_1 : decode cX0_findWays 1 = .ok (.invokevirtual 152, 3) := by decide +kernel
theorem dX0_findWays_4 : decode cX0_findWays 4 = .ok (.iconst 0, 1) := by decide +kernel
theorem dX0_findWays_5 : decode cX0_findWays 5 = .ok (.istore_n 1, 1) := by decide +kernel
theorem dX0_findWays_6 : decode cX0_findWays 6 = .ok (.iload_n 1, 1) := by decide +kernel
theorem dX0_findWays_7 : decode cX0_findWays 7 = .ok (.aload_n 0, 1) := by decide +kernel
theorem dX0_findWays_8 : decode cX0_findWays 8 = .ok (.getfield 53, 3) := by decide +kernel
theorem dX0_findWays_11 : decode cX0_findWays 11 = .ok (.if_icmp .ge 16, 3) := by decide +kernel
theorem dX0_findWays_14 : decode cX0_findWays 14 = .ok (.aload_n 0, 1) := by decide +kernel
theorem dX0_findWays_15 : decode cX0_findWays 15 = .ok (.getfield 22, 3) := by decide +kernel
theorem dX0_findWays_18 : decode cX0_findWays 18 = .ok (.iload_n 1, 1) := by decide +kernel
theorem dX0_findWays_19 : decode cX0_findWays 19 = .ok (.iconst (-1), 1) := by decide +kernel
theorem dX0_findWays_20 : decode cX0_findWays 20 = .ok (.iastore, 1) := by decide +kernel
theorem dX0_findWays_21 : decode cX0_findWays 21 = .ok (.iinc 1 1, 3) := by decide +kernel
theorem dX0_findWays_24 : decode cX0_findWays 24 = .ok (.goto (-18), 3) := by decide +kernel
theorem dX0_findWays_27 : decode cX0_findWays 27 = .ok (.iconst 0, 1) := by decide +kernel
theorem dX0_findWays_28 : decode cX0_findWays 28 = .ok (.istore_n 1, 1) := by decide +kernel
theorem dX0_findWays_29 : decode cX0_findWays 29 = .ok (.iload_n 1, 1) := by decide +kernel
theorem dX0_findWays_30 : decode cX0_findWays 30 = .ok (.aload_n 0, 1) := by decide +kernel
theorem dX0_findWays_31 : decode cX0_findWays 31 = .ok (.getfield 78, 3) := by decide +kernel
theorem dX0_findWays_34 : decode cX0_findWays 34 = .ok (.if_icmp .ge 57, 3) := by decide +kernel
theorem dX0_findWays_37 : decode cX0_findWays 37 = .ok (.aload_n 0, 1) := by decide +kernel
theorem dX0_findWays_38 : decode cX0_findWays 38 = .ok (.getfield 44, 3) := by decide +kernel
theorem dX0_findWays_41 : decode cX0_findWays 41 = .ok (.iload_n 1, 1) := by decide +kernel
theorem dX0_findWays_42 : decode cX0_findWays 42 = .ok (.iconst (-1), 1) := by decide +kernel
theorem dX0_findWays_43 : decode cX0_findWays 43 = .ok (.iastore, 1) := by decide +kernel
theorem dX0_findWays_44 : decode cX0_findWays 44 = .ok (.aload_n 0, 1) := by decide +kernel
theorem dX0_findWays_45 : decode cX0_findWays 45 = .ok (.getfield 47, 3) := by decide +kernel
theorem dX0_findWays_48 : decode cX0_findWays 48 = .ok (.iload_n 1, 1) := by decide +kernel
theorem dX0_findWays_49 : decode cX0_findWays 49 = .ok (.iconst (-1), 1) := by decide +kernel
theorem dX0_findWays_50 : decode cX0_findWays 50 = .ok (.iastore, 1) := by decide +kernel
theorem dX0_findWays_51 : decode cX0_findWays 51 = .ok (.aload_n 0, 1) := by decide +kernel
theorem dX0_findWays_52 : decode cX0_findWays 52 = .ok (.iload_n 1, 1) := by decide +kernel
theorem dX0_findWays_53 : decode cX0_findWays 53 = .ok (.aload_n 0, 1) := by decide +kernel
theorem dX0_findWays_54 : decode cX0_findWays 54 = .ok (.getfield 25, 3) := by decide +kernel
theorem dX0_findWays_57 : decode cX0_findWays 57 = .ok (.iload_n 1, 1) := by decide +kernel
theorem dX0_findWays_58 : decode cX0_findWays 58 = .ok (.iaload, 1) := by decide +kernel
theorem dX0_findWays_59 : decode cX0_findWays 59 = .ok (.aload_n 0, 1) := by decide +kernel
theorem dX0_findWays_60 : decode cX0_findWays 60 = .ok (.getfield 28, 3) := by decide +kernel
theorem dX0_findWays_63 : decode cX0_findWays 63 = .ok (.iload_n 1, 1) := by decide +kernel
theorem dX0_findWays_64 : decode cX0_findWays 64 = .ok (.iaload, 1) := by decide +kernel
theorem dX0_findWays_65 : decode cX0_findWays 65 = .ok (.invokevirtual 155, 3) := by decide +kernel
theorem dX0_findWays_68 : decode cX0_findWays 68 = .ok (.aload_n 0, 1) := by decide +kernel
theorem dX0_findWays_69 : decode cX0_findWays 69 = .ok (.iload_n 1, 1) := by decide +kernel
theorem dX0_findWays_70 : decode cX0_findWays 70 = .ok (.aload_n 0, 1) := by decide +kernel
theorem dX0_findWays_71 : decode cX0_findWays 71 = .ok (.getfield 28, 3) := by decide +kernel
theorem dX0_findWays_74 : decode cX0_findWays 74 = .ok (.iload_n 1, 1) := by decide +kernel
theorem dX0_findWays_75 : decode cX0_findWays 75 = .ok (.iaload, 1) := by decide +kernel
theorem dX0_findWays_76 : decode cX0_findWays 76 = .ok (.aload_n 0, 1) := by decide +kernel
theorem dX0_findWays_77 : decode cX0_findWays 77 = .ok (.getfield 25, 3) := by decide +kernel
theorem dX0_findWays_80 : decode cX0_findWays 80 = .ok (.iload_n 1, 1) := by decide +kernel
theorem dX0_findWays_81 : decode cX0_findWays 81 = .ok (.iaload, 1) := by decide +kernel
theorem dX0_findWays_82 : decode cX0_findWays 82 = .ok (.invokevirtual 155, 3) := by decide +kernel
theorem dX0_findWays_85 : decode cX0_findWays 85 = .ok (.iinc 1 1, 3) := by decide +kernel
theorem dX0_findWays_88 : decode cX0_findWays 88 = .ok (.goto (-59), 3) := by decide +kernel
theorem dX0_findWays_91 : decode cX0_findWays 91 = .ok (.return_, 1) := by decide +kernel
theorem dX0_measureDistances_0 : decode cX0_measureDistances 0 = .ok (.aload_n 0, 1) := by decide +kernel
theorem dX0_measureDistances_1 : decode cX0_measureDistances 1 = .ok (.getfield 19, 3) := by decide +kernel
theorem dX0_measureDistances_4 : decode cX0_measureDistances 4 = .ok (.iconst 0, 1) := by decide +kernel
theorem dX0_measureDistances_5 : decode cX0_measureDistances 5 = .ok (.iconst 0, 1) := by decide +kernel
theorem dX0_measureDistances_6 : decode cX0_measureDistances 6 = .ok (.iastore, 1) := by decide +kernel
theorem dX0_measureDistances_7 : decode cX0_measureDistances 7 = .ok (.iconst 1, 1) := by decide +kernel
theorem dX0_measureDistances_8 : decode cX0_measureDistances 8 = .ok (.istore_n 1, 1) := by decide +kernel
theorem dX0_measureDistances_9 : decode cX0_measureDistances 9 = .ok (.iload_n 1, 1) := by decide +kernel
theorem dX0_measureDistances_10 : decode cX0_measureDistances 10 = .ok (.aload_n 0, 1) := by decide +kernel
theorem dX0_measureDistances_11 : decode cX0_measureDistances 11 = .ok (.getfield 53, 3) := by decide +kernel
theorem dX0_measureDistances_14 : decode cX0_measureDistances 14 = .ok (.if_icmp .ge 16, 3) := by decide +kernel
theorem dX0_measureDistances_17 : decode cX0_measureDistances 17 = .ok (.aload_n 0, 1) := by decide +kernel
theorem dX0_measureDistances_18 : decode cX0_measureDistances 18 = .ok (.getfield 19, 3) := by decide +kernel
theorem dX0_measureDistances_21 : decode cX0_measureDistances 21 = .ok (.iload_n 1, 1) := by decide +kernel
theorem dX0_measureDistances_22 : decode cX0_measureDistances 22 = .ok (.iconst (-1), 1) := by decide +kernel
theorem dX0_measureDistances_23 : decode cX0_measureDistances 23 = .ok (.iastore, 1) := by decide +kernel
theorem dX0_measureDistances_24 : decode cX0_measureDistances 24 = .ok (.iinc 1 1, 3) := by decide +kernel
theorem dX0_measureDistances_27 : decode cX0_measureDistances 27 = .ok (.goto (-18), 3) := by decide +kernel
theorem dX0_measureDistances_30 : decode cX0_measureDistances 30 = .ok (.iconst 1, 1) := by decide +kernel
theorem dX0_measureDistances_31 : decode cX0_measureDistances 31 = .ok (.istore_n 1, 1) := by decide +kernel
theorem dX0_measureDistances_32 : decode cX0_measureDistances 32 = .ok (.iload_n 1, 1) := by decide +kernel
theorem dX0_measureDistances_33 : decode cX0_measureDistances 33 = .ok (.aload_n 0, 1) := by decide +kernel
theorem dX0_measureDistances_34 : decode cX0_measureDistances 34 = .ok (.getfield 53, 3) := by decide +kernel
theorem dX0_measureDistances_37 : decode cX0_measureDistances 37 = .ok (.if_icmp .ge 68, 3) := by decide +kernel
theorem dX0_measureDistances_40 : decode cX0_measureDistances 40 = .ok (.iconst 0, 1) := by decide +kernel
theorem dX0_measureDistances_41 : decode cX0_measureDistances 41 = .ok (.istore_n 2, 1) := by decide +kernel
theorem dX0_measureDistances_42 : decode cX0_measureDistances 42 = .ok (.iload_n 2, 1) := by decide +kernel
theorem dX0_measureDistances_43 : decode cX0_measureDistances 43 = .ok (.aload_n 0, 1) := by decide +kernel
theorem dX0_measureDistances_44 : decode cX0_measureDistances 44 = .ok (.getfield 78, 3) := by decide +kernel
theorem dX0_measureDistances_47 : decode cX0_measureDistances 47 = .ok (.if_icmp .ge 52, 3) := by decide +kernel
theorem dX0_measureDistances_50 : decode cX0_measureDistances 50 = .ok (.aload_n 0, 1) := by decide +kernel
theorem dX0_measureDistances_51 : decode cX0_measureDistances 51 = .ok (.getfield 37, 3) := by decide +kernel
theorem dX0_measureDistances_54 : decode cX0_measureDistances 54 = .ok (.iload_n 2, 1) := by decide +kernel
theorem dX0_measureDistances_55 : decode cX0_measureDistances 55 = .ok (.baload, 1) := by decide +kernel
theorem dX0_measureDistances_56 : decode cX0_measureDistances 56 = .ok (.ifCond .eq 37, 3) := by decide +kernel
theorem dX0_measureDistances_59 : decode cX0_measureDistances 59 = .ok (.aload_n 0, 1) := by decide +kernel
theorem dX0_measureDistances_60 : decode cX0_measureDistances 60 = .ok (.aload_n 0, 1) := by decide +kernel
theorem dX0_measureDistances_61 : decode cX0_measureDistances 61 = .ok (.getfield 25, 3) := by decide +kernel
theorem dX0_measureDistances_64 : decode cX0_measureDistances 64 = .ok (.iload_n 2, 1) := by decide +kernel
theorem dX0_measureDistances_65 : decode cX0_measureDistances 65 = .ok (.iaload, 1) := by decide +kernel
theorem dX0_measureDistances_66 : decode cX0_measureDistances 66 = .ok (.aload_n 0, 1) := by decide +kernel
theorem dX0_measureDistances_67 : decode cX0_measureDistances 67 = .ok (.getfield 28, 3) := by decide +kernel
theorem dX0_measureDistances_70 : decode cX0_measureDistances 70 = .ok (.iload_n 2, 1) := by decide +kernel
theorem dX0_measureDistances_71 : decode cX0_measureDistances 71 = .ok (.iaload, 1) := by decide +kernel
theorem dX0_measureDistances_72 : decode cX0_measureDistances 72 = .ok (.iload_n 1, 1) := by decide +kernel
theorem dX0_measureDistances_73 : decode cX0_measureDistances 73 = .ok (.invokevirtual 159, 3) := by decide +kernel
theorem dX0_measureDistances_76 : decode cX0_measureDistances 76 = .ok (.aload_n 0, 1) := by decide +kernel
theorem dX0_measureDistances_77 : decode cX0_measureDistances 77 = .ok (.aload_n 0, 1) := by decide +kernel
theorem dX0_measureDistances_78 : decode cX0_measureDistances 78 = .ok (.getfield 28, 3) := by decide +kernel
theorem dX0_measureDistances_81 : decode cX0_measureDistances 81 = .ok (.iload_n 2, 1) := by decide +kernel
theorem dX0_measureDistances_82 : decode cX0_measureDistances 82 = .ok (.iaload, 1) := by decide +kernel
theorem dX0_measureDistances_83 : decode cX0_measureDistances 83 = .ok (.aload_n 0, 1) := by decide +kernel
theorem dX0_measureDistances_84 : decode cX0_measureDistances 84 = .ok (.getfield 25, 3) := by decide +kernel
theorem dX0_measureDistances_87 : decode cX0_measureDistances 87 = .ok (.iload_n 2, 1) := by decide +kernel
theorem dX0_measureDistances_88 : decode cX0_measureDistances 88 = .ok (.iaload, 1) := by decide +kernel
theorem dX0_measureDistances_89 : decode cX0_measureDistances 89 = .ok (.iload_n 1, 1) := by decide +kernel
theorem dX0_measureDistances_90 : decode cX0_measureDistances 90 = .ok (.invokevirtual 159, 3) := by decide +kernel
theorem dX0_measureDistances_93 : decode cX0_measureDistances 93 = .ok (.iinc 2 1, 3) := by decide +kernel
theorem dX0_measureDistances_96 : decode cX0_measureDistances 96 = .ok (.goto (-54), 3) := by decide +kernel
theorem dX0_measureDistances_99 : decode cX0_measureDistances 99 = .ok (.iinc 1 1, 3) := by decide +kernel
theorem dX0_measureDistances_102 : decode cX0_measureDistances 102 = .ok (.goto (-70), 3) := by decide +kernel
theorem dX0_measureDistances_105 : decode cX0_measureDistances 105 = .ok (.return_, 1) := by decide +kernel
theorem dX0_reach_0 : decode cX0_reach 0 = .ok (.aload_n 0, 1) := by decide +kernel
theorem dX0_reach_1 : decode cX0_reach 1 = .ok (.getfield 19, 3) := by decide +kernel
theorem dX0_reach_4 : decode cX0_reach 4 = .ok (.iload_n 1, 1) := by decide +kernel
theorem dX0_reach_5 : decode cX0_reach 5 = .ok (.iaload, 1) := by decide +kernel
theorem dX0_reach_6 : decode cX0_reach 6 = .ok (.iconst (-1), 1) := by decide +kernel
theorem dX0_reach_7 : decode cX0_reach 7 = .ok (.if_icmp .ne 22, 3) := by decide +kernel
theorem dX0_reach_10 : decode cX0_reach 10 = .ok (.aload_n 0, 1) := by decide +kernel
theorem dX0_reach_11 : decode cX0_reach 11 = .ok (.getfield 19, 3) := by decide +kernel
theorem dX0_reach_14 : decode cX0_reach 14 = .ok (.iload_n 2, 1) := by decide +kernel
theorem dX0_reach_15 : decode cX0_reach 15 = .ok (.iaload, 1) := by decide +kernel
theorem dX0_reach_16 : decode cX0_reach 16 = .ok (.iload_n 3, 1) := by decide +kernel
theorem dX0_reach_17 : decode cX0_reach 17 = .ok (.iconst 1, 1) := by decide +kernel
theorem dX0_reach_18 : decode cX0_reach 18 = .ok (.isub, 1) := by decide +kernel
theorem dX0_reach_19 : decode cX0_reach 19 = .ok (.if_icmp .ne 10, 3) := by decide +kernel
theorem dX0_reach_22 : decode cX0_reach 22 = .ok (.aload_n 0, 1) := by decide +kernel
theorem dX0_reach_23 : decode cX0_reach 23 = .ok (.getfield 19, 3) := by decide +kernel
theorem dX0_reach_26 : decode cX0_reach 26 = .ok (.iload_n 1, 1) := by decide +kernel
theorem dX0_reach_27 : decode cX0_reach 27 = .ok (.iload_n 3, 1) := by decide +kernel
theorem dX0_reach_28 : decode cX0_reach 28 = .ok (.iastore, 1) := by decide +kernel
theorem dX0_reach_29 : decode cX0_reach 29 = .ok (.return_, 1) := by decide +kernel
theorem dX0_offerDoor_0 : decode cX0_offerDoor 0 = .ok (.aload_n 0, 1) := by decide +kernel
theorem dX0_offerDoor_1 : decode cX0_offerDoor 1 = .ok (.getfield 37, 3) := by decide +kernel
theorem dX0_offerDoor_4 : decode cX0_offerDoor 4 = .ok (.iload_n 1, 1) := by decide +kernel
theorem dX0_offerDoor_5 : decode cX0_offerDoor 5 = .ok (.baload, 1) := by decide +kernel
theorem dX0_offerDoor_6 : decode cX0_offerDoor 6 = .ok (.ifCond .eq 34, 3) := by decide +kernel
theorem dX0_offerDoor_9 : decode cX0_offerDoor 9 = .ok (.aload_n 0, 1) := by decide +kernel
theorem dX0_offerDoor_10 : decode cX0_offerDoor 10 = .ok (.getfield 19, 3) := by decide +kernel
theorem dX0_offerDoor_13 : decode cX0_offerDoor 13 = .ok (.iload_n 2, 1) := by decide +kernel
theorem dX0_offerDoor_14 : decode cX0_offerDoor 14 = .ok (.iaload, 1) := by decide +kernel
theorem dX0_offerDoor_15 : decode cX0_offerDoor 15 = .ok (.iconst 1, 1) := by decide +kernel
theorem dX0_offerDoor_16 : decode cX0_offerDoor 16 = .ok (.if_icmp .lt 24, 3) := by decide +kernel
theorem dX0_offerDoor_19 : decode cX0_offerDoor 19 = .ok (.aload_n 0, 1) := by decide +kernel
theorem dX0_offerDoor_20 : decode cX0_offerDoor 20 = .ok (.getfield 19, 3) := by decide +kernel
theorem dX0_offerDoor_23 : decode cX0_offerDoor 23 = .ok (.iload_n 3, 1) := by decide +kernel
theorem dX0_offerDoor_24 : decode cX0_offerDoor 24 = .ok (.iaload, 1) := by decide +kernel
theorem dX0_offerDoor_25 : decode cX0_offerDoor 25 = .ok (.aload_n 0, 1) := by decide +kernel
theorem dX0_offerDoor_26 : decode cX0_offerDoor 26 = .ok (.getfield 19, 3) := by decide +kernel
theorem dX0_offerDoor_29 : decode cX0_offerDoor 29 = .ok (.iload_n 2, 1) := by decide +kernel
theorem dX0_offerDoor_30 : decode cX0_offerDoor 30 = .ok (.iaload, 1) := by decide +kernel
theorem dX0_offerDoor_31 : decode cX0_offerDoor 31 = .ok (.iconst 1, 1) := by decide +kernel
theorem dX0_offerDoor_32 : decode cX0_offerDoor 32 = .ok (.isub, 1) := by decide +kernel
theorem dX0_offerDoor_33 : decode cX0_offerDoor 33 = .ok (.if_icmp .ne 7, 3) := by decide +kernel
theorem dX0_offerDoor_36 : decode cX0_offerDoor 36 = .ok (.iconst 1, 1) := by decide +kernel
theorem dX0_offerDoor_37 : decode cX0_offerDoor 37 = .ok (.goto 4, 3) := by decide +kernel
theorem dX0_offerDoor_40 : decode cX0_offerDoor 40 = .ok (.iconst 0, 1) := by decide +kernel
theorem dX0_offerDoor_41 : decode cX0_offerDoor 41 = .ok (.istore 4, 2) := by decide +kernel
theorem dX0_offerDoor_43 : decode cX0_offerDoor 43 = .ok (.iload 4, 2) := by decide +kernel
theorem dX0_offerDoor_45 : decode cX0_offerDoor 45 = .ok (.ifCond .eq 34, 3) := by decide +kernel
theorem dX0_offerDoor_48 : decode cX0_offerDoor 48 = .ok (.aload_n 0, 1) := by decide +kernel
theorem dX0_offerDoor_49 : decode cX0_offerDoor 49 = .ok (.getfield 22, 3) := by decide +kernel
theorem dX0_offerDoor_52 : decode cX0_offerDoor 52 = .ok (.iload_n 2, 1) := by decide +kernel
theorem dX0_offerDoor_53 : decode cX0_offerDoor 53 = .ok (.iaload, 1) := by decide +kernel
theorem dX0_offerDoor_54 : decode cX0_offerDoor 54 = .ok (.iconst (-1), 1) := by decide +kernel
theorem dX0_offerDoor_55 : decode cX0_offerDoor 55 = .ok (.if_icmp .ne 24, 3) := by decide +kernel
theorem dX0_offerDoor_58 : decode cX0_offerDoor 58 = .ok (.aload_n 0, 1) := by decide +kernel
theorem dX0_offerDoor_59 : decode cX0_offerDoor 59 = .ok (.getfield 22, 3) := by decide +kernel
theorem dX0_offerDoor_62 : decode cX0_offerDoor 62 = .ok (.iload_n 2, 1) := by decide +kernel
theorem dX0_offerDoor_63 : decode cX0_offerDoor 63 = .ok (.iload_n 1, 1) := by decide +kernel
theorem dX0_offerDoor_64 : decode cX0_offerDoor 64 = .ok (.iastore, 1) := by decide +kernel
theorem dX0_offerDoor_65 : decode cX0_offerDoor 65 = .ok (.aload_n 0, 1) := by decide +kernel
theorem dX0_offerDoor_66 : decode cX0_offerDoor 66 = .ok (.getfield 44, 3) := by decide +kernel
theorem dX0_offerDoor_69 : decode cX0_offerDoor 69 = .ok (.iload_n 1, 1) := by decide +kernel
theorem dX0_offerDoor_70 : decode cX0_offerDoor 70 = .ok (.iload_n 2, 1) := by decide +kernel
theorem dX0_offerDoor_71 : decode cX0_offerDoor 71 = .ok (.iastore, 1) := by decide +kernel
theorem dX0_offerDoor_72 : decode cX0_offerDoor 72 = .ok (.aload_n 0, 1) := by decide +kernel
theorem dX0_offerDoor_73 : decode cX0_offerDoor 73 = .ok (.getfield 47, 3) := by decide +kernel
theorem dX0_offerDoor_76 : decode cX0_offerDoor 76 = .ok (.iload_n 1, 1) := by decide +kernel
theorem dX0_offerDoor_77 : decode cX0_offerDoor 77 = .ok (.iload_n 3, 1) := by decide +kernel
theorem dX0_offerDoor_78 : decode cX0_offerDoor 78 = .ok (.iastore, 1) := by decide +kernel
theorem dX0_offerDoor_79 : decode cX0_offerDoor 79 = .ok (.return_, 1) := by decide +kernel
theorem dX0_isPlace_0 : decode cX0_isPlace 0 = .ok (.iload_n 1, 1) := by decide +kernel
theorem dX0_isPlace_1 : decode cX0_isPlace 1 = .ok (.ifCond .lt 15, 3) := by decide +kernel
theorem dX0_isPlace_4 : decode cX0_isPlace 4 = .ok (.iload_n 1, 1) := by decide +kernel
theorem dX0_isPlace_5 : decode cX0_isPlace 5 = .ok (.aload_n 0, 1) := by decide +kernel
theorem dX0_isPlace_6 : decode cX0_isPlace 6 = .ok (.getfield 53, 3) := by decide +kernel
theorem dX0_isPlace_9 : decode cX0_isPlace 9 = .ok (.if_icmp .ge 7, 3) := by decide +kernel
theorem dX0_isPlace_12 : decode cX0_isPlace 12 = .ok (.iconst 1, 1) := by decide +kernel
theorem dX0_isPlace_13 : decode cX0_isPlace 13 = .ok (.goto 4, 3) := by decide +kernel
theorem dX0_isPlace_16 : decode cX0_isPlace 16 = .ok (.iconst 0, 1) := by decide +kernel
theorem dX0_isPlace_17 : decode cX0_isPlace 17 = .ok (.ireturn, 1) := by decide +kernel
theorem dX0_isDoor_0 : decode cX0_isDoor 0 = .ok (.iload_n 1, 1) := by decide +kernel
theorem dX0_isDoor_1 : decode cX0_isDoor 1 = .ok (.ifCond .lt 15, 3) := by decide +kernel
theorem dX0_isDoor_4 : decode cX0_isDoor 4 = .ok (.iload_n 1, 1) := by decide +kernel
theorem dX0_isDoor_5 : decode cX0_isDoor 5 = .ok (.aload_n 0, 1) := by decide +kernel
theorem dX0_isDoor_6 : decode cX0_isDoor 6 = .ok (.getfield 78, 3) := by decide +kernel
theorem dX0_isDoor_9 : decode cX0_isDoor 9 = .ok (.if_icmp .ge 7, 3) := by decide +kernel
theorem dX0_isDoor_12 : decode cX0_isDoor 12 = .ok (.iconst 1, 1) := by decide +kernel
theorem dX0_isDoor_13 : decode cX0_isDoor 13 = .ok (.goto 4, 3) := by decide +kernel
theorem dX0_isDoor_16 : decode cX0_isDoor 16 = .ok (.iconst 0, 1) := by decide +kernel
theorem dX0_isDoor_17 : decode cX0_isDoor 17 = .ok (.ireturn, 1) := by decide +kernel
theorem dX0_isBetween_0 : decode cX0_isBetween 0 = .ok (.iload_n 0, 1) := by decide +kernel
theorem dX0_isBetween_1 : decode cX0_isBetween 1 = .ok (.iload_n 1, 1) := by decide +kernel
theorem dX0_isBetween_2 : decode cX0_isBetween 2 = .ok (.if_icmp .lt 12, 3) := by decide +kernel
theorem dX0_isBetween_5 : decode cX0_isBetween 5 = .ok (.iload_n 0, 1) := by decide +kernel
theorem dX0_isBetween_6 : decode cX0_isBetween 6 = .ok (.iload_n 2, 1) := by decide +kernel
theorem dX0_isBetween_7 : decode cX0_isBetween 7 = .ok (.if_icmp .gt 7, 3) := by decide +kernel
theorem dX0_isBetween_10 : decode cX0_isBetween 10 = .ok (.iconst 1, 1) := by decide +kernel
theorem dX0_isBetween_11 : decode cX0_isBetween 11 = .ok (.goto 4, 3) := by decide +kernel
theorem dX0_isBetween_14 : decode cX0_isBetween 14 = .ok (.iconst 0, 1) := by decide +kernel
theorem dX0_isBetween_15 : decode cX0_isBetween 15 = .ok (.ireturn, 1) := by decide +kernel
theorem dX0_requirePlace_0 : decode cX0_requirePlace 0 = .ok (.aload_n 0, 1) := by decide +kernel
theorem dX0_requirePlace_1 : decode cX0_requirePlace 1 = .ok (.iload_n 1, 1) := by decide +kernel
theorem dX0_requirePlace_2 : decode cX0_requirePlace 2 = .ok (.invokevirtual 148, 3) := by decide +kernel
theorem dX0_requirePlace_5 : decode cX0_requirePlace 5 = .ok (.ifCond .ne 13, 3) := by decide +kernel
theorem dX0_requirePlace_8 : decode cX0_requirePlace 8 = .ok (.new 162, 3) := by decide +kernel
theorem dX0_requirePlace_11 : decode cX0_requirePlace 11 = .ok (.dup, 1) := by decide +kernel
theorem dX0_requirePlace_12 : decode cX0_requirePlace 12 = .ok (.ldc 164, 2) := by decide +kernel
theorem dX0_requirePlace_14 : decode cX0_requirePlace 14 = .ok (.invokespecial 166, 3) := by decide +kernel
theorem dX0_requirePlace_17 : decode cX0_requirePlace 17 = .ok (.athrow, 1) := by decide +kernel
theorem dX0_requirePlace_18 : decode cX0_requirePlace 18 = .ok (.return_, 1) := by decide +kernel
theorem dX0_requireDoor_0 : decode cX0_requireDoor 0 = .ok (.aload_n 0, 1) := by decide +kernel
theorem dX0_requireDoor_1 : decode cX0_requireDoor 1 = .ok (.iload_n 1, 1) := by decide +kernel
theorem dX0_requireDoor_2 : decode cX0_requireDoor 2 = .ok (.invokevirtual 108, 3) := by decide +kernel
theorem dX0_requireDoor_5 : decode cX0_requireDoor 5 = .ok (.ifCond .ne 13, 3) := by decide +kernel
theorem dX0_requireDoor_8 : decode cX0_requireDoor 8 = .ok (.new 162, 3) := by decide +kernel
theorem dX0_requireDoor_11 : decode cX0_requireDoor 11 = .ok (.dup, 1) := by decide +kernel
theorem dX0_requireDoor_12 : decode cX0_requireDoor 12 = .ok (.ldc 169, 2) := by decide +kernel
theorem dX0_requireDoor_14 : decode cX0_requireDoor 14 = .ok (.invokespecial 166, 3) := by decide +kernel
theorem dX0_requireDoor_17 : decode cX0_requireDoor 17 = .ok (.athrow, 1) := by decide +kernel
theorem dX0_requireDoor_18 : decode cX0_requireDoor 18 = .ok (.return_, 1) := by decide +kernel
theorem dX0_requireArgument_0 : decode cX0_requireArgument 0 = .ok (.iload_n 0, 1) := by decide +kernel
theorem dX0_requireArgument_1 : decode cX0_requireArgument 1 = .ok (.ifCond .ne 13, 3) := by decide +kernel
theorem dX0_requireArgument_4 : decode cX0_requireArgument 4 = .ok (.new 171, 3) := by decide +kernel
theorem dX0_requireArgument_7 : decode cX0_requireArgument 7 = .ok (.dup, 1) := by decide +kernel
theorem dX0_requireArgument_8 : decode cX0_requireArgument 8 = .ok (.ldc 173, 2) := by decide +kernel
theorem dX0_requireArgument_10 : decode cX0_requireArgument 10 = .ok (.invokespecial 175, 3) := by decide +kernel
theorem dX0_requireArgument_13 : decode cX0_requireArgument 13 = .ok (.athrow, 1) := by decide +kernel
theorem dX0_requireArgument_14 : decode cX0_requireArgument 14 = .ok (.return_, 1) := by decide +kernel
theorem dX0_requireState_0 : decode cX0_requireState 0 = .ok (.iload_n 0, 1) := by decide +kernel
theorem dX0_requireState_1 : decode cX0_requireState 1 = .ok (.ifCond .ne 13, 3) := by decide +kernel
theorem dX0_requireState_4 : decode cX0_requireState 4 = .ok (.new 176, 3) := by decide +kernel
theorem dX0_requireState_7 : decode cX0_requireState 7 = .ok (.dup, 1) := by decide +kernel
theorem dX0_requireState_8 : decode cX0_requireState 8 = .ok (.ldc 178, 2) := by decide +kernel
theorem dX0_requireState_10 : decode cX0_requireState 10 = .ok (.invokespecial 180, 3) := by decide +kernel
theorem dX0_requireState_13 : decode cX0_requireState 13 = .ok (.athrow, 1) := by decide +kernel
theorem dX0_requireState_14 : decode cX0_requireState 14 = .ok (.return_, 1) := by decide +kernel
theorem dX0_requireElement_0 : decode cX0_requireElement 0 = .ok (.iload_n 0, 1) := by decide +kernel
theorem dX0_requireElement_1 : decode cX0_requireElement 1 = .ok (.ifCond .ne 13, 3) := by decide +kernel
theorem dX0_requireElement_4 : decode cX0_requireElement 4 = .ok (.new 181, 3) := by decide +kernel
theorem dX0_requireElement_7 : decode cX0_requireElement 7 = .ok (.dup, 1) := by decide +kernel
theorem dX0_requireElement_8 : decode cX0_requireElement 8 = .ok (.ldc 183, 2) := by decide +kernel
theorem dX0_requireElement_10 : decode cX0_requireElement 10 = .ok (.invokespecial 185, 3) := by decide +kernel
theorem dX0_requireElement_13 : decode cX0_requireElement 13 = .ok (.athrow, 1) := by decide +kernel
theorem dX0_requireElement_14 : decode cX0_requireElement 14 = .ok (.return_, 1) := by decide +kernel
