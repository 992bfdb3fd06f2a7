theorem dL_cell_0 : decode cL_cell 0 = .ok (.iload_n 1, 1) := by decide +kernel
theorem dL_cell_1 : decode cL_cell 1 = .ok (.aload_n 0, 1) := by decide +kernel
theorem dL_cell_2 : decode cL_cell 2 = .ok (.arraylength, 1) := by decide +kernel
theorem dL_cell_3 : decode cL_cell 3 = .ok (.if_icmp .ge 9, 3) := by decide +kernel
theorem dL_cell_6 : decode cL_cell 6 = .ok (.aload_n 0, 1) := by decide +kernel
theorem dL_cell_7 : decode cL_cell 7 = .ok (.iload_n 1, 1) := by decide +kernel
theorem dL_cell_8 : decode cL_cell 8 = .ok (.iaload, 1) := by decide +kernel
theorem dL_cell_9 : decode cL_cell 9 = .ok (.goto 18, 3) := by decide +kernel
theorem dL_cell_12 : decode cL_cell 12 = .ok (.sipush 7919, 3) := by decide +kernel
theorem dL_cell_15 : decode cL_cell 15 = .ok (.iload_n 1, 1) := by decide +kernel
theorem dL_cell_16 : decode cL_cell 16 = .ok (.sipush 461, 3) := by decide +kernel
theorem dL_cell_19 : decode cL_cell 19 = .ok (.iadd, 1) := by decide +kernel
theorem dL_cell_20 : decode cL_cell 20 = .ok (.imul, 1) := by decide +kernel
theorem dL_cell_21 : decode cL_cell 21 = .ok (.iload_n 1, 1) := by decide +kernel
theorem dL_cell_22 : decode cL_cell 22 = .ok (.sipush 1427, 3) := by decide +kernel
theorem dL_cell_25 : decode cL_cell 25 = .ok (.iadd, 1) := by decide +kernel
theorem dL_cell_26 : decode cL_cell 26 = .ok (.imul, 1) := by decide +kernel
theorem dL_cell_27 : decode cL_cell 27 = .ok (.ireturn, 1) := by decide +kernel
theorem dL_low_0 : decode cL_low 0 = .ok (.iload_n 0, 1) := by decide +kernel
theorem dL_low_1 : decode cL_low 1 = .ok (.ldc 7, 2) := by decide +kernel
theorem dL_low_3 : decode cL_low 3 = .ok (.iand, 1) := by decide +kernel
theorem dL_low_4 : decode cL_low 4 = .ok (.iload_n 1, 1) := by decide +kernel
theorem dL_low_5 : decode cL_low 5 = .ok (.irem, 1) := by decide +kernel
theorem dL_low_6 : decode cL_low 6 = .ok (.ireturn, 1) := by decide +kernel
theorem dL_addPlace_0 : decode cL_addPlace 0 = .ok (.aload_n 0, 1) := by decide +kernel
theorem dL_addPlace_1 : decode cL_addPlace 1 = .ok (.iload_n 1, 1) := by decide +kernel
theorem dL_addPlace_2 : decode cL_addPlace 2 = .ok (.invokevirtual 8, 3) := by decide +kernel
theorem dL_addPlace_5 : decode cL_addPlace 5 = .ok (.ireturn, 1) := by decide +kernel
theorem dL_addPlace_6 : decode cL_addPlace 6 = .ok (.astore_n 2, 1) := by decide +kernel
theorem dL_addPlace_7 : decode cL_addPlace 7 = .ok (.ldc 16, 2) := by decide +kernel
theorem dL_addPlace_9 : decode cL_addPlace 9 = .ok (.ireturn, 1) := by decide +kernel
theorem dL_addPlace_10 : decode cL_addPlace 10 = .ok (.astore_n 2, 1) := by decide +kernel
theorem dL_addPlace_11 : decode cL_addPlace 11 = .ok (.ldc 16, 2) := by decide +kernel
theorem dL_addPlace_13 : decode cL_addPlace 13 = .ok (.ireturn, 1) := by decide +kernel
theorem dL_addDoor_0 : decode cL_addDoor 0 = .ok (.aload_n 0, 1) := by decide +kernel
theorem dL_addDoor_1 : decode cL_addDoor 1 = .ok (.iload_n 1, 1) := by decide +kernel
theorem dL_addDoor_2 : decode cL_addDoor 2 = .ok (.iload_n 2, 1) := by decide +kernel
theorem dL_addDoor_3 : decode cL_addDoor 3 = .ok (.iload_n 3, 1) := by decide +kernel
theorem dL_addDoor_4 : decode cL_addDoor 4 = .ok (.iload 4, 2) := by decide +kernel
theorem dL_addDoor_6 : decode cL_addDoor 6 = .ok (.invokevirtual 19, 3) := by decide +kernel
theorem dL_addDoor_9 : decode cL_addDoor 9 = .ok (.ireturn, 1) := by decide +kernel
theorem dL_addDoor_10 : decode cL_addDoor 10 = .ok (.astore 5, 2) := by decide +kernel
theorem dL_addDoor_12 : decode cL_addDoor 12 = .ok (.ldc 16, 2) := by decide +kernel
theorem dL_addDoor_14 : decode cL_addDoor 14 = .ok (.ireturn, 1) := by decide +kernel
theorem dL_addDoor_15 : decode cL_addDoor 15 = .ok (.astore 5, 2) := by decide +kernel
theorem dL_addDoor_17 : decode cL_addDoor 17 = .ok (.ldc 16, 2) := by decide +kernel
theorem dL_addDoor_19 : decode cL_addDoor 19 = .ok (.ireturn, 1) := by decide +kernel
theorem dL_addDoor_20 : decode cL_addDoor 20 = .ok (.astore 5, 2) := by decide +kernel
theorem dL_addDoor_22 : decode cL_addDoor 22 = .ok (.ldc 16, 2) := by decide +kernel
theorem dL_addDoor_24 : decode cL_addDoor 24 = .ok (.ireturn, 1) := by decide +kernel
theorem dL_setDoor_0 : decode cL_setDoor 0 = .ok (.aload_n 0, 1) := by decide +kernel
theorem dL_setDoor_1 : decode cL_setDoor 1 = .ok (.iload_n 1, 1) := by decide +kernel
theorem dL_setDoor_2 : decode cL_setDoor 2 = .ok (.iload_n 2, 1) := by decide +kernel
theorem dL_setDoor_3 : decode cL_setDoor 3 = .ok (.invokevirtual 25, 3) := by decide +kernel
theorem dL_setDoor_6 : decode cL_setDoor 6 = .ok (.ifCond .eq 7, 3) := by decide +kernel
theorem dL_setDoor_9 : decode cL_setDoor 9 = .ok (.iconst 1, 1) := by decide +kernel
theorem dL_setDoor_10 : decode cL_setDoor 10 = .ok (.goto 4, 3) := by decide +kernel
theorem dL_setDoor_13 : decode cL_setDoor 13 = .ok (.iconst 0, 1) := by decide +kernel
theorem dL_setDoor_14 : decode cL_setDoor 14 = .ok (.ireturn, 1) := by decide +kernel
theorem dL_setDoor_15 : decode cL_setDoor 15 = .ok (.astore_n 3, 1) := by decide +kernel
theorem dL_setDoor_16 : decode cL_setDoor 16 = .ok (.ldc 16, 2) := by decide +kernel
theorem dL_setDoor_18 : decode cL_setDoor 18 = .ok (.ireturn, 1) := by decide +kernel
theorem dL_come_0 : decode cL_come 0 = .ok (.aload_n 0, 1) := by decide +kernel
theorem dL_come_1 : decode cL_come 1 = .ok (.iload_n 1, 1) := by decide +kernel
theorem dL_come_2 : decode cL_come 2 = .ok (.iload_n 2, 1) := by decide +kernel
theorem dL_come_3 : decode cL_come 3 = .ok (.invokevirtual 29, 3) := by decide +kernel
theorem dL_come_6 : decode cL_come 6 = .ok (.ireturn, 1) := by decide +kernel
theorem dL_come_7 : decode cL_come 7 = .ok (.astore_n 3, 1) := by decide +kernel
theorem dL_come_8 : decode cL_come 8 = .ok (.ldc 16, 2) := by decide +kernel
theorem dL_come_10 : decode cL_come 10 = .ok (.ireturn, 1) := by decide +kernel
theorem dL_come_11 : decode cL_come 11 = .ok (.astore_n 3, 1) := by decide +kernel
theorem dL_come_12 : decode cL_come 12 = .ok (.ldc 16, 2) := by decide +kernel
theorem dL_come_14 : decode cL_come 14 = .ok (.ireturn, 1) := by decide +kernel
theorem dL_come_15 : decode cL_come 15 = .ok (.astore_n 3, 1) := by decide +kernel
theorem dL_come_16 : decode cL_come 16 = .ok (.ldc 16, 2) := by decide +kernel
theorem dL_come_18 : decode cL_come 18 = .ok (.ireturn, 1) := by decide +kernel
theorem dL_setRelease_0 : decode cL_setRelease 0 = .ok (.aload_n 0, 1) := by decide +kernel
theorem dL_setRelease_1 : decode cL_setRelease 1 = .ok (.iload_n 1, 1) := by decide +kernel
theorem dL_setRelease_2 : decode cL_setRelease 2 = .ok (.iload_n 2, 1) := by decide +kernel
theorem dL_setRelease_3 : decode cL_setRelease 3 = .ok (.invokevirtual 33, 3) := by decide +kernel
theorem dL_setRelease_6 : decode cL_setRelease 6 = .ok (.ireturn, 1) := by decide +kernel
theorem dL_setRelease_7 : decode cL_setRelease 7 = .ok (.astore_n 3, 1) := by decide +kernel
theorem dL_setRelease_8 : decode cL_setRelease 8 = .ok (.ldc 16, 2) := by decide +kernel
theorem dL_setRelease_10 : decode cL_setRelease 10 = .ok (.ireturn, 1) := by decide +kernel
theorem dL_setRelease_11 : decode cL_setRelease 11 = .ok (.astore_n 3, 1) := by decide +kernel
theorem dL_setRelease_12 : decode cL_setRelease 12 = .ok (.ldc 16, 2) := by decide +kernel
theorem dL_setRelease_14 : decode cL_setRelease 14 = .ok (.ireturn, 1) := by decide +kernel
theorem dL_step_0 : decode cL_step 0 = .ok (.aload_n 0, 1) := by decide +kernel
theorem dL_step_1 : decode cL_step 1 = .ok (.iload_n 1, 1) := by decide +kernel
theorem dL_step_2 : decode cL_step 2 = .ok (.invokevirtual 36, 3) := by decide +kernel
theorem dL_step_5 : decode cL_step 5 = .ok (.ireturn, 1) := by decide +kernel
theorem dL_step_6 : decode cL_step 6 = .ok (.astore_n 2, 1) := by decide +kernel
theorem dL_step_7 : decode cL_step 7 = .ok (.ldc 16, 2) := by decide +kernel
theorem dL_step_9 : decode cL_step 9 = .ok (.ireturn, 1) := by decide +kernel
theorem dL_distance_0 : decode cL_distance 0 = .ok (.aload_n 0, 1) := by decide +kernel
theorem dL_distance_1 : decode cL_distance 1 = .ok (.iload_n 1, 1) := by decide +kernel
theorem dL_distance_2 : decode cL_distance 2 = .ok (.invokevirtual 39, 3) := by decide +kernel
theorem dL_distance_5 : decode cL_distance 5 = .ok (.ireturn, 1) := by decide +kernel
theorem dL_distance_6 : decode cL_distance 6 = .ok (.astore_n 2, 1) := by decide +kernel
theorem dL_distance_7 : decode cL_distance 7 = .ok (.ldc 16, 2) := by decide +kernel
theorem dL_distance_9 : decode cL_distance 9 = .ok (.ireturn, 1) := by decide +kernel
theorem dL_distance_10 : decode cL_distance 10 = .ok (.astore_n 2, 1) := by decide +kernel
theorem dL_distance_11 : decode cL_distance 11 = .ok (.iconst (-1), 1) := by decide +kernel
theorem dL_distance_12 : decode cL_distance 12 = .ok (.ireturn, 1) := by decide +kernel
theorem dL_door_0 : decode cL_door 0 = .ok (.aload_n 0, 1) := by decide +kernel
theorem dL_door_1 : decode cL_door 1 = .ok (.iload_n 1, 1) := by decide +kernel
theorem dL_door_2 : decode cL_door 2 = .ok (.invokevirtual 44, 3) := by decide +kernel
theorem dL_door_5 : decode cL_door 5 = .ok (.ireturn, 1) := by decide +kernel
theorem dL_door_6 : decode cL_door 6 = .ok (.astore_n 2, 1) := by decide +kernel
theorem dL_door_7 : decode cL_door 7 = .ok (.ldc 16, 2) := by decide +kernel
theorem dL_door_9 : decode cL_door 9 = .ok (.ireturn, 1) := by decide +kernel
theorem dL_door_10 : decode cL_door 10 = .ok (.astore_n 2, 1) := by decide +kernel
theorem dL_door_11 : decode cL_door 11 = .ok (.iconst (-1), 1) := by decide +kernel
theorem dL_door_12 : decode cL_door 12 = .ok (.ireturn, 1) := by decide +kernel
theorem dL_bound_0 : decode cL_bound 0 = .ok (.aload_n 0, 1) := by decide +kernel
theorem dL_bound_1 : decode cL_bound 1 = .ok (.invokevirtual 47, 3) := by decide +kernel
theorem dL_bound_4 : decode cL_bound 4 = .ok (.ireturn, 1) := by decide +kernel
theorem dL_bound_5 : decode cL_bound 5 = .ok (.astore_n 1, 1) := by decide +kernel
theorem dL_bound_6 : decode cL_bound 6 = .ok (.iconst (-1), 1) := by decide +kernel
theorem dL_bound_7 : decode cL_bound 7 = .ok (.ireturn, 1) := by decide +kernel
theorem dL_latest_0 : decode cL_latest 0 = .ok (.aload_n 0, 1) := by decide +kernel
theorem dL_latest_1 : decode cL_latest 1 = .ok (.invokevirtual 51, 3) := by decide +kernel
theorem dL_latest_4 : decode cL_latest 4 = .ok (.ireturn, 1) := by decide +kernel
theorem dL_latest_5 : decode cL_latest 5 = .ok (.astore_n 1, 1) := by decide +kernel
theorem dL_latest_6 : decode cL_latest 6 = .ok (.iconst (-1), 1) := by decide +kernel
theorem dL_latest_7 : decode cL_latest 7 = .ok (.ireturn, 1) := by decide +kernel
theorem dL_act_0 : decode cL_act 0 = .ok (.iload_n 1, 1) := by decide +kernel
theorem dL_act_1 : decode cL_act 1 = .ok (.bipush 24, 2) := by decide +kernel
theorem dL_act_3 : decode cL_act 3 = .ok (.ishr, 1) := by decide +kernel
theorem dL_act_4 : decode cL_act 4 = .ok (.bipush 9, 2) := by decide +kernel
theorem dL_act_6 : decode cL_act 6 = .ok (.invokestatic 54, 3) := by decide +kernel
theorem dL_act_9 : decode cL_act 9 = .ok (.ifCond .ne 7, 3) := by decide +kernel
theorem dL_act_12 : decode cL_act 12 = .ok (.iconst 1, 1) := by decide +kernel
theorem dL_act_13 : decode cL_act 13 = .ok (.goto 4, 3) := by decide +kernel
theorem dL_act_16 : decode cL_act 16 = .ok (.iconst 0, 1) := by decide +kernel
theorem dL_act_17 : decode cL_act 17 = .ok (.istore_n 2, 1) := by decide +kernel
theorem dL_act_18 : decode cL_act 18 = .ok (.aload_n 0, 1) := by decide +kernel
theorem dL_act_19 : decode cL_act 19 = .ok (.invokevirtual 59, 3) := by decide +kernel
theorem dL_act_22 : decode cL_act 22 = .ok (.istore_n 3, 1) := by decide +kernel
theorem dL_act_23 : decode cL_act 23 = .ok (.iload_n 1, 1) := by decide +kernel
theorem dL_act_24 : decode cL_act 24 = .ok (.iconst 4, 1) := by decide +kernel
theorem dL_act_25 : decode cL_act 25 = .ok (.ishr, 1) := by decide +kernel
theorem dL_act_26 : decode cL_act 26 = .ok (.iload_n 3, 1) := by decide +kernel
theorem dL_act_27 : decode cL_act 27 = .ok (.iload_n 2, 1) := by decide +kernel
theorem dL_act_28 : decode cL_act 28 = .ok (.ifCond .eq 7, 3) := by decide +kernel
theorem dL_act_31 : decode cL_act 31 = .ok (.iconst 1, 1) := by decide +kernel
theorem dL_act_32 : decode cL_act 32 = .ok (.goto 4, 3) := by decide +kernel
theorem dL_act_35 : decode cL_act 35 = .ok (.iconst 0, 1) := by decide +kernel
theorem dL_act_36 : decode cL_act 36 = .ok (.iadd, 1) := by decide +kernel
theorem dL_act_37 : decode cL_act 37 = .ok (.invokestatic 54, 3) := by decide +kernel
theorem dL_act_40 : decode cL_act 40 = .ok (.istore 4, 2) := by decide +kernel
theorem dL_act_42 : decode cL_act 42 = .ok (.iload_n 2, 1) := by decide +kernel
theorem dL_act_43 : decode cL_act 43 = .ok (.ifCond .eq 16, 3) := by decide +kernel
theorem dL_act_46 : decode cL_act 46 = .ok (.iload_n 1, 1) := by decide +kernel
theorem dL_act_47 : decode cL_act 47 = .ok (.bipush 8, 2) := by decide +kernel
theorem dL_act_49 : decode cL_act 49 = .ok (.ishr, 1) := by decide +kernel
theorem dL_act_50 : decode cL_act 50 = .ok (.iload_n 3, 1) := by decide +kernel
theorem dL_act_51 : decode cL_act 51 = .ok (.iconst 1, 1) := by decide +kernel
theorem dL_act_52 : decode cL_act 52 = .ok (.iadd, 1) := by decide +kernel
theorem dL_act_53 : decode cL_act 53 = .ok (.invokestatic 54, 3) := by decide +kernel
theorem dL_act_56 : decode cL_act 56 = .ok (.goto 29, 3) := by decide +kernel
theorem dL_act_59 : decode cL_act 59 = .ok (.iload_n 3, 1) := by decide +kernel
theorem dL_act_60 : decode cL_act 60 = .ok (.iconst 1, 1) := by decide +kernel
theorem dL_act_61 : decode cL_act 61 = .ok (.if_icmp .ne 7, 3) := by decide +kernel
theorem dL_act_64 : decode cL_act 64 = .ok (.iconst 0, 1) := by decide +kernel
theorem dL_act_65 : decode cL_act 65 = .ok (.goto 20, 3) := by decide +kernel
theorem dL_act_68 : decode cL_act 68 = .ok (.iload 4, 2) := by decide +kernel
theorem dL_act_70 : decode cL_act 70 = .ok (.iconst 1, 1) := by decide +kernel
theorem dL_act_71 : decode cL_act 71 = .ok (.iadd, 1) := by decide +kernel
theorem dL_act_72 : decode cL_act 72 = .ok (.iload_n 1, 1) := by decide +kernel
theorem dL_act_73 : decode cL_act 73 = .ok (.bipush 8, 2) := by decide +kernel
theorem dL_act_75 : decode cL_act 75 = .ok (.ishr, 1) := by decide +kernel
theorem dL_act_76 : decode cL_act 76 = .ok (.iload_n 3, 1) := by decide +kernel
theorem dL_act_77 : decode cL_act 77 = .ok (.iconst 1, 1) := by decide +kernel
theorem dL_act_78 : decode cL_act 78 = .ok (.isub, 1) := by decide +kernel
theorem dL_act_79 : decode cL_act 79 = .ok (.invokestatic 54, 3) := by decide +kernel
theorem dL_act_82 : decode cL_act 82 = .ok (.iadd, 1) := by decide +kernel
theorem dL_act_83 : decode cL_act 83 = .ok (.iload_n 3, 1) := by decide +kernel
theorem dL_act_84 : decode cL_act 84 = .ok (.irem, 1) := by decide +kernel
theorem dL_act_85 : decode cL_act 85 = .ok (.istore 5, 2) := by decide +kernel
theorem dL_act_87 : decode cL_act 87 = .ok (.iload_n 1, 1) := by decide +kernel
theorem dL_act_88 : decode cL_act 88 = .ok (.bipush 14, 2) := by decide +kernel
theorem dL_act_90 : decode cL_act 90 = .ok (.invokestatic 54, 3) := by decide +kernel
theorem dL_act_93 : decode cL_act 93 = .ok (.tableswitch 259 0 10 #[59, 59, 91, 91, 91, 152, 185, 185, 185, 185, 219], 59) := by decide +kernel
theorem dL_act_152 : decode cL_act 152 = .ok (.aload_n 0, 1) := by decide +kernel
theorem dL_act_153 : decode cL_act 153 = .ok (.iload_n 2, 1) := by decide +kernel
theorem dL_act_154 : decode cL_act 154 = .ok (.ifCond .eq 15, 3) := by decide +kernel
theorem dL_act_157 : decode cL_act 157 = .ok (.iload_n 1, 1) := by decide +kernel
theorem dL_act_158 : decode cL_act 158 = .ok (.bipush 9, 2) := by decide +kernel
theorem dL_act_160 : decode cL_act 160 = .ok (.ishr, 1) := by decide +kernel
theorem dL_act_161 : decode cL_act 161 = .ok (.bipush 33, 2) := by decide +kernel
theorem dL_act_163 : decode cL_act 163 = .ok (.invokestatic 54, 3) := by decide +kernel
theorem dL_act_166 : decode cL_act 166 = .ok (.goto 14, 3) := by decide +kernel
theorem dL_act_169 : decode cL_act 169 = .ok (.iconst 1, 1) := by decide +kernel
theorem dL_act_170 : decode cL_act 170 = .ok (.iload_n 1, 1) := by decide +kernel
theorem dL_act_171 : decode cL_act 171 = .ok (.bipush 9, 2) := by decide +kernel
theorem dL_act_173 : decode cL_act 173 = .ok (.ishr, 1) := by decide +kernel
theorem dL_act_174 : decode cL_act 174 = .ok (.bipush 12, 2) := by decide +kernel
theorem dL_act_176 : decode cL_act 176 = .ok (.invokestatic 54, 3) := by decide +kernel
theorem dL_act_179 : decode cL_act 179 = .ok (.iadd, 1) := by decide +kernel
theorem dL_act_180 : decode cL_act 180 = .ok (.invokestatic 62, 3) := by decide +kernel
theorem dL_act_183 : decode cL_act 183 = .ok (.ireturn, 1) := by decide +kernel
theorem dL_act_184 : decode cL_act 184 = .ok (.aload_n 0, 1) := by decide +kernel
theorem dL_act_185 : decode cL_act 185 = .ok (.iload 4, 2) := by decide +kernel
theorem dL_act_187 : decode cL_act 187 = .ok (.iload 5, 2) := by decide +kernel
theorem dL_act_189 : decode cL_act 189 = .ok (.iload_n 2, 1) := by decide +kernel
theorem dL_act_190 : decode cL_act 190 = .ok (.ifCond .eq 15, 3) := by decide +kernel
theorem dL_act_193 : decode cL_act 193 = .ok (.iload_n 1, 1) := by decide +kernel
theorem dL_act_194 : decode cL_act 194 = .ok (.bipush 12, 2) := by decide +kernel
theorem dL_act_196 : decode cL_act 196 = .ok (.ishr, 1) := by decide +kernel
theorem dL_act_197 : decode cL_act 197 = .ok (.bipush 11, 2) := by decide +kernel
theorem dL_act_199 : decode cL_act 199 = .ok (.invokestatic 54, 3) := by decide +kernel
theorem dL_act_202 : decode cL_act 202 = .ok (.goto 13, 3) := by decide +kernel
theorem dL_act_205 : decode cL_act 205 = .ok (.iconst 1, 1) := by decide +kernel
theorem dL_act_206 : decode cL_act 206 = .ok (.iload_n 1, 1) := by decide +kernel
theorem dL_act_207 : decode cL_act 207 = .ok (.bipush 12, 2) := by decide +kernel
theorem dL_act_209 : decode cL_act 209 = .ok (.ishr, 1) := by decide +kernel
theorem dL_act_210 : decode cL_act 210 = .ok (.iconst 5, 1) := by decide +kernel
theorem dL_act_211 : decode cL_act 211 = .ok (.invokestatic 54, 3) := by decide +kernel
theorem dL_act_214 : decode cL_act 214 = .ok (.iadd, 1) := by decide +kernel
theorem dL_act_215 : decode cL_act 215 = .ok (.iload_n 2, 1) := by decide +kernel
theorem dL_act_216 : decode cL_act 216 = .ok (.ifCond .eq 15, 3) := by decide +kernel
theorem dL_act_219 : decode cL_act 219 = .ok (.iload_n 1, 1) := by decide +kernel
theorem dL_act_220 : decode cL_act 220 = .ok (.bipush 15, 2) := by decide +kernel
theorem dL_act_222 : decode cL_act 222 = .ok (.ishr, 1) := by decide +kernel
theorem dL_act_223 : decode cL_act 223 = .ok (.bipush 7, 2) := by decide +kernel
theorem dL_act_225 : decode cL_act 225 = .ok (.invokestatic 54, 3) := by decide +kernel
theorem dL_act_228 : decode cL_act 228 = .ok (.goto 13, 3) := by decide +kernel
theorem dL_act_231 : decode cL_act 231 = .ok (.iconst 1, 1) := by decide +kernel
theorem dL_act_232 : decode cL_act 232 = .ok (.iload_n 1, 1) := by decide +kernel
theorem dL_act_233 : decode cL_act 233 = .ok (.bipush 15, 2) := by decide +kernel
theorem dL_act_235 : decode cL_act 235 = .ok (.ishr, 1) := by decide +kernel
theorem dL_act_236 : decode cL_act 236 = .ok (.iconst 5, 1) := by decide +kernel
theorem dL_act_237 : decode cL_act 237 = .ok (.invokestatic 54, 3) := by decide +kernel
theorem dL_act_240 : decode cL_act 240 = .ok (.iadd, 1) := by decide +kernel
theorem dL_act_241 : decode cL_act 241 = .ok (.invokestatic 65, 3) := by decide +kernel
theorem dL_act_244 : decode cL_act 244 = .ok (.ireturn, 1) := by decide +kernel
theorem dL_act_245 : decode cL_act 245 = .ok (.aload_n 0, 1) := by decide +kernel
theorem dL_act_246 : decode cL_act 246 = .ok (.iload_n 1, 1) := by decide +kernel
theorem dL_act_247 : decode cL_act 247 = .ok (.iconst 4, 1) := by decide +kernel
theorem dL_act_248 : decode cL_act 248 = .ok (.ishr, 1) := by decide +kernel
theorem dL_act_249 : decode cL_act 249 = .ok (.aload_n 0, 1) := by decide +kernel
theorem dL_act_250 : decode cL_act 250 = .ok (.invokevirtual 68, 3) := by decide +kernel
theorem dL_act_253 : decode cL_act 253 = .ok (.iconst 1, 1) := by decide +kernel
theorem dL_act_254 : decode cL_act 254 = .ok (.iadd, 1) := by decide +kernel
theorem dL_act_255 : decode cL_act 255 = .ok (.invokestatic 54, 3) := by decide +kernel
theorem dL_act_258 : decode cL_act 258 = .ok (.iload_n 1, 1) := by decide +kernel
theorem dL_act_259 : decode cL_act 259 = .ok (.bipush 9, 2) := by decide +kernel
theorem dL_act_261 : decode cL_act 261 = .ok (.ishr, 1) := by decide +kernel
theorem dL_act_262 : decode cL_act 262 = .ok (.iconst 3, 1) := by decide +kernel
theorem dL_act_263 : decode cL_act 263 = .ok (.invokestatic 54, 3) := by decide +kernel
theorem dL_act_266 : decode cL_act 266 = .ok (.ifCond .le 7, 3) := by decide +kernel
theorem dL_act_269 : decode cL_act 269 = .ok (.iconst 1, 1) := by decide +kernel
theorem dL_act_270 : decode cL_act 270 = .ok (.goto 4, 3) := by decide +kernel
theorem dL_act_273 : decode cL_act 273 = .ok (.iconst 0, 1) := by decide +kernel
theorem dL_act_274 : decode cL_act 274 = .ok (.invokestatic 71, 3) := by decide +kernel
theorem dL_act_277 : decode cL_act 277 = .ok (.ireturn, 1) := by decide +kernel
theorem dL_act_278 : decode cL_act 278 = .ok (.aload_n 0, 1) := by decide +kernel
theorem dL_act_279 : decode cL_act 279 = .ok (.iload 4, 2) := by decide +kernel
theorem dL_act_281 : decode cL_act 281 = .ok (.iload_n 2, 1) := by decide +kernel
theorem dL_act_282 : decode cL_act 282 = .ok (.ifCond .eq 15, 3) := by decide +kernel
theorem dL_act_285 : decode cL_act 285 = .ok (.iload_n 1, 1) := by decide +kernel
theorem dL_act_286 : decode cL_act 286 = .ok (.bipush 12, 2) := by decide +kernel
theorem dL_act_288 : decode cL_act 288 = .ok (.ishr, 1) := by decide +kernel
theorem dL_act_289 : decode cL_act 289 = .ok (.bipush 33, 2) := by decide +kernel
theorem dL_act_291 : decode cL_act 291 = .ok (.invokestatic 54, 3) := by decide +kernel
theorem dL_act_294 : decode cL_act 294 = .ok (.goto 14, 3) := by decide +kernel
theorem dL_act_297 : decode cL_act 297 = .ok (.iconst 1, 1) := by decide +kernel
theorem dL_act_298 : decode cL_act 298 = .ok (.iload_n 1, 1) := by decide +kernel
theorem dL_act_299 : decode cL_act 299 = .ok (.bipush 12, 2) := by decide +kernel
theorem dL_act_301 : decode cL_act 301 = .ok (.ishr, 1) := by decide +kernel
theorem dL_act_302 : decode cL_act 302 = .ok (.bipush 8, 2) := by decide +kernel
theorem dL_act_304 : decode cL_act 304 = .ok (.invokestatic 54, 3) := by decide +kernel
theorem dL_act_307 : decode cL_act 307 = .ok (.iadd, 1) := by decide +kernel
theorem dL_act_308 : decode cL_act 308 = .ok (.invokestatic 74, 3) := by decide +kernel
theorem dL_act_311 : decode cL_act 311 = .ok (.ireturn, 1) := by decide +kernel
theorem dL_act_312 : decode cL_act 312 = .ok (.aload_n 0, 1) := by decide +kernel
theorem dL_act_313 : decode cL_act 313 = .ok (.iload 4, 2) := by decide +kernel
theorem dL_act_315 : decode cL_act 315 = .ok (.iload_n 2, 1) := by decide +kernel
theorem dL_act_316 : decode cL_act 316 = .ok (.ifCond .eq 18, 3) := by decide +kernel
theorem dL_act_319 : decode cL_act 319 = .ok (.iload_n 1, 1) := by decide +kernel
theorem dL_act_320 : decode cL_act 320 = .ok (.bipush 12, 2) := by decide +kernel
theorem dL_act_322 : decode cL_act 322 = .ok (.ishr, 1) := by decide +kernel
theorem dL_act_323 : decode cL_act 323 = .ok (.sipush 1005, 3) := by decide +kernel
theorem dL_act_326 : decode cL_act 326 = .ok (.invokestatic 54, 3) := by decide +kernel
theorem dL_act_329 : decode cL_act 329 = .ok (.iconst 2, 1) := by decide +kernel
theorem dL_act_330 : decode cL_act 330 = .ok (.isub, 1) := by decide +kernel
theorem dL_act_331 : decode cL_act 331 = .ok (.goto 17, 3) := by decide +kernel
theorem dL_act_334 : decode cL_act 334 = .ok (.aload_n 0, 1) := by decide +kernel
theorem dL_act_335 : decode cL_act 335 = .ok (.invokevirtual 77, 3) := by decide +kernel
theorem dL_act_338 : decode cL_act 338 = .ok (.iload_n 1, 1) := by decide +kernel
theorem dL_act_339 : decode cL_act 339 = .ok (.bipush 12, 2) := by decide +kernel
theorem dL_act_341 : decode cL_act 341 = .ok (.ishr, 1) := by decide +kernel
theorem dL_act_342 : decode cL_act 342 = .ok (.bipush 8, 2) := by decide +kernel
theorem dL_act_344 : decode cL_act 344 = .ok (.invokestatic 54, 3) := by decide +kernel
theorem dL_act_347 : decode cL_act 347 = .ok (.iadd, 1) := by decide +kernel
theorem dL_act_348 : decode cL_act 348 = .ok (.invokestatic 80, 3) := by decide +kernel
theorem dL_act_351 : decode cL_act 351 = .ok (.ireturn, 1) := by decide +kernel
theorem dL_act_352 : decode cL_act 352 = .ok (.aload_n 0, 1) := by decide +kernel
theorem dL_act_353 : decode cL_act 353 = .ok (.iload_n 2, 1) := by decide +kernel
theorem dL_act_354 : decode cL_act 354 = .ok (.ifCond .eq 15, 3) := by decide +kernel
theorem dL_act_357 : decode cL_act 357 = .ok (.iload_n 1, 1) := by decide +kernel
theorem dL_act_358 : decode cL_act 358 = .ok (.bipush 12, 2) := by decide +kernel
theorem dL_act_360 : decode cL_act 360 = .ok (.ishr, 1) := by decide +kernel
theorem dL_act_361 : decode cL_act 361 = .ok (.bipush 53, 2) := by decide +kernel
theorem dL_act_363 : decode cL_act 363 = .ok (.invokestatic 54, 3) := by decide +kernel
theorem dL_act_366 : decode cL_act 366 = .ok (.goto 13, 3) := by decide +kernel
theorem dL_act_369 : decode cL_act 369 = .ok (.iconst 1, 1) := by decide +kernel
theorem dL_act_370 : decode cL_act 370 = .ok (.iload_n 1, 1) := by decide +kernel
theorem dL_act_371 : decode cL_act 371 = .ok (.bipush 12, 2) := by decide +kernel
theorem dL_act_373 : decode cL_act 373 = .ok (.ishr, 1) := by decide +kernel
theorem dL_act_374 : decode cL_act 374 = .ok (.iconst 3, 1) := by decide +kernel
theorem dL_act_375 : decode cL_act 375 = .ok (.invokestatic 54, 3) := by decide +kernel
theorem dL_act_378 : decode cL_act 378 = .ok (.iadd, 1) := by decide +kernel
theorem dL_act_379 : decode cL_act 379 = .ok (.invokestatic 82, 3) := by decide +kernel
theorem dL_act_382 : decode cL_act 382 = .ok (.ireturn, 1) := by decide +kernel
theorem dL_areAlike_0 : decode cL_areAlike 0 = .ok (.aload_n 0, 1) := by decide +kernel
theorem dL_areAlike_1 : decode cL_areAlike 1 = .ok (.invokevirtual 59, 3) := by decide +kernel
theorem dL_areAlike_4 : decode cL_areAlike 4 = .ok (.aload_n 1, 1) := by decide +kernel
theorem dL_areAlike_5 : decode cL_areAlike 5 = .ok (.invokevirtual 59, 3) := by decide +kernel
theorem dL_areAlike_8 : decode cL_areAlike 8 = .ok (.if_icmp .ne 73, 3) := by decide +kernel
theorem dL_areAlike_11 : decode cL_areAlike 11 = .ok (.aload_n 0, 1) := by decide +kernel
theorem dL_areAlike_12 : decode cL_areAlike 12 = .ok (.invokevirtual 68, 3) := by decide +kernel
theorem dL_areAlike_15 : decode cL_areAlike 15 = .ok (.aload_n 1, 1) := by decide +kernel
theorem dL_areAlike_16 : decode cL_areAlike 16 = .ok (.invokevirtual 68, 3) := by decide +kernel
theorem dL_areAlike_19 : decode cL_areAlike 19 = .ok (.if_icmp .ne 62, 3) := by decide +kernel
theorem dL_areAlike_22 : decode cL_areAlike 22 = .ok (.aload_n 0, 1) := by decide +kernel
theorem dL_areAlike_23 : decode cL_areAlike 23 = .ok (.invokevirtual 77, 3) := by decide +kernel
theorem dL_areAlike_26 : decode cL_areAlike 26 = .ok (.aload_n 1, 1) := by decide +kernel
theorem dL_areAlike_27 : decode cL_areAlike 27 = .ok (.invokevirtual 77, 3) := by decide +kernel
theorem dL_areAlike_30 : decode cL_areAlike 30 = .ok (.if_icmp .ne 51, 3) := by decide +kernel
theorem dL_areAlike_33 : decode cL_areAlike 33 = .ok (.aload_n 0, 1) := by decide +kernel
theorem dL_areAlike_34 : decode cL_areAlike 34 = .ok (.invokevirtual 84, 3) := by decide +kernel
theorem dL_areAlike_37 : decode cL_areAlike 37 = .ok (.aload_n 1, 1) := by decide +kernel
theorem dL_areAlike_38 : decode cL_areAlike 38 = .ok (.invokevirtual 84, 3) := by decide +kernel
theorem dL_areAlike_41 : decode cL_areAlike 41 = .ok (.if_icmp .ne 40, 3) := by decide +kernel
theorem dL_areAlike_44 : decode cL_areAlike 44 = .ok (.aload_n 0, 1) := by decide +kernel
theorem dL_areAlike_45 : decode cL_areAlike 45 = .ok (.invokevirtual 87, 3) := by decide +kernel
theorem dL_areAlike_48 : decode cL_areAlike 48 = .ok (.aload_n 1, 1) := by decide +kernel
theorem dL_areAlike_49 : decode cL_areAlike 49 = .ok (.invokevirtual 87, 3) := by decide +kernel
theorem dL_areAlike_52 : decode cL_areAlike 52 = .ok (.if_icmp .ne 29, 3) := by decide +kernel
theorem dL_areAlike_55 : decode cL_areAlike 55 = .ok (.aload_n 0, 1) := by decide +kernel
theorem dL_areAlike_56 : decode cL_areAlike 56 = .ok (.invokestatic 90, 3) := by decide +kernel
theorem dL_areAlike_59 : decode cL_areAlike 59 = .ok (.aload_n 1, 1) := by decide +kernel
theorem dL_areAlike_60 : decode cL_areAlike 60 = .ok (.invokestatic 90, 3) := by decide +kernel
theorem dL_areAlike_63 : decode cL_areAlike 63 = .ok (.if_icmp .ne 18, 3) := by decide +kernel
theorem dL_areAlike_66 : decode cL_areAlike 66 = .ok (.aload_n 0, 1) := by decide +kernel
theorem dL_areAlike_67 : decode cL_areAlike 67 = .ok (.invokevirtual 93, 3) := by decide +kernel
theorem dL_areAlike_70 : decode cL_areAlike 70 = .ok (.aload_n 1, 1) := by decide +kernel
theorem dL_areAlike_71 : decode cL_areAlike 71 = .ok (.invokevirtual 93, 3) := by decide +kernel
theorem dL_areAlike_74 : decode cL_areAlike 74 = .ok (.if_icmp .ne 7, 3) := by decide +kernel
theorem dL_areAlike_77 : decode cL_areAlike 77 = .ok (.iconst 1, 1) := by decide +kernel
theorem dL_areAlike_78 : decode cL_areAlike 78 = .ok (.goto 4, 3) := by decide +kernel
theorem dL_areAlike_81 : decode cL_areAlike 81 = .ok (.iconst 0, 1) := by decide +kernel
theorem dL_areAlike_82 : decode cL_areAlike 82 = .ok (.istore_n 2, 1) := by decide +kernel
theorem dL_areAlike_83 : decode cL_areAlike 83 = .ok (.iconst 0, 1) := by decide +kernel
theorem dL_areAlike_84 : decode cL_areAlike 84 = .ok (.istore_n 3, 1) := by decide +kernel
theorem dL_areAlike_85 : decode cL_areAlike 85 = .ok (.iload_n 3, 1) := by decide +kernel
theorem dL_areAlike_86 : decode cL_areAlike 86 = .ok (.aload_n 0, 1) := by decide +kernel
theorem dL_areAlike_87 : decode cL_areAlike 87 = .ok (.invokevirtual 59, 3) := by decide +kernel
theorem dL_areAlike_90 : decode cL_areAlike 90 = .ok (.if_icmp .ge 45, 3) := by decide +kernel
theorem dL_areAlike_93 : decode cL_areAlike 93 = .ok (.iload_n 2, 1) := by decide +kernel
theorem dL_areAlike_94 : decode cL_areAlike 94 = .ok (.ifCond .eq 41, 3) := by decide +kernel
theorem dL_areAlike_97 : decode cL_areAlike 97 = .ok (.aload_n 0, 1) := by decide +kernel
theorem dL_areAlike_98 : decode cL_areAlike 98 = .ok (.iload_n 3, 1) := by decide +kernel
theorem dL_areAlike_99 : decode cL_areAlike 99 = .ok (.invokevirtual 96, 3) := by decide +kernel
theorem dL_areAlike_102 : decode cL_areAlike 102 = .ok (.aload_n 1, 1) := by decide +kernel
theorem dL_areAlike_103 : decode cL_areAlike 103 = .ok (.iload_n 3, 1) := by decide +kernel
theorem dL_areAlike_104 : decode cL_areAlike 104 = .ok (.invokevirtual 96, 3) := by decide +kernel
theorem dL_areAlike_107 : decode cL_areAlike 107 = .ok (.if_icmp .ne 20, 3) := by decide +kernel
theorem dL_areAlike_110 : decode cL_areAlike 110 = .ok (.aload_n 0, 1) := by decide +kernel
theorem dL_areAlike_111 : decode cL_areAlike 111 = .ok (.iload_n 3, 1) := by decide +kernel
theorem dL_areAlike_112 : decode cL_areAlike 112 = .ok (.invokevirtual 99, 3) := by decide +kernel
theorem dL_areAlike_115 : decode cL_areAlike 115 = .ok (.aload_n 1, 1) := by decide +kernel
theorem dL_areAlike_116 : decode cL_areAlike 116 = .ok (.iload_n 3, 1) := by decide +kernel
theorem dL_areAlike_117 : decode cL_areAlike 117 = .ok (.invokevirtual 99, 3) := by decide +kernel
theorem dL_areAlike_120 : decode cL_areAlike 120 = .ok (.if_icmp .ne 7, 3) := by decide +kernel
theorem dL_areAlike_123 : decode cL_areAlike 123 = .ok (.iconst 1, 1) := by decide +kernel
theorem dL_areAlike_124 : decode cL_areAlike 124 = .ok (.goto 4, 3) := by decide +kernel
theorem dL_areAlike_127 : decode cL_areAlike 127 = .ok (.iconst 0, 1) := by decide +kernel
theorem dL_areAlike_128 : decode cL_areAlike 128 = .ok (.istore_n 2, 1) := by decide +kernel
theorem dL_areAlike_129 : decode cL_areAlike 129 = .ok (.iinc 3 1, 3) := by decide +kernel
theorem dL_areAlike_132 : decode cL_areAlike 132 = .ok (.goto (-47), 3) := by decide +kernel
theorem dL_areAlike_135 : decode cL_areAlike 135 = .ok (.iload_n 2, 1) := by decide +kernel
theorem dL_areAlike_136 : decode cL_areAlike 136 = .ok (.ireturn, 1) := by decide +kernel
theorem dL_arePlacesSo_0 : decode cL_arePlacesSo 0 = .ok (.iconst 0, 1) := by decide +kernel
theorem dL_arePlacesSo_1 : decode cL_arePlacesSo 1 = .ok (.istore_n 1, 1) := by decide +kernel
theorem dL_arePlacesSo_2 : decode cL_arePlacesSo 2 = .ok (.iconst 0, 1) := by decide +kernel
theorem dL_arePlacesSo_3 : decode cL_arePlacesSo 3 = .ok (.istore_n 2, 1) := by decide +kernel
theorem dL_arePlacesSo_4 : decode cL_arePlacesSo 4 = .ok (.aload_n 0, 1) := by decide +kernel
theorem dL_arePlacesSo_5 : decode cL_arePlacesSo 5 = .ok (.iconst 0, 1) := by decide +kernel
theorem dL_arePlacesSo_6 : decode cL_arePlacesSo 6 = .ok (.invokestatic 102, 3) := by decide +kernel
theorem dL_arePlacesSo_9 : decode cL_arePlacesSo 9 = .ok (.ifCond .ne 16, 3) := by decide +kernel
theorem dL_arePlacesSo_12 : decode cL_arePlacesSo 12 = .ok (.aload_n 0, 1) := by decide +kernel
theorem dL_arePlacesSo_13 : decode cL_arePlacesSo 13 = .ok (.iconst 0, 1) := by decide +kernel
theorem dL_arePlacesSo_14 : decode cL_arePlacesSo 14 = .ok (.invokestatic 104, 3) := by decide +kernel
theorem dL_arePlacesSo_17 : decode cL_arePlacesSo 17 = .ok (.iconst (-1), 1) := by decide +kernel
theorem dL_arePlacesSo_18 : decode cL_arePlacesSo 18 = .ok (.if_icmp .ne 7, 3) := by decide +kernel
theorem dL_arePlacesSo_21 : decode cL_arePlacesSo 21 = .ok (.iconst 1, 1) := by decide +kernel
theorem dL_arePlacesSo_22 : decode cL_arePlacesSo 22 = .ok (.goto 4, 3) := by decide +kernel
theorem dL_arePlacesSo_25 : decode cL_arePlacesSo 25 = .ok (.iconst 0, 1) := by decide +kernel
theorem dL_arePlacesSo_26 : decode cL_arePlacesSo 26 = .ok (.istore_n 3, 1) := by decide +kernel
theorem dL_arePlacesSo_27 : decode cL_arePlacesSo 27 = .ok (.iconst 1, 1) := by decide +kernel
theorem dL_arePlacesSo_28 : decode cL_arePlacesSo 28 = .ok (.istore 4, 2) := by decide +kernel
theorem dL_arePlacesSo_30 : decode cL_arePlacesSo 30 = .ok (.iload 4, 2) := by decide +kernel
theorem dL_arePlacesSo_32 : decode cL_arePlacesSo 32 = .ok (.aload_n 0, 1) := by decide +kernel
theorem dL_arePlacesSo_33 : decode cL_arePlacesSo 33 = .ok (.invokevirtual 59, 3) := by decide +kernel
theorem dL_arePlacesSo_36 : decode cL_arePlacesSo 36 = .ok (.if_icmp .ge 136, 3) := by decide +kernel
theorem dL_arePlacesSo_39 : decode cL_arePlacesSo 39 = .ok (.aload_n 0, 1) := by decide +kernel
theorem dL_arePlacesSo_40 : decode cL_arePlacesSo 40 = .ok (.iload 4, 2) := by decide +kernel
theorem dL_arePlacesSo_42 : decode cL_arePlacesSo 42 = .ok (.invokestatic 102, 3) := by decide +kernel
theorem dL_arePlacesSo_45 : decode cL_arePlacesSo 45 = .ok (.istore 5, 2) := by decide +kernel
theorem dL_arePlacesSo_47 : decode cL_arePlacesSo 47 = .ok (.iload_n 1, 1) := by decide +kernel
theorem dL_arePlacesSo_48 : decode cL_arePlacesSo 48 = .ok (.aload_n 0, 1) := by decide +kernel
theorem dL_arePlacesSo_49 : decode cL_arePlacesSo 49 = .ok (.iload 4, 2) := by decide +kernel
theorem dL_arePlacesSo_51 : decode cL_arePlacesSo 51 = .ok (.invokevirtual 96, 3) := by decide +kernel
theorem dL_arePlacesSo_54 : decode cL_arePlacesSo 54 = .ok (.iadd, 1) := by decide +kernel
theorem dL_arePlacesSo_55 : decode cL_arePlacesSo 55 = .ok (.istore_n 1, 1) := by decide +kernel
theorem dL_arePlacesSo_56 : decode cL_arePlacesSo 56 = .ok (.iload_n 2, 1) := by decide +kernel
theorem dL_arePlacesSo_57 : decode cL_arePlacesSo 57 = .ok (.iload 5, 2) := by decide +kernel
theorem dL_arePlacesSo_59 : decode cL_arePlacesSo 59 = .ok (.ifCond .ge 12, 3) := by decide +kernel
theorem dL_arePlacesSo_62 : decode cL_arePlacesSo 62 = .ok (.aload_n 0, 1) := by decide +kernel
theorem dL_arePlacesSo_63 : decode cL_arePlacesSo 63 = .ok (.iload 4, 2) := by decide +kernel
theorem dL_arePlacesSo_65 : decode cL_arePlacesSo 65 = .ok (.invokevirtual 96, 3) := by decide +kernel
theorem dL_arePlacesSo_68 : decode cL_arePlacesSo 68 = .ok (.goto 4, 3) := by decide +kernel
theorem dL_arePlacesSo_71 : decode cL_arePlacesSo 71 = .ok (.iconst 0, 1) := by decide +kernel
theorem dL_arePlacesSo_72 : decode cL_arePlacesSo 72 = .ok (.iadd, 1) := by decide +kernel
theorem dL_arePlacesSo_73 : decode cL_arePlacesSo 73 = .ok (.istore_n 2, 1) := by decide +kernel
theorem dL_arePlacesSo_74 : decode cL_arePlacesSo 74 = .ok (.aload_n 0, 1) := by decide +kernel
theorem dL_arePlacesSo_75 : decode cL_arePlacesSo 75 = .ok (.iload 4, 2) := by decide +kernel
theorem dL_arePlacesSo_77 : decode cL_arePlacesSo 77 = .ok (.invokevirtual 99, 3) := by decide +kernel
theorem dL_arePlacesSo_80 : decode cL_arePlacesSo 80 = .ok (.istore 6, 2) := by decide +kernel
theorem dL_arePlacesSo_82 : decode cL_arePlacesSo 82 = .ok (.iload_n 3, 1) := by decide +kernel
theorem dL_arePlacesSo_83 : decode cL_arePlacesSo 83 = .ok (.ifCond .eq 81, 3) := by decide +kernel
theorem dL_arePlacesSo_86 : decode cL_arePlacesSo 86 = .ok (.iload 5, 2) := by decide +kernel
theorem dL_arePlacesSo_88 : decode cL_arePlacesSo 88 = .ok (.ifCond .ge 7, 3) := by decide +kernel
theorem dL_arePlacesSo_91 : decode cL_arePlacesSo 91 = .ok (.iconst 1, 1) := by decide +kernel
theorem dL_arePlacesSo_92 : decode cL_arePlacesSo 92 = .ok (.goto 4, 3) := by decide +kernel
theorem dL_arePlacesSo_95 : decode cL_arePlacesSo 95 = .ok (.iconst 0, 1) := by decide +kernel
theorem dL_arePlacesSo_96 : decode cL_arePlacesSo 96 = .ok (.aload_n 0, 1) := by decide +kernel
theorem dL_arePlacesSo_97 : decode cL_arePlacesSo 97 = .ok (.iload 4, 2) := by decide +kernel
theorem dL_arePlacesSo_99 : decode cL_arePlacesSo 99 = .ok (.invokestatic 104, 3) := by decide +kernel
theorem dL_arePlacesSo_102 : decode cL_arePlacesSo 102 = .ok (.ifCond .ge 7, 3) := by decide +kernel
theorem dL_arePlacesSo_105 : decode cL_arePlacesSo 105 = .ok (.iconst 1, 1) := by decide +kernel
theorem dL_arePlacesSo_106 : decode cL_arePlacesSo 106 = .ok (.goto 4, 3) := by decide +kernel
theorem dL_arePlacesSo_109 : decode cL_arePlacesSo 109 = .ok (.iconst 0, 1) := by decide +kernel
theorem dL_arePlacesSo_110 : decode cL_arePlacesSo 110 = .ok (.if_icmp .ne 54, 3) := by decide +kernel
theorem dL_arePlacesSo_113 : decode cL_arePlacesSo 113 = .ok (.iload 5, 2) := by decide +kernel
theorem dL_arePlacesSo_115 : decode cL_arePlacesSo 115 = .ok (.ifCond .eq 49, 3) := by decide +kernel
theorem dL_arePlacesSo_118 : decode cL_arePlacesSo 118 = .ok (.iload 5, 2) := by decide +kernel
theorem dL_arePlacesSo_120 : decode cL_arePlacesSo 120 = .ok (.aload_n 0, 1) := by decide +kernel
theorem dL_arePlacesSo_121 : decode cL_arePlacesSo 121 = .ok (.invokevirtual 59, 3) := by decide +kernel
theorem dL_arePlacesSo_124 : decode cL_arePlacesSo 124 = .ok (.if_icmp .ge 40, 3) := by decide +kernel
theorem dL_arePlacesSo_127 : decode cL_arePlacesSo 127 = .ok (.iload 6, 2) := by decide +kernel
theorem dL_arePlacesSo_129 : decode cL_arePlacesSo 129 = .ok (.ifCond .lt 35, 3) := by decide +kernel
theorem dL_arePlacesSo_132 : decode cL_arePlacesSo 132 = .ok (.iload 6, 2) := by decide +kernel
theorem dL_arePlacesSo_134 : decode cL_arePlacesSo 134 = .ok (.aload_n 0, 1) := by decide +kernel
theorem dL_arePlacesSo_135 : decode cL_arePlacesSo 135 = .ok (.iload 4, 2) := by decide +kernel
theorem dL_arePlacesSo_137 : decode cL_arePlacesSo 137 = .ok (.invokevirtual 96, 3) := by decide +kernel
theorem dL_arePlacesSo_140 : decode cL_arePlacesSo 140 = .ok (.if_icmp .gt 24, 3) := by decide +kernel
theorem dL_arePlacesSo_143 : decode cL_arePlacesSo 143 = .ok (.iload 6, 2) := by decide +kernel
theorem dL_arePlacesSo_145 : decode cL_arePlacesSo 145 = .ok (.bipush 9, 2) := by decide +kernel
theorem dL_arePlacesSo_147 : decode cL_arePlacesSo 147 = .ok (.if_icmp .gt 17, 3) := by decide +kernel
theorem dL_arePlacesSo_150 : decode cL_arePlacesSo 150 = .ok (.iload 5, 2) := by decide +kernel
theorem dL_arePlacesSo_152 : decode cL_arePlacesSo 152 = .ok (.ifCond .ge 8, 3) := by decide +kernel
theorem dL_arePlacesSo_155 : decode cL_arePlacesSo 155 = .ok (.iload 6, 2) := by decide +kernel
theorem dL_arePlacesSo_157 : decode cL_arePlacesSo 157 = .ok (.ifCond .ne 7, 3) := by decide +kernel
theorem dL_arePlacesSo_160 : decode cL_arePlacesSo 160 = .ok (.iconst 1, 1) := by decide +kernel
theorem dL_arePlacesSo_161 : decode cL_arePlacesSo 161 = .ok (.goto 4, 3) := by decide +kernel
theorem dL_arePlacesSo_164 : decode cL_arePlacesSo 164 = .ok (.iconst 0, 1) := by decide +kernel
theorem dL_arePlacesSo_165 : decode cL_arePlacesSo 165 = .ok (.istore_n 3, 1) := by decide +kernel
theorem dL_arePlacesSo_166 : decode cL_arePlacesSo 166 = .ok (.iinc 4 1, 3) := by decide +kernel
theorem dL_arePlacesSo_169 : decode cL_arePlacesSo 169 = .ok (.goto (-139), 3) := by decide +kernel
theorem dL_arePlacesSo_172 : decode cL_arePlacesSo 172 = .ok (.aload_n 0, 1) := by decide +kernel
theorem dL_arePlacesSo_173 : decode cL_arePlacesSo 173 = .ok (.invokestatic 106, 3) := by decide +kernel
theorem dL_arePlacesSo_176 : decode cL_arePlacesSo 176 = .ok (.istore 4, 2) := by decide +kernel
theorem dL_arePlacesSo_178 : decode cL_arePlacesSo 178 = .ok (.iload_n 3, 1) := by decide +kernel
theorem dL_arePlacesSo_179 : decode cL_arePlacesSo 179 = .ok (.ifCond .eq 67, 3) := by decide +kernel
theorem dL_arePlacesSo_182 : decode cL_arePlacesSo 182 = .ok (.aload_n 0, 1) := by decide +kernel
theorem dL_arePlacesSo_183 : decode cL_arePlacesSo 183 = .ok (.invokevirtual 84, 3) := by decide +kernel
theorem dL_arePlacesSo_186 : decode cL_arePlacesSo 186 = .ok (.iload_n 1, 1) := by decide +kernel
theorem dL_arePlacesSo_187 : decode cL_arePlacesSo 187 = .ok (.if_icmp .ne 59, 3) := by decide +kernel
theorem dL_arePlacesSo_190 : decode cL_arePlacesSo 190 = .ok (.aload_n 0, 1) := by decide +kernel
theorem dL_arePlacesSo_191 : decode cL_arePlacesSo 191 = .ok (.invokevirtual 93, 3) := by decide +kernel
theorem dL_arePlacesSo_194 : decode cL_arePlacesSo 194 = .ok (.iload_n 2, 1) := by decide +kernel
theorem dL_arePlacesSo_195 : decode cL_arePlacesSo 195 = .ok (.if_icmp .ne 51, 3) := by decide +kernel
theorem dL_arePlacesSo_198 : decode cL_arePlacesSo 198 = .ok (.iload 4, 2) := by decide +kernel
theorem dL_arePlacesSo_200 : decode cL_arePlacesSo 200 = .ok (.ifCond .ge 7, 3) := by decide +kernel
theorem dL_arePlacesSo_203 : decode cL_arePlacesSo 203 = .ok (.iconst 1, 1) := by decide +kernel
theorem dL_arePlacesSo_204 : decode cL_arePlacesSo 204 = .ok (.goto 4, 3) := by decide +kernel
theorem dL_arePlacesSo_207 : decode cL_arePlacesSo 207 = .ok (.iconst 0, 1) := by decide +kernel
theorem dL_arePlacesSo_208 : decode cL_arePlacesSo 208 = .ok (.iload_n 2, 1) := by decide +kernel
theorem dL_arePlacesSo_209 : decode cL_arePlacesSo 209 = .ok (.ifCond .le 7, 3) := by decide +kernel
theorem dL_arePlacesSo_212 : decode cL_arePlacesSo 212 = .ok (.iconst 1, 1) := by decide +kernel
theorem dL_arePlacesSo_213 : decode cL_arePlacesSo 213 = .ok (.goto 4, 3) := by decide +kernel
theorem dL_arePlacesSo_216 : decode cL_arePlacesSo 216 = .ok (.iconst 0, 1) := by decide +kernel
theorem dL_arePlacesSo_217 : decode cL_arePlacesSo 217 = .ok (.if_icmp .ne 29, 3) := by decide +kernel
theorem dL_arePlacesSo_220 : decode cL_arePlacesSo 220 = .ok (.iload 4, 2) := by decide +kernel
theorem dL_arePlacesSo_222 : decode cL_arePlacesSo 222 = .ok (.ifCond .ne 7, 3) := by decide +kernel
theorem dL_arePlacesSo_225 : decode cL_arePlacesSo 225 = .ok (.iconst 1, 1) := by decide +kernel
theorem dL_arePlacesSo_226 : decode cL_arePlacesSo 226 = .ok (.goto 4, 3) := by decide +kernel
theorem dL_arePlacesSo_229 : decode cL_arePlacesSo 229 = .ok (.iconst 0, 1) := by decide +kernel
theorem dL_arePlacesSo_230 : decode cL_arePlacesSo 230 = .ok (.iload_n 1, 1) := by decide +kernel
theorem dL_arePlacesSo_231 : decode cL_arePlacesSo 231 = .ok (.ifCond .ne 7, 3) := by decide +kernel
theorem dL_arePlacesSo_234 : decode cL_arePlacesSo 234 = .ok (.iconst 1, 1) := by decide +kernel
theorem dL_arePlacesSo_235 : decode cL_arePlacesSo 235 = .ok (.goto 4, 3) := by decide +kernel
theorem dL_arePlacesSo_238 : decode cL_arePlacesSo 238 = .ok (.iconst 0, 1) := by decide +kernel
theorem dL_arePlacesSo_239 : decode cL_arePlacesSo 239 = .ok (.if_icmp .ne 7, 3) := by decide +kernel
theorem dL_arePlacesSo_242 : decode cL_arePlacesSo 242 = .ok (.iconst 1, 1) := by decide +kernel
theorem dL_arePlacesSo_243 : decode cL_arePlacesSo 243 = .ok (.goto 4, 3) := by decide +kernel
theorem dL_arePlacesSo_246 : decode cL_arePlacesSo 246 = .ok (.iconst 0, 1) := by decide +kernel
theorem dL_arePlacesSo_247 : decode cL_arePlacesSo 247 = .ok (.ireturn, 1) := by decide +kernel
theorem dL_isStepSo_0 : decode cL_isStepSo 0 = .ok (.aload_n 0, 1) := by decide +kernel
theorem dL_isStepSo_1 : decode cL_isStepSo 1 = .ok (.invokevirtual 84, 3) := by decide +kernel
theorem dL_isStepSo_4 : decode cL_isStepSo 4 = .ok (.aload_n 0, 1) := by decide +kernel
theorem dL_isStepSo_5 : decode cL_isStepSo 5 = .ok (.iconst 0, 1) := by decide +kernel
theorem dL_isStepSo_6 : decode cL_isStepSo 6 = .ok (.invokevirtual 96, 3) := by decide +kernel
theorem dL_isStepSo_9 : decode cL_isStepSo 9 = .ok (.iadd, 1) := by decide +kernel
theorem dL_isStepSo_10 : decode cL_isStepSo 10 = .ok (.istore_n 2, 1) := by decide +kernel
theorem dL_isStepSo_11 : decode cL_isStepSo 11 = .ok (.iconst 0, 1) := by decide +kernel
theorem dL_isStepSo_12 : decode cL_isStepSo 12 = .ok (.istore_n 3, 1) := by decide +kernel
theorem dL_isStepSo_13 : decode cL_isStepSo 13 = .ok (.iconst 0, 1) := by decide +kernel
theorem dL_isStepSo_14 : decode cL_isStepSo 14 = .ok (.istore 4, 2) := by decide +kernel
theorem dL_isStepSo_16 : decode cL_isStepSo 16 = .ok (.iload 4, 2) := by decide +kernel
theorem dL_isStepSo_18 : decode cL_isStepSo 18 = .ok (.aload_n 0, 1) := by decide +kernel
theorem dL_isStepSo_19 : decode cL_isStepSo 19 = .ok (.invokevirtual 59, 3) := by decide +kernel
theorem dL_isStepSo_22 : decode cL_isStepSo 22 = .ok (.if_icmp .ge 43, 3) := by decide +kernel
theorem dL_isStepSo_25 : decode cL_isStepSo 25 = .ok (.aload_n 1, 1) := by decide +kernel
theorem dL_isStepSo_26 : decode cL_isStepSo 26 = .ok (.iload 4, 2) := by decide +kernel
theorem dL_isStepSo_28 : decode cL_isStepSo 28 = .ok (.aload_n 0, 1) := by decide +kernel
theorem dL_isStepSo_29 : decode cL_isStepSo 29 = .ok (.iload 4, 2) := by decide +kernel
theorem dL_isStepSo_31 : decode cL_isStepSo 31 = .ok (.invokevirtual 96, 3) := by decide +kernel
theorem dL_isStepSo_34 : decode cL_isStepSo 34 = .ok (.i2l, 1) := by decide +kernel
theorem dL_isStepSo_35 : decode cL_isStepSo 35 = .ok (.lastore, 1) := by decide +kernel
theorem dL_isStepSo_36 : decode cL_isStepSo 36 = .ok (.aload_n 1, 1) := by decide +kernel
theorem dL_isStepSo_37 : decode cL_isStepSo 37 = .ok (.bipush 12, 2) := by decide +kernel
theorem dL_isStepSo_39 : decode cL_isStepSo 39 = .ok (.iload 4, 2) := by decide +kernel
theorem dL_isStepSo_41 : decode cL_isStepSo 41 = .ok (.iadd, 1) := by decide +kernel
theorem dL_isStepSo_42 : decode cL_isStepSo 42 = .ok (.aload_n 0, 1) := by decide +kernel
theorem dL_isStepSo_43 : decode cL_isStepSo 43 = .ok (.iload 4, 2) := by decide +kernel
theorem dL_isStepSo_45 : decode cL_isStepSo 45 = .ok (.invokevirtual 99, 3) := by decide +kernel
theorem dL_isStepSo_48 : decode cL_isStepSo 48 = .ok (.i2l, 1) := by decide +kernel
theorem dL_isStepSo_49 : decode cL_isStepSo 49 = .ok (.lastore, 1) := by decide +kernel
theorem dL_isStepSo_50 : decode cL_isStepSo 50 = .ok (.iload_n 3, 1) := by decide +kernel
theorem dL_isStepSo_51 : decode cL_isStepSo 51 = .ok (.aload_n 0, 1) := by decide +kernel
theorem dL_isStepSo_52 : decode cL_isStepSo 52 = .ok (.iload 4, 2) := by decide +kernel
theorem dL_isStepSo_54 : decode cL_isStepSo 54 = .ok (.invokevirtual 99, 3) := by decide +kernel
theorem dL_isStepSo_57 : decode cL_isStepSo 57 = .ok (.iadd, 1) := by decide +kernel
theorem dL_isStepSo_58 : decode cL_isStepSo 58 = .ok (.istore_n 3, 1) := by decide +kernel
theorem dL_isStepSo_59 : decode cL_isStepSo 59 = .ok (.iinc 4 1, 3) := by decide +kernel
theorem dL_isStepSo_62 : decode cL_isStepSo 62 = .ok (.goto (-46), 3) := by decide +kernel
theorem dL_isStepSo_65 : decode cL_isStepSo 65 = .ok (.iconst 0, 1) := by decide +kernel
theorem dL_isStepSo_66 : decode cL_isStepSo 66 = .ok (.istore 4, 2) := by decide +kernel
theorem dL_isStepSo_68 : decode cL_isStepSo 68 = .ok (.iload 4, 2) := by decide +kernel
theorem dL_isStepSo_70 : decode cL_isStepSo 70 = .ok (.aload_n 0, 1) := by decide +kernel
theorem dL_isStepSo_71 : decode cL_isStepSo 71 = .ok (.invokevirtual 68, 3) := by decide +kernel
theorem dL_isStepSo_74 : decode cL_isStepSo 74 = .ok (.if_icmp .ge 23, 3) := by decide +kernel
theorem dL_isStepSo_77 : decode cL_isStepSo 77 = .ok (.aload_n 1, 1) := by decide +kernel
theorem dL_isStepSo_78 : decode cL_isStepSo 78 = .ok (.bipush 24, 2) := by decide +kernel
theorem dL_isStepSo_80 : decode cL_isStepSo 80 = .ok (.iload 4, 2) := by decide +kernel
theorem dL_isStepSo_82 : decode cL_isStepSo 82 = .ok (.iadd, 1) := by decide +kernel
theorem dL_isStepSo_83 : decode cL_isStepSo 83 = .ok (.aload_n 0, 1) := by decide +kernel
theorem dL_isStepSo_84 : decode cL_isStepSo 84 = .ok (.iload 4, 2) := by decide +kernel
theorem dL_isStepSo_86 : decode cL_isStepSo 86 = .ok (.invokevirtual 108, 3) := by decide +kernel
theorem dL_isStepSo_89 : decode cL_isStepSo 89 = .ok (.i2l, 1) := by decide +kernel
theorem dL_isStepSo_90 : decode cL_isStepSo 90 = .ok (.lastore, 1) := by decide +kernel
theorem dL_isStepSo_91 : decode cL_isStepSo 91 = .ok (.iinc 4 1, 3) := by decide +kernel
theorem dL_isStepSo_94 : decode cL_isStepSo 94 = .ok (.goto (-26), 3) := by decide +kernel
theorem dL_isStepSo_97 : decode cL_isStepSo 97 = .ok (.iconst 1, 1) := by decide +kernel
theorem dL_isStepSo_98 : decode cL_isStepSo 98 = .ok (.istore 4, 2) := by decide +kernel
theorem dL_isStepSo_100 : decode cL_isStepSo 100 = .ok (.iload 4, 2) := by decide +kernel
theorem dL_isStepSo_102 : decode cL_isStepSo 102 = .ok (.aload_n 0, 1) := by decide +kernel
theorem dL_isStepSo_103 : decode cL_isStepSo 103 = .ok (.invokevirtual 59, 3) := by decide +kernel
theorem dL_isStepSo_106 : decode cL_isStepSo 106 = .ok (.if_icmp .ge 56, 3) := by decide +kernel
theorem dL_isStepSo_109 : decode cL_isStepSo 109 = .ok (.aload_n 0, 1) := by decide +kernel
theorem dL_isStepSo_110 : decode cL_isStepSo 110 = .ok (.iload 4, 2) := by decide +kernel
theorem dL_isStepSo_112 : decode cL_isStepSo 112 = .ok (.invokestatic 104, 3) := by decide +kernel
theorem dL_isStepSo_115 : decode cL_isStepSo 115 = .ok (.istore 5, 2) := by decide +kernel
theorem dL_isStepSo_117 : decode cL_isStepSo 117 = .ok (.iload 5, 2) := by decide +kernel
theorem dL_isStepSo_119 : decode cL_isStepSo 119 = .ok (.ifCond .lt 23, 3) := by decide +kernel
theorem dL_isStepSo_122 : decode cL_isStepSo 122 = .ok (.aload_n 1, 1) := by decide +kernel
theorem dL_isStepSo_123 : decode cL_isStepSo 123 = .ok (.bipush 24, 2) := by decide +kernel
theorem dL_isStepSo_125 : decode cL_isStepSo 125 = .ok (.iload 5, 2) := by decide +kernel
theorem dL_isStepSo_127 : decode cL_isStepSo 127 = .ok (.iadd, 1) := by decide +kernel
theorem dL_isStepSo_128 : decode cL_isStepSo 128 = .ok (.dup2, 1) := by decide +kernel
theorem dL_isStepSo_129 : decode cL_isStepSo 129 = .ok (.laload, 1) := by decide +kernel
theorem dL_isStepSo_130 : decode cL_isStepSo 130 = .ok (.aload_n 1, 1) := by decide +kernel
theorem dL_isStepSo_131 : decode cL_isStepSo 131 = .ok (.bipush 12, 2) := by decide +kernel
theorem dL_isStepSo_133 : decode cL_isStepSo 133 = .ok (.iload 4, 2) := by decide +kernel
theorem dL_isStepSo_135 : decode cL_isStepSo 135 = .ok (.iadd, 1) := by decide +kernel
theorem dL_isStepSo_136 : decode cL_isStepSo 136 = .ok (.laload, 1) := by decide +kernel
theorem dL_isStepSo_137 : decode cL_isStepSo 137 = .ok (.ladd, 1) := by decide +kernel
theorem dL_isStepSo_138 : decode cL_isStepSo 138 = .ok (.lastore, 1) := by decide +kernel
theorem dL_isStepSo_139 : decode cL_isStepSo 139 = .ok (.goto 17, 3) := by decide +kernel
theorem dL_isStepSo_142 : decode cL_isStepSo 142 = .ok (.aload_n 1, 1) := by decide +kernel
theorem dL_isStepSo_143 : decode cL_isStepSo 143 = .ok (.bipush 12, 2) := by decide +kernel
theorem dL_isStepSo_145 : decode cL_isStepSo 145 = .ok (.iload 4, 2) := by decide +kernel
theorem dL_isStepSo_147 : decode cL_isStepSo 147 = .ok (.iadd, 1) := by decide +kernel
theorem dL_isStepSo_148 : decode cL_isStepSo 148 = .ok (.laload, 1) := by decide +kernel
theorem dL_isStepSo_149 : decode cL_isStepSo 149 = .ok (.lconst 0, 1) := by decide +kernel
theorem dL_isStepSo_150 : decode cL_isStepSo 150 = .ok (.lcmp, 1) := by decide +kernel
theorem dL_isStepSo_151 : decode cL_isStepSo 151 = .ok (.ifCond .eq 5, 3) := by decide +kernel
theorem dL_isStepSo_154 : decode cL_isStepSo 154 = .ok (.iconst 0, 1) := by decide +kernel
theorem dL_isStepSo_155 : decode cL_isStepSo 155 = .ok (.ireturn, 1) := by decide +kernel
theorem dL_isStepSo_156 : decode cL_isStepSo 156 = .ok (.iinc 4 1, 3) := by decide +kernel
theorem dL_isStepSo_159 : decode cL_isStepSo 159 = .ok (.goto (-59), 3) := by decide +kernel
theorem dL_isStepSo_162 : decode cL_isStepSo 162 = .ok (.aload_n 0, 1) := by decide +kernel
theorem dL_isStepSo_163 : decode cL_isStepSo 163 = .ok (.invokevirtual 87, 3) := by decide +kernel
theorem dL_isStepSo_166 : decode cL_isStepSo 166 = .ok (.istore 4, 2) := by decide +kernel
theorem dL_isStepSo_168 : decode cL_isStepSo 168 = .ok (.aload_n 0, 1) := by decide +kernel
theorem dL_isStepSo_169 : decode cL_isStepSo 169 = .ok (.invokevirtual 77, 3) := by decide +kernel
theorem dL_isStepSo_172 : decode cL_isStepSo 172 = .ok (.istore 5, 2) := by decide +kernel
theorem dL_isStepSo_174 : decode cL_isStepSo 174 = .ok (.aload_n 0, 1) := by decide +kernel
theorem dL_isStepSo_175 : decode cL_isStepSo 175 = .ok (.iconst 1, 1) := by decide +kernel
theorem dL_isStepSo_176 : decode cL_isStepSo 176 = .ok (.invokevirtual 36, 3) := by decide +kernel
theorem dL_isStepSo_179 : decode cL_isStepSo 179 = .ok (.istore 6, 2) := by decide +kernel
theorem dL_isStepSo_181 : decode cL_isStepSo 181 = .ok (.iconst 0, 1) := by decide +kernel
theorem dL_isStepSo_182 : decode cL_isStepSo 182 = .ok (.istore 7, 2) := by decide +kernel
theorem dL_isStepSo_184 : decode cL_isStepSo 184 = .ok (.aload_n 0, 1) := by decide +kernel
theorem dL_isStepSo_185 : decode cL_isStepSo 185 = .ok (.invokevirtual 84, 3) := by decide +kernel
theorem dL_isStepSo_188 : decode cL_isStepSo 188 = .ok (.aload_n 0, 1) := by decide +kernel
theorem dL_isStepSo_189 : decode cL_isStepSo 189 = .ok (.iconst 0, 1) := by decide +kernel
theorem dL_isStepSo_190 : decode cL_isStepSo 190 = .ok (.invokevirtual 96, 3) := by decide +kernel
theorem dL_isStepSo_193 : decode cL_isStepSo 193 = .ok (.iadd, 1) := by decide +kernel
theorem dL_isStepSo_194 : decode cL_isStepSo 194 = .ok (.iload_n 2, 1) := by decide +kernel
theorem dL_isStepSo_195 : decode cL_isStepSo 195 = .ok (.if_icmp .ne 65, 3) := by decide +kernel
theorem dL_isStepSo_198 : decode cL_isStepSo 198 = .ok (.aload_n 0, 1) := by decide +kernel
theorem dL_isStepSo_199 : decode cL_isStepSo 199 = .ok (.invokevirtual 77, 3) := by decide +kernel
theorem dL_isStepSo_202 : decode cL_isStepSo 202 = .ok (.iload 5, 2) := by decide +kernel
theorem dL_isStepSo_204 : decode cL_isStepSo 204 = .ok (.iconst 1, 1) := by decide +kernel
theorem dL_isStepSo_205 : decode cL_isStepSo 205 = .ok (.iadd, 1) := by decide +kernel
theorem dL_isStepSo_206 : decode cL_isStepSo 206 = .ok (.if_icmp .ne 54, 3) := by decide +kernel
theorem dL_isStepSo_209 : decode cL_isStepSo 209 = .ok (.aload_n 0, 1) := by decide +kernel
theorem dL_isStepSo_210 : decode cL_isStepSo 210 = .ok (.invokevirtual 87, 3) := by decide +kernel
theorem dL_isStepSo_213 : decode cL_isStepSo 213 = .ok (.iload 4, 2) := by decide +kernel
theorem dL_isStepSo_215 : decode cL_isStepSo 215 = .ok (.aload_n 0, 1) := by decide +kernel
theorem dL_isStepSo_216 : decode cL_isStepSo 216 = .ok (.invokevirtual 84, 3) := by decide +kernel
theorem dL_isStepSo_219 : decode cL_isStepSo 219 = .ok (.iadd, 1) := by decide +kernel
theorem dL_isStepSo_220 : decode cL_isStepSo 220 = .ok (.if_icmp .ne 40, 3) := by decide +kernel
theorem dL_isStepSo_223 : decode cL_isStepSo 223 = .ok (.iload 6, 2) := by decide +kernel
theorem dL_isStepSo_225 : decode cL_isStepSo 225 = .ok (.i2l, 1) := by decide +kernel
theorem dL_isStepSo_226 : decode cL_isStepSo 226 = .ok (.aload_n 0, 1) := by decide +kernel
theorem dL_isStepSo_227 : decode cL_isStepSo 227 = .ok (.iconst 0, 1) := by decide +kernel
theorem dL_isStepSo_228 : decode cL_isStepSo 228 = .ok (.invokevirtual 96, 3) := by decide +kernel
theorem dL_isStepSo_231 : decode cL_isStepSo 231 = .ok (.i2l, 1) := by decide +kernel
theorem dL_isStepSo_232 : decode cL_isStepSo 232 = .ok (.aload_n 1, 1) := by decide +kernel
theorem dL_isStepSo_233 : decode cL_isStepSo 233 = .ok (.iconst 0, 1) := by decide +kernel
theorem dL_isStepSo_234 : decode cL_isStepSo 234 = .ok (.laload, 1) := by decide +kernel
theorem dL_isStepSo_235 : decode cL_isStepSo 235 = .ok (.lsub, 1) := by decide +kernel
theorem dL_isStepSo_236 : decode cL_isStepSo 236 = .ok (.lcmp, 1) := by decide +kernel
theorem dL_isStepSo_237 : decode cL_isStepSo 237 = .ok (.ifCond .ne 23, 3) := by decide +kernel
theorem dL_isStepSo_240 : decode cL_isStepSo 240 = .ok (.iload 6, 2) := by decide +kernel
theorem dL_isStepSo_242 : decode cL_isStepSo 242 = .ok (.ifCond .eq 14, 3) := by decide +kernel
theorem dL_isStepSo_245 : decode cL_isStepSo 245 = .ok (.aload_n 0, 1) := by decide +kernel
theorem dL_isStepSo_246 : decode cL_isStepSo 246 = .ok (.invokestatic 90, 3) := by decide +kernel
theorem dL_isStepSo_249 : decode cL_isStepSo 249 = .ok (.iload 5, 2) := by decide +kernel
theorem dL_isStepSo_251 : decode cL_isStepSo 251 = .ok (.iconst 1, 1) := by decide +kernel
theorem dL_isStepSo_252 : decode cL_isStepSo 252 = .ok (.iadd, 1) := by decide +kernel
theorem dL_isStepSo_253 : decode cL_isStepSo 253 = .ok (.if_icmp .ne 7, 3) := by decide +kernel
theorem dL_isStepSo_256 : decode cL_isStepSo 256 = .ok (.iconst 1, 1) := by decide +kernel
theorem dL_isStepSo_257 : decode cL_isStepSo 257 = .ok (.goto 4, 3) := by decide +kernel
theorem dL_isStepSo_260 : decode cL_isStepSo 260 = .ok (.iconst 0, 1) := by decide +kernel
theorem dL_isStepSo_261 : decode cL_isStepSo 261 = .ok (.istore 8, 2) := by decide +kernel
theorem dL_isStepSo_263 : decode cL_isStepSo 263 = .ok (.iconst 1, 1) := by decide +kernel
theorem dL_isStepSo_264 : decode cL_isStepSo 264 = .ok (.istore 9, 2) := by decide +kernel
theorem dL_isStepSo_266 : decode cL_isStepSo 266 = .ok (.iload 9, 2) := by decide +kernel
theorem dL_isStepSo_268 : decode cL_isStepSo 268 = .ok (.aload_n 0, 1) := by decide +kernel
theorem dL_isStepSo_269 : decode cL_isStepSo 269 = .ok (.invokevirtual 59, 3) := by decide +kernel
theorem dL_isStepSo_272 : decode cL_isStepSo 272 = .ok (.if_icmp .ge 64, 3) := by decide +kernel
theorem dL_isStepSo_275 : decode cL_isStepSo 275 = .ok (.aload_n 1, 1) := by decide +kernel
theorem dL_isStepSo_276 : decode cL_isStepSo 276 = .ok (.iload 9, 2) := by decide +kernel
theorem dL_isStepSo_278 : decode cL_isStepSo 278 = .ok (.laload, 1) := by decide +kernel
theorem dL_isStepSo_279 : decode cL_isStepSo 279 = .ok (.aload_n 1, 1) := by decide +kernel
theorem dL_isStepSo_280 : decode cL_isStepSo 280 = .ok (.bipush 12, 2) := by decide +kernel
theorem dL_isStepSo_282 : decode cL_isStepSo 282 = .ok (.iload 9, 2) := by decide +kernel
theorem dL_isStepSo_284 : decode cL_isStepSo 284 = .ok (.iadd, 1) := by decide +kernel
theorem dL_isStepSo_285 : decode cL_isStepSo 285 = .ok (.laload, 1) := by decide +kernel
theorem dL_isStepSo_286 : decode cL_isStepSo 286 = .ok (.lsub, 1) := by decide +kernel
theorem dL_isStepSo_287 : decode cL_isStepSo 287 = .ok (.lstore 10, 2) := by decide +kernel
theorem dL_isStepSo_289 : decode cL_isStepSo 289 = .ok (.iload 8, 2) := by decide +kernel
theorem dL_isStepSo_291 : decode cL_isStepSo 291 = .ok (.ifCond .eq 20, 3) := by decide +kernel
theorem dL_isStepSo_294 : decode cL_isStepSo 294 = .ok (.aload_n 0, 1) := by decide +kernel
theorem dL_isStepSo_295 : decode cL_isStepSo 295 = .ok (.iload 9, 2) := by decide +kernel
theorem dL_isStepSo_297 : decode cL_isStepSo 297 = .ok (.invokevirtual 96, 3) := by decide +kernel
theorem dL_isStepSo_300 : decode cL_isStepSo 300 = .ok (.i2l, 1) := by decide +kernel
theorem dL_isStepSo_301 : decode cL_isStepSo 301 = .ok (.lload 10, 2) := by decide +kernel
theorem dL_isStepSo_303 : decode cL_isStepSo 303 = .ok (.lcmp, 1) := by decide +kernel
theorem dL_isStepSo_304 : decode cL_isStepSo 304 = .ok (.ifCond .lt 7, 3) := by decide +kernel
theorem dL_isStepSo_307 : decode cL_isStepSo 307 = .ok (.iconst 1, 1) := by decide +kernel
theorem dL_isStepSo_308 : decode cL_isStepSo 308 = .ok (.goto 4, 3) := by decide +kernel
theorem dL_isStepSo_311 : decode cL_isStepSo 311 = .ok (.iconst 0, 1) := by decide +kernel
theorem dL_isStepSo_312 : decode cL_isStepSo 312 = .ok (.istore 8, 2) := by decide +kernel
theorem dL_isStepSo_314 : decode cL_isStepSo 314 = .ok (.iload 7, 2) := by decide +kernel
theorem dL_isStepSo_316 : decode cL_isStepSo 316 = .ok (.aload_n 0, 1) := by decide +kernel
theorem dL_isStepSo_317 : decode cL_isStepSo 317 = .ok (.iload 9, 2) := by decide +kernel
theorem dL_isStepSo_319 : decode cL_isStepSo 319 = .ok (.invokevirtual 96, 3) := by decide +kernel
theorem dL_isStepSo_322 : decode cL_isStepSo 322 = .ok (.i2l, 1) := by decide +kernel
theorem dL_isStepSo_323 : decode cL_isStepSo 323 = .ok (.lload 10, 2) := by decide +kernel
theorem dL_isStepSo_325 : decode cL_isStepSo 325 = .ok (.lsub, 1) := by decide +kernel
theorem dL_isStepSo_326 : decode cL_isStepSo 326 = .ok (.l2i, 1) := by decide +kernel
theorem dL_isStepSo_327 : decode cL_isStepSo 327 = .ok (.iadd, 1) := by decide +kernel
theorem dL_isStepSo_328 : decode cL_isStepSo 328 = .ok (.istore 7, 2) := by decide +kernel
theorem dL_isStepSo_330 : decode cL_isStepSo 330 = .ok (.iinc 9 1, 3) := by decide +kernel
theorem dL_isStepSo_333 : decode cL_isStepSo 333 = .ok (.goto (-67), 3) := by decide +kernel
theorem dL_isStepSo_336 : decode cL_isStepSo 336 = .ok (.iconst 0, 1) := by decide +kernel
theorem dL_isStepSo_337 : decode cL_isStepSo 337 = .ok (.istore 9, 2) := by decide +kernel
theorem dL_isStepSo_339 : decode cL_isStepSo 339 = .ok (.iload 9, 2) := by decide +kernel
theorem dL_isStepSo_341 : decode cL_isStepSo 341 = .ok (.aload_n 0, 1) := by decide +kernel
theorem dL_isStepSo_342 : decode cL_isStepSo 342 = .ok (.invokevirtual 68, 3) := by decide +kernel
theorem dL_isStepSo_345 : decode cL_isStepSo 345 = .ok (.if_icmp .ge 39, 3) := by decide +kernel
theorem dL_isStepSo_348 : decode cL_isStepSo 348 = .ok (.iload 8, 2) := by decide +kernel
theorem dL_isStepSo_350 : decode cL_isStepSo 350 = .ok (.ifCond .eq 25, 3) := by decide +kernel
theorem dL_isStepSo_353 : decode cL_isStepSo 353 = .ok (.aload_n 0, 1) := by decide +kernel
theorem dL_isStepSo_354 : decode cL_isStepSo 354 = .ok (.iload 9, 2) := by decide +kernel
theorem dL_isStepSo_356 : decode cL_isStepSo 356 = .ok (.invokevirtual 108, 3) := by decide +kernel
theorem dL_isStepSo_359 : decode cL_isStepSo 359 = .ok (.i2l, 1) := by decide +kernel
theorem dL_isStepSo_360 : decode cL_isStepSo 360 = .ok (.aload_n 1, 1) := by decide +kernel
theorem dL_isStepSo_361 : decode cL_isStepSo 361 = .ok (.bipush 24, 2) := by decide +kernel
theorem dL_isStepSo_363 : decode cL_isStepSo 363 = .ok (.iload 9, 2) := by decide +kernel
theorem dL_isStepSo_365 : decode cL_isStepSo 365 = .ok (.iadd, 1) := by decide +kernel
theorem dL_isStepSo_366 : decode cL_isStepSo 366 = .ok (.laload, 1) := by decide +kernel
theorem dL_isStepSo_367 : decode cL_isStepSo 367 = .ok (.lcmp, 1) := by decide +kernel
theorem dL_isStepSo_368 : decode cL_isStepSo 368 = .ok (.ifCond .ne 7, 3) := by decide +kernel
theorem dL_isStepSo_371 : decode cL_isStepSo 371 = .ok (.iconst 1, 1) := by decide +kernel
theorem dL_isStepSo_372 : decode cL_isStepSo 372 = .ok (.goto 4, 3) := by decide +kernel
theorem dL_isStepSo_375 : decode cL_isStepSo 375 = .ok (.iconst 0, 1) := by decide +kernel
theorem dL_isStepSo_376 : decode cL_isStepSo 376 = .ok (.istore 8, 2) := by decide +kernel
theorem dL_isStepSo_378 : decode cL_isStepSo 378 = .ok (.iinc 9 1, 3) := by decide +kernel
theorem dL_isStepSo_381 : decode cL_isStepSo 381 = .ok (.goto (-42), 3) := by decide +kernel
theorem dL_isStepSo_384 : decode cL_isStepSo 384 = .ok (.iload 8, 2) := by decide +kernel
theorem dL_isStepSo_386 : decode cL_isStepSo 386 = .ok (.ifCond .eq 16, 3) := by decide +kernel
theorem dL_isStepSo_389 : decode cL_isStepSo 389 = .ok (.iload 7, 2) := by decide +kernel
theorem dL_isStepSo_391 : decode cL_isStepSo 391 = .ok (.iload 6, 2) := by decide +kernel
theorem dL_isStepSo_393 : decode cL_isStepSo 393 = .ok (.iadd, 1) := by decide +kernel
theorem dL_isStepSo_394 : decode cL_isStepSo 394 = .ok (.iload_n 3, 1) := by decide +kernel
theorem dL_isStepSo_395 : decode cL_isStepSo 395 = .ok (.if_icmp .ne 7, 3) := by decide +kernel
theorem dL_isStepSo_398 : decode cL_isStepSo 398 = .ok (.iconst 1, 1) := by decide +kernel
theorem dL_isStepSo_399 : decode cL_isStepSo 399 = .ok (.goto 4, 3) := by decide +kernel
theorem dL_isStepSo_402 : decode cL_isStepSo 402 = .ok (.iconst 0, 1) := by decide +kernel
theorem dL_isStepSo_403 : decode cL_isStepSo 403 = .ok (.ireturn, 1) := by decide +kernel
theorem dL_law_0 : decode cL_law 0 = .ok (.new 9, 3) := by decide +kernel
theorem dL_law_3 : decode cL_law 3 = .ok (.dup, 1) := by decide +kernel
theorem dL_law_4 : decode cL_law 4 = .ok (.invokespecial 111, 3) := by decide +kernel
theorem dL_law_7 : decode cL_law 7 = .ok (.astore_n 1, 1) := by decide +kernel
theorem dL_law_8 : decode cL_law 8 = .ok (.new 9, 3) := by decide +kernel
theorem dL_law_11 : decode cL_law 11 = .ok (.dup, 1) := by decide +kernel
theorem dL_law_12 : decode cL_law 12 = .ok (.invokespecial 111, 3) := by decide +kernel
theorem dL_law_15 : decode cL_law 15 = .ok (.astore_n 2, 1) := by decide +kernel
theorem dL_law_16 : decode cL_law 16 = .ok (.bipush 40, 2) := by decide +kernel
theorem dL_law_18 : decode cL_law 18 = .ok (.newarray .long, 2) := by decide +kernel
theorem dL_law_20 : decode cL_law 20 = .ok (.astore_n 3, 1) := by decide +kernel
theorem dL_law_21 : decode cL_law 21 = .ok (.iconst 0, 1) := by decide +kernel
theorem dL_law_22 : decode cL_law 22 = .ok (.istore 4, 2) := by decide +kernel
theorem dL_law_24 : decode cL_law 24 = .ok (.iload 4, 2) := by decide +kernel
theorem dL_law_26 : decode cL_law 26 = .ok (.bipush 60, 2) := by decide +kernel
theorem dL_law_28 : decode cL_law 28 = .ok (.if_icmp .ge 98, 3) := by decide +kernel
theorem dL_law_31 : decode cL_law 31 = .ok (.aload_n 0, 1) := by decide +kernel
theorem dL_law_32 : decode cL_law 32 = .ok (.iload 4, 2) := by decide +kernel
theorem dL_law_34 : decode cL_law 34 = .ok (.invokestatic 112, 3) := by decide +kernel
theorem dL_law_37 : decode cL_law 37 = .ok (.istore 5, 2) := by decide +kernel
theorem dL_law_39 : decode cL_law 39 = .ok (.aload_n 1, 1) := by decide +kernel
theorem dL_law_40 : decode cL_law 40 = .ok (.iload 5, 2) := by decide +kernel
theorem dL_law_42 : decode cL_law 42 = .ok (.invokestatic 116, 3) := by decide +kernel
theorem dL_law_45 : decode cL_law 45 = .ok (.istore 6, 2) := by decide +kernel
theorem dL_law_47 : decode cL_law 47 = .ok (.iload 6, 2) := by decide +kernel
theorem dL_law_49 : decode cL_law 49 = .ok (.ldc 16, 2) := by decide +kernel
theorem dL_law_51 : decode cL_law 51 = .ok (.if_icmp .eq 14, 3) := by decide +kernel
theorem dL_law_54 : decode cL_law 54 = .ok (.aload_n 2, 1) := by decide +kernel
theorem dL_law_55 : decode cL_law 55 = .ok (.iload 5, 2) := by decide +kernel
theorem dL_law_57 : decode cL_law 57 = .ok (.invokestatic 116, 3) := by decide +kernel
theorem dL_law_60 : decode cL_law 60 = .ok (.iload 6, 2) := by decide +kernel
theorem dL_law_62 : decode cL_law 62 = .ok (.if_icmp .ne 18, 3) := by decide +kernel
theorem dL_law_65 : decode cL_law 65 = .ok (.aload_n 1, 1) := by decide +kernel
theorem dL_law_66 : decode cL_law 66 = .ok (.aload_n 2, 1) := by decide +kernel
theorem dL_law_67 : decode cL_law 67 = .ok (.invokestatic 119, 3) := by decide +kernel
theorem dL_law_70 : decode cL_law 70 = .ok (.ifCond .eq 10, 3) := by decide +kernel
theorem dL_law_73 : decode cL_law 73 = .ok (.aload_n 1, 1) := by decide +kernel
theorem dL_law_74 : decode cL_law 74 = .ok (.invokestatic 123, 3) := by decide +kernel
theorem dL_law_77 : decode cL_law 77 = .ok (.ifCond .ne 5, 3) := by decide +kernel
theorem dL_law_80 : decode cL_law 80 = .ok (.iconst 0, 1) := by decide +kernel
theorem dL_law_81 : decode cL_law 81 = .ok (.ireturn, 1) := by decide +kernel
theorem dL_law_82 : decode cL_law 82 = .ok (.iload 4, 2) := by decide +kernel
theorem dL_law_84 : decode cL_law 84 = .ok (.iconst 5, 1) := by decide +kernel
theorem dL_law_85 : decode cL_law 85 = .ok (.irem, 1) := by decide +kernel
theorem dL_law_86 : decode cL_law 86 = .ok (.iconst 4, 1) := by decide +kernel
theorem dL_law_87 : decode cL_law 87 = .ok (.if_icmp .ne 33, 3) := by decide +kernel
theorem dL_law_90 : decode cL_law 90 = .ok (.aload_n 2, 1) := by decide +kernel
theorem dL_law_91 : decode cL_law 91 = .ok (.iconst 1, 1) := by decide +kernel
theorem dL_law_92 : decode cL_law 92 = .ok (.invokevirtual 36, 3) := by decide +kernel
theorem dL_law_95 : decode cL_law 95 = .ok (.istore 7, 2) := by decide +kernel
theorem dL_law_97 : decode cL_law 97 = .ok (.aload_n 1, 1) := by decide +kernel
theorem dL_law_98 : decode cL_law 98 = .ok (.aload_n 3, 1) := by decide +kernel
theorem dL_law_99 : decode cL_law 99 = .ok (.invokestatic 127, 3) := by decide +kernel
theorem dL_law_102 : decode cL_law 102 = .ok (.ifCond .eq 16, 3) := by decide +kernel
theorem dL_law_105 : decode cL_law 105 = .ok (.aload_n 1, 1) := by decide +kernel
theorem dL_law_106 : decode cL_law 106 = .ok (.aload_n 2, 1) := by decide +kernel
theorem dL_law_107 : decode cL_law 107 = .ok (.invokestatic 119, 3) := by decide +kernel
theorem dL_law_110 : decode cL_law 110 = .ok (.ifCond .eq 8, 3) := by decide +kernel
theorem dL_law_113 : decode cL_law 113 = .ok (.iload 7, 2) := by decide +kernel
theorem dL_law_115 : decode cL_law 115 = .ok (.ifCond .ge 5, 3) := by decide +kernel
theorem dL_law_118 : decode cL_law 118 = .ok (.iconst 0, 1) := by decide +kernel
theorem dL_law_119 : decode cL_law 119 = .ok (.ireturn, 1) := by decide +kernel
theorem dL_law_120 : decode cL_law 120 = .ok (.iinc 4 1, 3) := by decide +kernel
theorem dL_law_123 : decode cL_law 123 = .ok (.goto (-99), 3) := by decide +kernel
theorem dL_law_126 : decode cL_law 126 = .ok (.aload_n 1, 1) := by decide +kernel
theorem dL_law_127 : decode cL_law 127 = .ok (.invokevirtual 84, 3) := by decide +kernel
theorem dL_law_130 : decode cL_law 130 = .ok (.istore 4, 2) := by decide +kernel
theorem dL_law_132 : decode cL_law 132 = .ok (.aload_n 1, 1) := by decide +kernel
theorem dL_law_133 : decode cL_law 133 = .ok (.invokestatic 106, 3) := by decide +kernel
theorem dL_law_136 : decode cL_law 136 = .ok (.istore 5, 2) := by decide +kernel
theorem dL_law_138 : decode cL_law 138 = .ok (.aload_n 1, 1) := by decide +kernel
theorem dL_law_139 : decode cL_law 139 = .ok (.invokevirtual 131, 3) := by decide +kernel
theorem dL_law_142 : decode cL_law 142 = .ok (.istore 6, 2) := by decide +kernel
theorem dL_law_144 : decode cL_law 144 = .ok (.iload 6, 2) := by decide +kernel
theorem dL_law_146 : decode cL_law 146 = .ok (.sipush 300, 3) := by decide +kernel
theorem dL_law_149 : decode cL_law 149 = .ok (.if_icmp .gt 53, 3) := by decide +kernel
theorem dL_law_152 : decode cL_law 152 = .ok (.iload 6, 2) := by decide +kernel
theorem dL_law_154 : decode cL_law 154 = .ok (.aload_n 2, 1) := by decide +kernel
theorem dL_law_155 : decode cL_law 155 = .ok (.invokevirtual 131, 3) := by decide +kernel
theorem dL_law_158 : decode cL_law 158 = .ok (.if_icmp .ne 44, 3) := by decide +kernel
theorem dL_law_161 : decode cL_law 161 = .ok (.aload_n 1, 1) := by decide +kernel
theorem dL_law_162 : decode cL_law 162 = .ok (.aload_n 2, 1) := by decide +kernel
theorem dL_law_163 : decode cL_law 163 = .ok (.invokestatic 119, 3) := by decide +kernel
theorem dL_law_166 : decode cL_law 166 = .ok (.ifCond .eq 36, 3) := by decide +kernel
theorem dL_law_169 : decode cL_law 169 = .ok (.iload 4, 2) := by decide +kernel
theorem dL_law_171 : decode cL_law 171 = .ok (.ifCond .gt 8, 3) := by decide +kernel
theorem dL_law_174 : decode cL_law 174 = .ok (.iload 6, 2) := by decide +kernel
theorem dL_law_176 : decode cL_law 176 = .ok (.ifCond .ne 26, 3) := by decide +kernel
theorem dL_law_179 : decode cL_law 179 = .ok (.iload 5, 2) := by decide +kernel
theorem dL_law_181 : decode cL_law 181 = .ok (.ifCond .lt 17, 3) := by decide +kernel
theorem dL_law_184 : decode cL_law 184 = .ok (.aload_n 1, 1) := by decide +kernel
theorem dL_law_185 : decode cL_law 185 = .ok (.invokevirtual 84, 3) := by decide +kernel
theorem dL_law_188 : decode cL_law 188 = .ok (.ifCond .gt 10, 3) := by decide +kernel
theorem dL_law_191 : decode cL_law 191 = .ok (.iload 6, 2) := by decide +kernel
theorem dL_law_193 : decode cL_law 193 = .ok (.iload 5, 2) := by decide +kernel
theorem dL_law_195 : decode cL_law 195 = .ok (.if_icmp .lt 7, 3) := by decide +kernel
theorem dL_law_198 : decode cL_law 198 = .ok (.iconst 1, 1) := by decide +kernel
theorem dL_law_199 : decode cL_law 199 = .ok (.goto 4, 3) := by decide +kernel
theorem dL_law_202 : decode cL_law 202 = .ok (.iconst 0, 1) := by decide +kernel
theorem dL_law_203 : decode cL_law 203 = .ok (.ireturn, 1) := by decide +kernel
