theorem d_X_findRule_0 : decode b_X_findRule 0 = .ok (.iload_n 1, 1) := by decide +kernel
theorem d_X_findRule_1 : decode b_X_findRule 1 = .ok (.ifCond .lt 11, 3) := by decide +kernel
theorem d_X_findRule_4 : decode b_X_findRule 4 = .ok (.iload_n 1, 1) := by decide +kernel
theorem d_X_findRule_5 : decode b_X_findRule 5 = .ok (.aload_n 0, 1) := by decide +kernel
theorem d_X_findRule_6 : decode b_X_findRule 6 = .ok (.getfield 34, 3) := by decide +kernel
theorem d_X_findRule_9 : decode b_X_findRule 9 = .ok (.if_icmp .lt 7, 3) := by decide +kernel
theorem d_X_findRule_12 : decode b_X_findRule 12 = .ok (.aconst_null, 1) := by decide +kernel
theorem d_X_findRule_13 : decode b_X_findRule 13 = .ok (.goto 9, 3) := by decide +kernel
theorem d_X_findRule_16 : decode b_X_findRule 16 = .ok (.aload_n 0, 1) := by decide +kernel
theorem d_X_findRule_17 : decode b_X_findRule 17 = .ok (.getfield 30, 3) := by decide +kernel
theorem d_X_findRule_20 : decode b_X_findRule 20 = .ok (.iload_n 1, 1) := by decide +kernel
theorem d_X_findRule_21 : decode b_X_findRule 21 = .ok (.aaload, 1) := by decide +kernel
theorem d_X_findRule_22 : decode b_X_findRule 22 = .ok (.areturn, 1) := by decide +kernel
theorem d_X_fails_0 : decode b_X_fails 0 = .ok (.aload_n 0, 1) := by decide +kernel
theorem d_X_fails_1 : decode b_X_fails 1 = .ok (.iload_n 1, 1) := by decide +kernel
theorem d_X_fails_2 : decode b_X_fails 2 = .ok (.invokevirtual 110, 3) := by decide +kernel
theorem d_X_fails_5 : decode b_X_fails 5 = .ok (.astore_n 3, 1) := by decide +kernel
theorem d_X_fails_6 : decode b_X_fails 6 = .ok (.aload_n 3, 1) := by decide +kernel
theorem d_X_fails_7 : decode b_X_fails 7 = .ok (.ifnonnull 5, 3) := by decide +kernel
theorem d_X_fails_10 : decode b_X_fails 10 = .ok (.iconst (-1), 1) := by decide +kernel
theorem d_X_fails_11 : decode b_X_fails 11 = .ok (.ireturn, 1) := by decide +kernel
theorem d_X_fails_12 : decode b_X_fails 12 = .ok (.aload_n 3, 1) := by decide +kernel
theorem d_X_fails_13 : decode b_X_fails 13 = .ok (.iload_n 2, 1) := by decide +kernel
theorem d_X_fails_14 : decode b_X_fails 14 = .ok (.putfield 114, 3) := by decide +kernel
theorem d_X_fails_17 : decode b_X_fails 17 = .ok (.iconst 1, 1) := by decide +kernel
theorem d_X_fails_18 : decode b_X_fails 18 = .ok (.ireturn, 1) := by decide +kernel
theorem d_X_isReader_0 : decode b_X_isReader 0 = .ok (.iload_n 0, 1) := by decide +kernel
theorem d_X_isReader_1 : decode b_X_isReader 1 = .ok (.ifCond .lt 13, 3) := by decide +kernel
theorem d_X_isReader_4 : decode b_X_isReader 4 = .ok (.iload_n 0, 1) := by decide +kernel
theorem d_X_isReader_5 : decode b_X_isReader 5 = .ok (.bipush 100, 2) := by decide +kernel
theorem d_X_isReader_7 : decode b_X_isReader 7 = .ok (.if_icmp .ge 7, 3) := by decide +kernel
theorem d_X_isReader_10 : decode b_X_isReader 10 = .ok (.iconst 1, 1) := by decide +kernel
theorem d_X_isReader_11 : decode b_X_isReader 11 = .ok (.goto 4, 3) := by decide +kernel
theorem d_X_isReader_14 : decode b_X_isReader 14 = .ok (.iconst 0, 1) := by decide +kernel
theorem d_X_isReader_15 : decode b_X_isReader 15 = .ok (.ireturn, 1) := by decide +kernel
theorem d_X_reader_0 : decode b_X_reader 0 = .ok (.iload_n 1, 1) := by decide +kernel
theorem d_X_reader_1 : decode b_X_reader 1 = .ok (.invokestatic 118, 3) := by decide +kernel
theorem d_X_reader_4 : decode b_X_reader 4 = .ok (.ifCond .ne 5, 3) := by decide +kernel
theorem d_X_reader_7 : decode b_X_reader 7 = .ok (.iconst (-1), 1) := by decide +kernel
theorem d_X_reader_8 : decode b_X_reader 8 = .ok (.ireturn, 1) := by decide +kernel
theorem d_X_reader_9 : decode b_X_reader 9 = .ok (.iload_n 2, 1) := by decide +kernel
theorem d_X_reader_10 : decode b_X_reader 10 = .ok (.ifCond .lt 9, 3) := by decide +kernel
theorem d_X_reader_13 : decode b_X_reader 13 = .ok (.iload_n 2, 1) := by decide +kernel
theorem d_X_reader_14 : decode b_X_reader 14 = .ok (.bipush 9, 2) := by decide +kernel
theorem d_X_reader_16 : decode b_X_reader 16 = .ok (.if_icmp .le 6, 3) := by decide +kernel
theorem d_X_reader_19 : decode b_X_reader 19 = .ok (.bipush (-2), 2) := by decide +kernel
theorem d_X_reader_21 : decode b_X_reader 21 = .ok (.ireturn, 1) := by decide +kernel
theorem d_X_reader_22 : decode b_X_reader 22 = .ok (.aload_n 0, 1) := by decide +kernel
theorem d_X_reader_23 : decode b_X_reader 23 = .ok (.getfield 37, 3) := by decide +kernel
theorem d_X_reader_26 : decode b_X_reader 26 = .ok (.iload_n 1, 1) := by decide +kernel
theorem d_X_reader_27 : decode b_X_reader 27 = .ok (.iload_n 2, 1) := by decide +kernel
theorem d_X_reader_28 : decode b_X_reader 28 = .ok (.iastore, 1) := by decide +kernel
theorem d_X_reader_29 : decode b_X_reader 29 = .ok (.iconst 1, 1) := by decide +kernel
theorem d_X_reader_30 : decode b_X_reader 30 = .ok (.ireturn, 1) := by decide +kernel
theorem d_X_room_0 : decode b_X_room 0 = .ok (.aload_n 0, 1) := by decide +kernel
theorem d_X_room_1 : decode b_X_room 1 = .ok (.iload_n 1, 1) := by decide +kernel
theorem d_X_room_2 : decode b_X_room 2 = .ok (.invokevirtual 61, 3) := by decide +kernel
theorem d_X_room_5 : decode b_X_room 5 = .ok (.astore_n 3, 1) := by decide +kernel
theorem d_X_room_6 : decode b_X_room 6 = .ok (.aload_n 3, 1) := by decide +kernel
theorem d_X_room_7 : decode b_X_room 7 = .ok (.ifnonnull 5, 3) := by decide +kernel
theorem d_X_room_10 : decode b_X_room 10 = .ok (.iconst (-1), 1) := by decide +kernel
theorem d_X_room_11 : decode b_X_room 11 = .ok (.ireturn, 1) := by decide +kernel
theorem d_X_room_12 : decode b_X_room 12 = .ok (.iload_n 2, 1) := by decide +kernel
theorem d_X_room_13 : decode b_X_room 13 = .ok (.ifCond .lt 9, 3) := by decide +kernel
theorem d_X_room_16 : decode b_X_room 16 = .ok (.iload_n 2, 1) := by decide +kernel
theorem d_X_room_17 : decode b_X_room 17 = .ok (.bipush 100, 2) := by decide +kernel
theorem d_X_room_19 : decode b_X_room 19 = .ok (.if_icmp .le 6, 3) := by decide +kernel
theorem d_X_room_22 : decode b_X_room 22 = .ok (.bipush (-2), 2) := by decide +kernel
theorem d_X_room_24 : decode b_X_room 24 = .ok (.ireturn, 1) := by decide +kernel
theorem d_X_room_25 : decode b_X_room 25 = .ok (.aload_n 3, 1) := by decide +kernel
theorem d_X_room_26 : decode b_X_room 26 = .ok (.iload_n 2, 1) := by decide +kernel
theorem d_X_room_27 : decode b_X_room 27 = .ok (.putfield 121, 3) := by decide +kernel
theorem d_X_room_30 : decode b_X_room 30 = .ok (.iconst 0, 1) := by decide +kernel
theorem d_X_room_31 : decode b_X_room 31 = .ok (.istore 4, 2) := by decide +kernel
theorem d_X_room_33 : decode b_X_room 33 = .ok (.iload 4, 2) := by decide +kernel
theorem d_X_room_35 : decode b_X_room 35 = .ok (.bipush 100, 2) := by decide +kernel
theorem d_X_room_37 : decode b_X_room 37 = .ok (.if_icmp .ge 18, 3) := by decide +kernel
theorem d_X_room_40 : decode b_X_room 40 = .ok (.aload_n 3, 1) := by decide +kernel
theorem d_X_room_41 : decode b_X_room 41 = .ok (.invokevirtual 124, 3) := by decide +kernel
theorem d_X_room_44 : decode b_X_room 44 = .ok (.bipush (-10), 2) := by decide +kernel
theorem d_X_room_46 : decode b_X_room 46 = .ok (.if_icmp .eq 9, 3) := by decide +kernel
theorem d_X_room_49 : decode b_X_room 49 = .ok (.iinc 4 1, 3) := by decide +kernel
theorem d_X_room_52 : decode b_X_room 52 = .ok (.goto (-19), 3) := by decide +kernel
theorem d_X_room_55 : decode b_X_room 55 = .ok (.iload 4, 2) := by decide +kernel
theorem d_X_room_57 : decode b_X_room 57 = .ok (.ireturn, 1) := by decide +kernel
theorem d_X_in_0 : decode b_X_in 0 = .ok (.aload_n 0, 1) := by decide +kernel
theorem d_X_in_1 : decode b_X_in 1 = .ok (.iload_n 1, 1) := by decide +kernel
theorem d_X_in_2 : decode b_X_in 2 = .ok (.invokevirtual 61, 3) := by decide +kernel
theorem d_X_in_5 : decode b_X_in 5 = .ok (.astore_n 3, 1) := by decide +kernel
theorem d_X_in_6 : decode b_X_in 6 = .ok (.aload_n 3, 1) := by decide +kernel
theorem d_X_in_7 : decode b_X_in 7 = .ok (.ifnull 10, 3) := by decide +kernel
theorem d_X_in_10 : decode b_X_in 10 = .ok (.iload_n 2, 1) := by decide +kernel
theorem d_X_in_11 : decode b_X_in 11 = .ok (.invokestatic 118, 3) := by decide +kernel
theorem d_X_in_14 : decode b_X_in 14 = .ok (.ifCond .ne 5, 3) := by decide +kernel
theorem d_X_in_17 : decode b_X_in 17 = .ok (.iconst (-1), 1) := by decide +kernel
theorem d_X_in_18 : decode b_X_in 18 = .ok (.ireturn, 1) := by decide +kernel
theorem d_X_in_19 : decode b_X_in 19 = .ok (.aload_n 3, 1) := by decide +kernel
theorem d_X_in_20 : decode b_X_in 20 = .ok (.getfield 128, 3) := by decide +kernel
theorem d_X_in_23 : decode b_X_in 23 = .ok (.iload_n 2, 1) := by decide +kernel
theorem d_X_in_24 : decode b_X_in 24 = .ok (.invokevirtual 132, 3) := by decide +kernel
theorem d_X_in_27 : decode b_X_in 27 = .ok (.ifCond .ne 14, 3) := by decide +kernel
theorem d_X_in_30 : decode b_X_in 30 = .ok (.aload_n 3, 1) := by decide +kernel
theorem d_X_in_31 : decode b_X_in 31 = .ok (.getfield 137, 3) := by decide +kernel
theorem d_X_in_34 : decode b_X_in 34 = .ok (.iload_n 2, 1) := by decide +kernel
theorem d_X_in_35 : decode b_X_in 35 = .ok (.invokevirtual 132, 3) := by decide +kernel
theorem d_X_in_38 : decode b_X_in 38 = .ok (.ifCond .eq 6, 3) := by decide +kernel
theorem d_X_in_41 : decode b_X_in 41 = .ok (.bipush (-3), 2) := by decide +kernel
theorem d_X_in_43 : decode b_X_in 43 = .ok (.ireturn, 1) := by decide +kernel
theorem d_X_in_44 : decode b_X_in 44 = .ok (.aload_n 3, 1) := by decide +kernel
theorem d_X_in_45 : decode b_X_in 45 = .ok (.invokevirtual 140, 3) := by decide +kernel
theorem d_X_in_48 : decode b_X_in 48 = .ok (.ifCond .ne 13, 3) := by decide +kernel
theorem d_X_in_51 : decode b_X_in 51 = .ok (.aload_n 3, 1) := by decide +kernel
theorem d_X_in_52 : decode b_X_in 52 = .ok (.getfield 137, 3) := by decide +kernel
theorem d_X_in_55 : decode b_X_in 55 = .ok (.iload_n 2, 1) := by decide +kernel
theorem d_X_in_56 : decode b_X_in 56 = .ok (.invokevirtual 144, 3) := by decide +kernel
theorem d_X_in_59 : decode b_X_in 59 = .ok (.iconst 0, 1) := by decide +kernel
theorem d_X_in_60 : decode b_X_in 60 = .ok (.ireturn, 1) := by decide +kernel
theorem d_X_in_61 : decode b_X_in 61 = .ok (.aload_n 3, 1) := by decide +kernel
theorem d_X_in_62 : decode b_X_in 62 = .ok (.getfield 128, 3) := by decide +kernel
theorem d_X_in_65 : decode b_X_in 65 = .ok (.iload_n 2, 1) := by decide +kernel
theorem d_X_in_66 : decode b_X_in 66 = .ok (.invokevirtual 144, 3) := by decide +kernel
theorem d_X_in_69 : decode b_X_in 69 = .ok (.iconst 1, 1) := by decide +kernel
theorem d_X_in_70 : decode b_X_in 70 = .ok (.ireturn, 1) := by decide +kernel
theorem d_X_out_0 : decode b_X_out 0 = .ok (.aload_n 0, 1) := by decide +kernel
theorem d_X_out_1 : decode b_X_out 1 = .ok (.iload_n 1, 1) := by decide +kernel
theorem d_X_out_2 : decode b_X_out 2 = .ok (.invokevirtual 61, 3) := by decide +kernel
theorem d_X_out_5 : decode b_X_out 5 = .ok (.astore_n 3, 1) := by decide +kernel
theorem d_X_out_6 : decode b_X_out 6 = .ok (.aload_n 3, 1) := by decide +kernel
theorem d_X_out_7 : decode b_X_out 7 = .ok (.ifnull 10, 3) := by decide +kernel
theorem d_X_out_10 : decode b_X_out 10 = .ok (.iload_n 2, 1) := by decide +kernel
theorem d_X_out_11 : decode b_X_out 11 = .ok (.invokestatic 118, 3) := by decide +kernel
theorem d_X_out_14 : decode b_X_out 14 = .ok (.ifCond .ne 5, 3) := by decide +kernel
theorem d_X_out_17 : decode b_X_out 17 = .ok (.iconst (-1), 1) := by decide +kernel
theorem d_X_out_18 : decode b_X_out 18 = .ok (.ireturn, 1) := by decide +kernel
theorem d_X_out_19 : decode b_X_out 19 = .ok (.aload_n 3, 1) := by decide +kernel
theorem d_X_out_20 : decode b_X_out 20 = .ok (.getfield 128, 3) := by decide +kernel
theorem d_X_out_23 : decode b_X_out 23 = .ok (.iload_n 2, 1) := by decide +kernel
theorem d_X_out_24 : decode b_X_out 24 = .ok (.invokevirtual 148, 3) := by decide +kernel
theorem d_X_out_27 : decode b_X_out 27 = .ok (.ifCond .eq 8, 3) := by decide +kernel
theorem d_X_out_30 : decode b_X_out 30 = .ok (.aload_n 3, 1) := by decide +kernel
theorem d_X_out_31 : decode b_X_out 31 = .ok (.invokevirtual 124, 3) := by decide +kernel
theorem d_X_out_34 : decode b_X_out 34 = .ok (.ireturn, 1) := by decide +kernel
theorem d_X_out_35 : decode b_X_out 35 = .ok (.aload_n 3, 1) := by decide +kernel
theorem d_X_out_36 : decode b_X_out 36 = .ok (.getfield 137, 3) := by decide +kernel
theorem d_X_out_39 : decode b_X_out 39 = .ok (.iload_n 2, 1) := by decide +kernel
theorem d_X_out_40 : decode b_X_out 40 = .ok (.invokevirtual 148, 3) := by decide +kernel
theorem d_X_out_43 : decode b_X_out 43 = .ok (.ifCond .eq 8, 3) := by decide +kernel
theorem d_X_out_46 : decode b_X_out 46 = .ok (.bipush (-10), 2) := by decide +kernel
theorem d_X_out_48 : decode b_X_out 48 = .ok (.goto 5, 3) := by decide +kernel
theorem d_X_out_51 : decode b_X_out 51 = .ok (.bipush (-3), 2) := by decide +kernel
theorem d_X_out_53 : decode b_X_out 53 = .ok (.ireturn, 1) := by decide +kernel
theorem d_X_rulesAllow_0 : decode b_X_rulesAllow 0 = .ok (.aload_n 0, 1) := by decide +kernel
theorem d_X_rulesAllow_1 : decode b_X_rulesAllow 1 = .ok (.iconst (-1), 1) := by decide +kernel
theorem d_X_rulesAllow_2 : decode b_X_rulesAllow 2 = .ok (.putfield 55, 3) := by decide +kernel
theorem d_X_rulesAllow_5 : decode b_X_rulesAllow 5 = .ok (.aload_n 0, 1) := by decide +kernel
theorem d_X_rulesAllow_6 : decode b_X_rulesAllow 6 = .ok (.getfield 44, 3) := by decide +kernel
theorem d_X_rulesAllow_9 : decode b_X_rulesAllow 9 = .ok (.iload_n 1, 1) := by decide +kernel
theorem d_X_rulesAllow_10 : decode b_X_rulesAllow 10 = .ok (.iload_n 3, 1) := by decide +kernel
theorem d_X_rulesAllow_11 : decode b_X_rulesAllow 11 = .ok (.invokestatic 155, 3) := by decide +kernel
theorem d_X_rulesAllow_14 : decode b_X_rulesAllow 14 = .ok (.invokevirtual 226, 3) := by decide +kernel
theorem d_X_rulesAllow_17 : decode b_X_rulesAllow 17 = .ok (.istore 4, 2) := by decide +kernel
theorem d_X_rulesAllow_19 : decode b_X_rulesAllow 19 = .ok (.iconst 0, 1) := by decide +kernel
theorem d_X_rulesAllow_20 : decode b_X_rulesAllow 20 = .ok (.istore 5, 2) := by decide +kernel
theorem d_X_rulesAllow_22 : decode b_X_rulesAllow 22 = .ok (.iload 5, 2) := by decide +kernel
theorem d_X_rulesAllow_24 : decode b_X_rulesAllow 24 = .ok (.aload_n 0, 1) := by decide +kernel
theorem d_X_rulesAllow_25 : decode b_X_rulesAllow 25 = .ok (.getfield 34, 3) := by decide +kernel
theorem d_X_rulesAllow_28 : decode b_X_rulesAllow 28 = .ok (.if_icmp .ge 103, 3) := by decide +kernel
theorem d_X_rulesAllow_31 : decode b_X_rulesAllow 31 = .ok (.aload_n 0, 1) := by decide +kernel
theorem d_X_rulesAllow_32 : decode b_X_rulesAllow 32 = .ok (.getfield 30, 3) := by decide +kernel
theorem d_X_rulesAllow_35 : decode b_X_rulesAllow 35 = .ok (.iload 5, 2) := by decide +kernel
theorem d_X_rulesAllow_37 : decode b_X_rulesAllow 37 = .ok (.aaload, 1) := by decide +kernel
theorem d_X_rulesAllow_38 : decode b_X_rulesAllow 38 = .ok (.astore 6, 2) := by decide +kernel
theorem d_X_rulesAllow_40 : decode b_X_rulesAllow 40 = .ok (.aload 6, 2) := by decide +kernel
theorem d_X_rulesAllow_42 : decode b_X_rulesAllow 42 = .ok (.ifnull 83, 3) := by decide +kernel
theorem d_X_rulesAllow_45 : decode b_X_rulesAllow 45 = .ok (.aload 6, 2) := by decide +kernel
theorem d_X_rulesAllow_47 : decode b_X_rulesAllow 47 = .ok (.getfield 229, 3) := by decide +kernel
theorem d_X_rulesAllow_50 : decode b_X_rulesAllow 50 = .ok (.aload_n 2, 1) := by decide +kernel
theorem d_X_rulesAllow_51 : decode b_X_rulesAllow 51 = .ok (.getfield 175, 3) := by decide +kernel
theorem d_X_rulesAllow_54 : decode b_X_rulesAllow 54 = .ok (.getfield 179, 3) := by decide +kernel
theorem d_X_rulesAllow_57 : decode b_X_rulesAllow 57 = .ok (.if_icmp .eq 6, 3) := by decide +kernel
theorem d_X_rulesAllow_60 : decode b_X_rulesAllow 60 = .ok (.goto 65, 3) := by decide +kernel
theorem d_X_rulesAllow_63 : decode b_X_rulesAllow 63 = .ok (.aload 6, 2) := by decide +kernel
theorem d_X_rulesAllow_65 : decode b_X_rulesAllow 65 = .ok (.getfield 114, 3) := by decide +kernel
theorem d_X_rulesAllow_68 : decode b_X_rulesAllow 68 = .ok (.ifCond .eq 21, 3) := by decide +kernel
theorem d_X_rulesAllow_71 : decode b_X_rulesAllow 71 = .ok (.aload_n 0, 1) := by decide +kernel
theorem d_X_rulesAllow_72 : decode b_X_rulesAllow 72 = .ok (.iload 5, 2) := by decide +kernel
theorem d_X_rulesAllow_74 : decode b_X_rulesAllow 74 = .ok (.putfield 55, 3) := by decide +kernel
theorem d_X_rulesAllow_77 : decode b_X_rulesAllow 77 = .ok (.aload_n 0, 1) := by decide +kernel
theorem d_X_rulesAllow_78 : decode b_X_rulesAllow 78 = .ok (.getfield 51, 3) := by decide +kernel
theorem d_X_rulesAllow_81 : decode b_X_rulesAllow 81 = .ok (.iconst 1, 1) := by decide +kernel
theorem d_X_rulesAllow_82 : decode b_X_rulesAllow 82 = .ok (.iload 5, 2) := by decide +kernel
theorem d_X_rulesAllow_84 : decode b_X_rulesAllow 84 = .ok (.invokevirtual 161, 3) := by decide +kernel
theorem d_X_rulesAllow_87 : decode b_X_rulesAllow 87 = .ok (.iconst 0, 1) := by decide +kernel
theorem d_X_rulesAllow_88 : decode b_X_rulesAllow 88 = .ok (.ireturn, 1) := by decide +kernel
theorem d_X_rulesAllow_89 : decode b_X_rulesAllow 89 = .ok (.aload 6, 2) := by decide +kernel
theorem d_X_rulesAllow_91 : decode b_X_rulesAllow 91 = .ok (.aload_n 0, 1) := by decide +kernel
theorem d_X_rulesAllow_92 : decode b_X_rulesAllow 92 = .ok (.getfield 37, 3) := by decide +kernel
theorem d_X_rulesAllow_95 : decode b_X_rulesAllow 95 = .ok (.iload_n 1, 1) := by decide +kernel
theorem d_X_rulesAllow_96 : decode b_X_rulesAllow 96 = .ok (.iaload, 1) := by decide +kernel
theorem d_X_rulesAllow_97 : decode b_X_rulesAllow 97 = .ok (.aload_n 2, 1) := by decide +kernel
theorem d_X_rulesAllow_98 : decode b_X_rulesAllow 98 = .ok (.getfield 166, 3) := by decide +kernel
theorem d_X_rulesAllow_101 : decode b_X_rulesAllow 101 = .ok (.iload_n 3, 1) := by decide +kernel
theorem d_X_rulesAllow_102 : decode b_X_rulesAllow 102 = .ok (.iload 4, 2) := by decide +kernel
theorem d_X_rulesAllow_104 : decode b_X_rulesAllow 104 = .ok (.invokevirtual 231, 3) := by decide +kernel
theorem d_X_rulesAllow_107 : decode b_X_rulesAllow 107 = .ok (.ifCond .eq 18, 3) := by decide +kernel
theorem d_X_rulesAllow_110 : decode b_X_rulesAllow 110 = .ok (.aload 6, 2) := by decide +kernel
theorem d_X_rulesAllow_112 : decode b_X_rulesAllow 112 = .ok (.getfield 235, 3) := by decide +kernel
theorem d_X_rulesAllow_115 : decode b_X_rulesAllow 115 = .ok (.iconst 1, 1) := by decide +kernel
theorem d_X_rulesAllow_116 : decode b_X_rulesAllow 116 = .ok (.if_icmp .ne 7, 3) := by decide +kernel
theorem d_X_rulesAllow_119 : decode b_X_rulesAllow 119 = .ok (.iconst 1, 1) := by decide +kernel
theorem d_X_rulesAllow_120 : decode b_X_rulesAllow 120 = .ok (.goto 4, 3) := by decide +kernel
theorem d_X_rulesAllow_123 : decode b_X_rulesAllow 123 = .ok (.iconst 0, 1) := by decide +kernel
theorem d_X_rulesAllow_124 : decode b_X_rulesAllow 124 = .ok (.ireturn, 1) := by decide +kernel
theorem d_X_rulesAllow_125 : decode b_X_rulesAllow 125 = .ok (.iinc 5 1, 3) := by decide +kernel
theorem d_X_rulesAllow_128 : decode b_X_rulesAllow 128 = .ok (.goto (-106), 3) := by decide +kernel
theorem d_X_rulesAllow_131 : decode b_X_rulesAllow 131 = .ok (.iconst 0, 1) := by decide +kernel
theorem d_X_rulesAllow_132 : decode b_X_rulesAllow 132 = .ok (.ireturn, 1) := by decide +kernel
theorem d_X_judge_0 : decode b_X_judge 0 = .ok (.aload_n 2, 1) := by decide +kernel
theorem d_X_judge_1 : decode b_X_judge 1 = .ok (.getfield 163, 3) := by decide +kernel
theorem d_X_judge_4 : decode b_X_judge 4 = .ok (.ifCond .ne 5, 3) := by decide +kernel
theorem d_X_judge_7 : decode b_X_judge 7 = .ok (.iconst 1, 1) := by decide +kernel
theorem d_X_judge_8 : decode b_X_judge 8 = .ok (.ireturn, 1) := by decide +kernel
theorem d_X_judge_9 : decode b_X_judge 9 = .ok (.aload_n 2, 1) := by decide +kernel
theorem d_X_judge_10 : decode b_X_judge 10 = .ok (.getfield 175, 3) := by decide +kernel
theorem d_X_judge_13 : decode b_X_judge 13 = .ok (.iload 4, 2) := by decide +kernel
theorem d_X_judge_15 : decode b_X_judge 15 = .ok (.invokevirtual 213, 3) := by decide +kernel
theorem d_X_judge_18 : decode b_X_judge 18 = .ok (.ifCond .eq 16, 3) := by decide +kernel
theorem d_X_judge_21 : decode b_X_judge 21 = .ok (.aload_n 2, 1) := by decide +kernel
theorem d_X_judge_22 : decode b_X_judge 22 = .ok (.getfield 175, 3) := by decide +kernel
theorem d_X_judge_25 : decode b_X_judge 25 = .ok (.iload_n 3, 1) := by decide +kernel
theorem d_X_judge_26 : decode b_X_judge 26 = .ok (.invokevirtual 216, 3) := by decide +kernel
theorem d_X_judge_29 : decode b_X_judge 29 = .ok (.ifCond .ne 5, 3) := by decide +kernel
theorem d_X_judge_32 : decode b_X_judge 32 = .ok (.iconst 2, 1) := by decide +kernel
theorem d_X_judge_33 : decode b_X_judge 33 = .ok (.ireturn, 1) := by decide +kernel
theorem d_X_judge_34 : decode b_X_judge 34 = .ok (.aload_n 2, 1) := by decide +kernel
theorem d_X_judge_35 : decode b_X_judge 35 = .ok (.iload_n 3, 1) := by decide +kernel
theorem d_X_judge_36 : decode b_X_judge 36 = .ok (.invokevirtual 219, 3) := by decide +kernel
theorem d_X_judge_39 : decode b_X_judge 39 = .ok (.ifCond .ne 5, 3) := by decide +kernel
theorem d_X_judge_42 : decode b_X_judge 42 = .ok (.iconst 3, 1) := by decide +kernel
theorem d_X_judge_43 : decode b_X_judge 43 = .ok (.ireturn, 1) := by decide +kernel
theorem d_X_judge_44 : decode b_X_judge 44 = .ok (.iload_n 3, 1) := by decide +kernel
theorem d_X_judge_45 : decode b_X_judge 45 = .ok (.invokestatic 155, 3) := by decide +kernel
theorem d_X_judge_48 : decode b_X_judge 48 = .ok (.aload_n 2, 1) := by decide +kernel
theorem d_X_judge_49 : decode b_X_judge 49 = .ok (.iload 4, 2) := by decide +kernel
theorem d_X_judge_51 : decode b_X_judge 51 = .ok (.invokevirtual 94, 3) := by decide +kernel
theorem d_X_judge_54 : decode b_X_judge 54 = .ok (.if_icmp .le 5, 3) := by decide +kernel
theorem d_X_judge_57 : decode b_X_judge 57 = .ok (.iconst 4, 1) := by decide +kernel
theorem d_X_judge_58 : decode b_X_judge 58 = .ok (.ireturn, 1) := by decide +kernel
theorem d_X_judge_59 : decode b_X_judge 59 = .ok (.aload_n 0, 1) := by decide +kernel
theorem d_X_judge_60 : decode b_X_judge 60 = .ok (.iload_n 1, 1) := by decide +kernel
theorem d_X_judge_61 : decode b_X_judge 61 = .ok (.aload_n 2, 1) := by decide +kernel
theorem d_X_judge_62 : decode b_X_judge 62 = .ok (.iload 4, 2) := by decide +kernel
theorem d_X_judge_64 : decode b_X_judge 64 = .ok (.invokevirtual 222, 3) := by decide +kernel
theorem d_X_judge_67 : decode b_X_judge 67 = .ok (.ifCond .ne 5, 3) := by decide +kernel
theorem d_X_judge_70 : decode b_X_judge 70 = .ok (.iconst 5, 1) := by decide +kernel
theorem d_X_judge_71 : decode b_X_judge 71 = .ok (.ireturn, 1) := by decide +kernel
theorem d_X_judge_72 : decode b_X_judge 72 = .ok (.aload_n 2, 1) := by decide +kernel
theorem d_X_judge_73 : decode b_X_judge 73 = .ok (.getfield 175, 3) := by decide +kernel
theorem d_X_judge_76 : decode b_X_judge 76 = .ok (.getfield 128, 3) := by decide +kernel
theorem d_X_judge_79 : decode b_X_judge 79 = .ok (.iload_n 1, 1) := by decide +kernel
theorem d_X_judge_80 : decode b_X_judge 80 = .ok (.invokevirtual 132, 3) := by decide +kernel
theorem d_X_judge_83 : decode b_X_judge 83 = .ok (.ifCond .eq 7, 3) := by decide +kernel
theorem d_X_judge_86 : decode b_X_judge 86 = .ok (.iconst 0, 1) := by decide +kernel
theorem d_X_judge_87 : decode b_X_judge 87 = .ok (.goto 5, 3) := by decide +kernel
theorem d_X_judge_90 : decode b_X_judge 90 = .ok (.bipush 6, 2) := by decide +kernel
theorem d_X_judge_92 : decode b_X_judge 92 = .ok (.ireturn, 1) := by decide +kernel
theorem d_X_access_0 : decode b_X_access 0 = .ok (.aload_n 0, 1) := by decide +kernel
theorem d_X_access_1 : decode b_X_access 1 = .ok (.iload_n 2, 1) := by decide +kernel
theorem d_X_access_2 : decode b_X_access 2 = .ok (.invokevirtual 72, 3) := by decide +kernel
theorem d_X_access_5 : decode b_X_access 5 = .ok (.astore 5, 2) := by decide +kernel
theorem d_X_access_7 : decode b_X_access 7 = .ok (.aload 5, 2) := by decide +kernel
theorem d_X_access_9 : decode b_X_access 9 = .ok (.ifnull 10, 3) := by decide +kernel
theorem d_X_access_12 : decode b_X_access 12 = .ok (.iload_n 1, 1) := by decide +kernel
theorem d_X_access_13 : decode b_X_access 13 = .ok (.invokestatic 118, 3) := by decide +kernel
theorem d_X_access_16 : decode b_X_access 16 = .ok (.ifCond .ne 5, 3) := by decide +kernel
theorem d_X_access_19 : decode b_X_access 19 = .ok (.iconst (-1), 1) := by decide +kernel
theorem d_X_access_20 : decode b_X_access 20 = .ok (.ireturn, 1) := by decide +kernel
theorem d_X_access_21 : decode b_X_access 21 = .ok (.iload_n 3, 1) := by decide +kernel
theorem d_X_access_22 : decode b_X_access 22 = .ok (.invokestatic 76, 3) := by decide +kernel
theorem d_X_access_25 : decode b_X_access 25 = .ok (.ifCond .eq 11, 3) := by decide +kernel
theorem d_X_access_28 : decode b_X_access 28 = .ok (.iload 4, 2) := by decide +kernel
theorem d_X_access_30 : decode b_X_access 30 = .ok (.invokestatic 76, 3) := by decide +kernel
theorem d_X_access_33 : decode b_X_access 33 = .ok (.ifCond .ne 6, 3) := by decide +kernel
theorem d_X_access_36 : decode b_X_access 36 = .ok (.bipush (-2), 2) := by decide +kernel
theorem d_X_access_38 : decode b_X_access 38 = .ok (.ireturn, 1) := by decide +kernel
theorem d_X_access_39 : decode b_X_access 39 = .ok (.aload_n 0, 1) := by decide +kernel
theorem d_X_access_40 : decode b_X_access 40 = .ok (.iload_n 1, 1) := by decide +kernel
theorem d_X_access_41 : decode b_X_access 41 = .ok (.aload 5, 2) := by decide +kernel
theorem d_X_access_43 : decode b_X_access 43 = .ok (.iload_n 3, 1) := by decide +kernel
theorem d_X_access_44 : decode b_X_access 44 = .ok (.iload 4, 2) := by decide +kernel
theorem d_X_access_46 : decode b_X_access 46 = .ok (.invokevirtual 151, 3) := by decide +kernel
theorem d_X_access_49 : decode b_X_access 49 = .ok (.istore 6, 2) := by decide +kernel
theorem d_X_access_51 : decode b_X_access 51 = .ok (.iload 6, 2) := by decide +kernel
theorem d_X_access_53 : decode b_X_access 53 = .ok (.ifCond .ne 17, 3) := by decide +kernel
theorem d_X_access_56 : decode b_X_access 56 = .ok (.aload_n 0, 1) := by decide +kernel
theorem d_X_access_57 : decode b_X_access 57 = .ok (.getfield 44, 3) := by decide +kernel
theorem d_X_access_60 : decode b_X_access 60 = .ok (.iload_n 1, 1) := by decide +kernel
theorem d_X_access_61 : decode b_X_access 61 = .ok (.iload_n 2, 1) := by decide +kernel
theorem d_X_access_62 : decode b_X_access 62 = .ok (.iload 4, 2) := by decide +kernel
theorem d_X_access_64 : decode b_X_access 64 = .ok (.invokestatic 155, 3) := by decide +kernel
theorem d_X_access_67 : decode b_X_access 67 = .ok (.invokevirtual 158, 3) := by decide +kernel
theorem d_X_access_70 : decode b_X_access 70 = .ok (.iload 6, 2) := by decide +kernel
theorem d_X_access_72 : decode b_X_access 72 = .ok (.ireturn, 1) := by decide +kernel
theorem d_X_failed_0 : decode b_X_failed 0 = .ok (.aload_n 0, 1) := by decide +kernel
theorem d_X_failed_1 : decode b_X_failed 1 = .ok (.getfield 55, 3) := by decide +kernel
theorem d_X_failed_4 : decode b_X_failed 4 = .ok (.ireturn, 1) := by decide +kernel
def f_X_findRule (v0 : Nat) (v1 : Int32) (M : mm) : Option (Option Nat × mm) :=
    if v1 < 0 then
      some (none, M)
    else
      (gI 0 5 M v0).bind fun x2 =>
      if v1 < x2 then
        (gR 0 4 M v0).bind fun x4 =>
        (aR 4 M x4 v1).bind fun x5 =>
        some ((some x5), M)
      else
        some (none, M)
set_option maxHeartbeats 4000000 in
set_option maxRecDepth 100000 in
theorem c_X_findRule (l : Launch) (D : va_G) (dA : Nat → ClassId) (M0 M' : mm) (r : Option Nat) (v0 : Nat) (v1 : Int32) (h : f_X_findRule v0 v1 M0 = some (r, M')) : Met l y_X_findRule w_X_findRule rm_X_findRule (mm_Pre D dA M0 [.ref v0, .int v1]) (mm_QQ D dA M0 r M') 0 0 (mm_A M0) := by
  refine Met.ofW (cc := b_X_findRule) (maxL := 2) (ret := (some (.object "LicenceRows2$Rule"))) (by decide) rfl ?_
  intro p e s m args below meth c s₁ B hml hv
  obtain ⟨rfl, hW, hK⟩ := hv
  have C : mm_C p s m _ meth c b_X_findRule 2 (some (.object "LicenceRows2$Rule")) R_X D dA (mm_A M0) := ⟨B.exec, B.bytes, B.returns, hml, findClass_of_methodNamed B.named, fun w hw => atoms_spec (ws := w_X_findRule) B.pre w (List.mem_cons_of_mem _ hw), B.notSynchronized, hK, fun q hq => Or.inr (by rw [← hW.1]; exact hq)⟩
  have hS : va_S (mm_A M0) s.heap s.heap [] := va_S.rf
  obtain ⟨hx, hb, hr, hml, hown, hts, hlocks, hK, hA⟩ := id C
  have hl := lv_entry ([.ref v0, .int v1]) (n := 2) (Nat.le_of_ble_eq_true rfl)
  rw [lg_entry_eq]
  generalize (lg_sl ([.ref v0, .int v1]) ++ List.replicate (2 - (lg_sl ([.ref v0, .int v1])).length) Slot.unset).toArray = ls at hl ⊢
  have hl : lv_has ls 2 [(0, .ref v0), (1, .int v1)] := hl
  unfold f_X_findRule at h
  refine lv_iload_n hx hb d_X_findRule_0 rfl (lv_at hl 1 rfl) ?_
  refine lv_if_lt (tgt := 12) hx hb d_X_findRule_1 (by decide) (fun c1 => ?_) (fun c1 => ?_)
  · have h := ifp h c1
    refine lv_null hx hb d_X_findRule_12 ?_
    refine lv_goto (tgt := 22) hx hb d_X_findRule_13 (by decide) ?_
    exact mr_aret (v := none) C hW hS (Nat.le_of_ble_eq_true rfl) (Nat.le_of_ble_eq_true rfl) h d_X_findRule_22
  · have h := ifn h c1
    refine lv_iload_n hx hb d_X_findRule_4 rfl (lv_at hl 1 rfl) ?_
    refine lv_aload_n hx hb d_X_findRule_5 rfl (lv_at hl 0 rfl) ?_
    obtain ⟨x2, e2, h⟩ := ob h
    refine mr_gI C hW k_X_34 e2 d_X_findRule_6 ?_
    refine lv_icmp_lt (tgt := 16) hx hb d_X_findRule_9 (by decide) (fun c3 => ?_) (fun c3 => ?_)
    · have h := ifp h c3
      refine lv_aload_n hx hb d_X_findRule_16 rfl (lv_at hl 0 rfl) ?_
      obtain ⟨x4, e4, h⟩ := ob h
      refine mr_gR C hW k_X_30 e4 d_X_findRule_17 ?_
      refine lv_iload_n hx hb d_X_findRule_20 rfl (lv_at hl 1 rfl) ?_
      obtain ⟨x5, e5, h⟩ := ob h
      refine mr_aR C hW (t0 := 4) rfl e5 d_X_findRule_21 ?_
      exact mr_aret (v := (some x5)) C hW hS (Nat.le_of_ble_eq_true rfl) (Nat.le_of_ble_eq_true rfl) h d_X_findRule_22
    · have h := ifn h c3
      refine lv_null hx hb d_X_findRule_12 ?_
      refine lv_goto (tgt := 22) hx hb d_X_findRule_13 (by decide) ?_
      exact mr_aret (v := none) C hW hS (Nat.le_of_ble_eq_true rfl) (Nat.le_of_ble_eq_true rfl) h d_X_findRule_22
def f_X_fails (v0 : Nat) (v1 : Int32) (v2 : Int32) (M : mm) : Option (Int32 × mm) :=
    (kO 0 M v0).bind fun _ =>
    (f_X_findRule v0 v1 M).bind fun (x1, M1) =>
    qm x1 (
      some ((-1), M1)
      ) fun x3 =>
    (kB v2).bind fun _ =>
    (pF 5 4 (.int v2) M1 x3).bind fun M5 =>
    some (1, M5)
set_option maxHeartbeats 4000000 in
set_option maxRecDepth 100000 in
theorem c_X_fails (l : Launch) (D : va_G) (dA : Nat → ClassId) (M0 M' : mm) (r : Int32) (v0 : Nat) (v1 : Int32) (v2 : Int32) (h : f_X_fails v0 v1 v2 M0 = some (r, M')) : Met l y_X_fails w_X_fails rm_X_fails (mm_Pre D dA M0 [.ref v0, .int v1, .int v2]) (mm_QI D dA M0 r M') 0 0 (mm_A M0) := by
  refine Met.ofW (cc := b_X_fails) (maxL := 4) (ret := (some .int)) (by decide) rfl ?_
  intro p e s m args below meth c s₁ B hml hv
  obtain ⟨rfl, hW, hK⟩ := hv
  have C : mm_C p s m _ meth c b_X_fails 4 (some .int) R_X D dA (mm_A M0) := ⟨B.exec, B.bytes, B.returns, hml, findClass_of_methodNamed B.named, fun w hw => atoms_spec (ws := w_X_fails) B.pre w (List.mem_cons_of_mem _ hw), B.notSynchronized, hK, fun q hq => Or.inr (by rw [← hW.1]; exact hq)⟩
  have hS : va_S (mm_A M0) s.heap s.heap [] := va_S.rf
  obtain ⟨hx, hb, hr, hml, hown, hts, hlocks, hK, hA⟩ := id C
  have hl := lv_entry ([.ref v0, .int v1, .int v2]) (n := 4) (Nat.le_of_ble_eq_true rfl)
  rw [lg_entry_eq]
  generalize (lg_sl ([.ref v0, .int v1, .int v2]) ++ List.replicate (4 - (lg_sl ([.ref v0, .int v1, .int v2])).length) Slot.unset).toArray = ls at hl ⊢
  have hl : lv_has ls 4 [(0, .ref v0), (1, .int v1), (2, .int v2)] := hl
  unfold f_X_fails at h
  refine lv_aload_n hx hb d_X_fails_0 rfl (lv_at hl 0 rfl) ?_
  refine lv_iload_n hx hb d_X_fails_1 rfl (lv_at hl 1 rfl) ?_
  obtain ⟨_, e2, h⟩ := ob h
  obtain ⟨⟨x1, M1⟩, e1, h⟩ := ob h
  refine mr_cq C hW hS (va_runV (As := [.int v1]) (rest := []) ⟨hx, hb, hml, hown, hts⟩ (c_X_findRule l D dA _ _ _ v0 v1 e1) (cwV 1 hts (mg_V q_124 q_125 q_126 q_127 q_71) rfl rfl rfl (by decide +kernel) ⟨Nat.le_of_ble_eq_true rfl, Nat.le_of_ble_eq_true rfl⟩) (mr_preV C hW (ci := 0) rfl e2) rfl rfl hl.1 rfl (lv_room (Nat.le_of_ble_eq_true rfl)) d_X_fails_2 ⟨Nat.le_of_ble_eq_true rfl, Nat.le_of_ble_eq_true rfl⟩) (fun H locs hW hS => ?_)
  refine mr_astore_nq (lv' := [(3, va_rf x1), (0, .ref v0), (1, .int v1), (2, .int v2)]) hx hb d_X_fails_5 rfl hl (by decide) rfl (fun ls hl => ?_)
  refine mr_aload_nq hx hb d_X_fails_6 rfl (lv_at hl 0 rfl) ?_
  refine mr_ifnonnull (tgt := 12) hx hb d_X_fails_7 (by decide) (fun x3 e3 => ?_) (fun e3 => ?_)
  · rw [e3] at h
    rw [e3] at hl
    have hl : lv_has ls 4 [(3, .ref x3), (0, .ref v0), (1, .int v1), (2, .int v2)] := hl
    refine lv_aload_n hx hb d_X_fails_12 rfl (lv_at hl 0 rfl) ?_
    refine lv_iload_n hx hb d_X_fails_13 rfl (lv_at hl 3 rfl) ?_
    obtain ⟨_, e4, h⟩ := ob h
    obtain ⟨M5, e5, h⟩ := ob h
    refine mr_put C hW hS kp_X_114 (kB_some e4).1 (kB_some e4).2 e5 d_X_fails_14 (fun H locs hW hS => ?_)
    refine lv_iconst (v := 1) hx hb d_X_fails_17 (by decide) ?_
    exact mr_iret C hW hS (Nat.le_of_ble_eq_true rfl) (Nat.le_of_ble_eq_true rfl) h d_X_fails_18
  · rw [e3] at h
    refine lv_iconst (v := (-1)) hx hb d_X_fails_10 (by decide) ?_
    exact mr_iret C hW hS (Nat.le_of_ble_eq_true rfl) (Nat.le_of_ble_eq_true rfl) h d_X_fails_11
def f_X_isReader (v0 : Int32) (M : mm) : Option (Int32 × mm) :=
    if v0 < 0 then
      (kB 0).bind fun _ =>
      some (0, M)
    else
      if 100 ≤ v0 then
        (kB 0).bind fun _ =>
        some (0, M)
      else
        (kB 1).bind fun _ =>
        some (1, M)
set_option maxHeartbeats 4000000 in
set_option maxRecDepth 100000 in
theorem c_X_isReader (l : Launch) (D : va_G) (dA : Nat → ClassId) (M0 M' : mm) (r : Int32) (v0 : Int32) (h : f_X_isReader v0 M0 = some (r, M')) : Met l y_X_isReader w_X_isReader rm_X_isReader (mm_Pre D dA M0 [.int v0]) (mm_QI D dA M0 r M') 0 0 (mm_A M0) := by
  refine Met.ofW (cc := b_X_isReader) (maxL := 1) (ret := (some .boolean)) (by decide) rfl ?_
  intro p e s m args below meth c s₁ B hml hv
  obtain ⟨rfl, hW, hK⟩ := hv
  have C : mm_C p s m _ meth c b_X_isReader 1 (some .boolean) R_X D dA (mm_A M0) := ⟨B.exec, B.bytes, B.returns, hml, findClass_of_methodNamed B.named, fun w hw => atoms_spec (ws := w_X_isReader) B.pre w (List.mem_cons_of_mem _ hw), B.notSynchronized, hK, fun q hq => Or.inr (by rw [← hW.1]; exact hq)⟩
  have hS : va_S (mm_A M0) s.heap s.heap [] := va_S.rf
  obtain ⟨hx, hb, hr, hml, hown, hts, hlocks, hK, hA⟩ := id C
  have hl := lv_entry ([.int v0]) (n := 1) (Nat.le_of_ble_eq_true rfl)
  rw [lg_entry_eq]
  generalize (lg_sl ([.int v0]) ++ List.replicate (1 - (lg_sl ([.int v0])).length) Slot.unset).toArray = ls at hl ⊢
  have hl : lv_has ls 1 [(0, .int v0)] := hl
  unfold f_X_isReader at h
  refine lv_iload_n hx hb d_X_isReader_0 rfl (lv_at hl 0 rfl) ?_
  refine lv_if_lt (tgt := 14) hx hb d_X_isReader_1 (by decide) (fun c1 => ?_) (fun c1 => ?_)
  · have h := ifp h c1
    refine lv_iconst (v := 0) hx hb d_X_isReader_14 (by decide) ?_
    obtain ⟨_, e2, h⟩ := ob h
    exact mr_zret C hW hS (Nat.le_of_ble_eq_true rfl) (Nat.le_of_ble_eq_true rfl) e2 h d_X_isReader_15
  · have h := ifn h c1
    refine lv_iload_n hx hb d_X_isReader_4 rfl (lv_at hl 0 rfl) ?_
    refine lv_bipush (v := 100) hx hb d_X_isReader_5 (by decide) ?_
    refine lv_icmp_ge (tgt := 14) hx hb d_X_isReader_7 (by decide) (fun c3 => ?_) (fun c3 => ?_)
    · have h := ifp h c3
      refine lv_iconst (v := 0) hx hb d_X_isReader_14 (by decide) ?_
      obtain ⟨_, e4, h⟩ := ob h
      exact mr_zret C hW hS (Nat.le_of_ble_eq_true rfl) (Nat.le_of_ble_eq_true rfl) e4 h d_X_isReader_15
    · have h := ifn h c3
      refine lv_iconst (v := 1) hx hb d_X_isReader_10 (by decide) ?_
      refine lv_goto (tgt := 15) hx hb d_X_isReader_11 (by decide) ?_
      obtain ⟨_, e5, h⟩ := ob h
      exact mr_zret C hW hS (Nat.le_of_ble_eq_true rfl) (Nat.le_of_ble_eq_true rfl) e5 h d_X_isReader_15
def f_X_reader (v0 : Nat) (v1 : Int32) (v2 : Int32) (M : mm) : Option (Int32 × mm) :=
    (f_X_isReader v1 M).bind fun (x1, M1) =>
    if x1 = 0 then
      some ((-1), M1)
    else
      if v2 < 0 then
        some ((-2), M1)
      else
        if v2 ≤ 9 then
          (gR 0 6 M1 v0).bind fun x5 =>
          (sI v2 M1 x5 v1).bind fun M6 =>
          some (1, M6)
        else
          some ((-2), M1)
set_option maxHeartbeats 4000000 in
set_option maxRecDepth 100000 in
theorem c_X_reader (l : Launch) (D : va_G) (dA : Nat → ClassId) (M0 M' : mm) (r : Int32) (v0 : Nat) (v1 : Int32) (v2 : Int32) (h : f_X_reader v0 v1 v2 M0 = some (r, M')) : Met l y_X_reader w_X_reader rm_X_reader (mm_Pre D dA M0 [.ref v0, .int v1, .int v2]) (mm_QI D dA M0 r M') 0 0 (mm_A M0) := by
  refine Met.ofW (cc := b_X_reader) (maxL := 3) (ret := (some .int)) (by decide) rfl ?_
  intro p e s m args below meth c s₁ B hml hv
  obtain ⟨rfl, hW, hK⟩ := hv
  have C : mm_C p s m _ meth c b_X_reader 3 (some .int) R_X D dA (mm_A M0) := ⟨B.exec, B.bytes, B.returns, hml, findClass_of_methodNamed B.named, fun w hw => atoms_spec (ws := w_X_reader) B.pre w (List.mem_cons_of_mem _ hw), B.notSynchronized, hK, fun q hq => Or.inr (by rw [← hW.1]; exact hq)⟩
  have hS : va_S (mm_A M0) s.heap s.heap [] := va_S.rf
  obtain ⟨hx, hb, hr, hml, hown, hts, hlocks, hK, hA⟩ := id C
  have hl := lv_entry ([.ref v0, .int v1, .int v2]) (n := 3) (Nat.le_of_ble_eq_true rfl)
  rw [lg_entry_eq]
  generalize (lg_sl ([.ref v0, .int v1, .int v2]) ++ List.replicate (3 - (lg_sl ([.ref v0, .int v1, .int v2])).length) Slot.unset).toArray = ls at hl ⊢
  have hl : lv_has ls 3 [(0, .ref v0), (1, .int v1), (2, .int v2)] := hl
  unfold f_X_reader at h
  refine lv_iload_n hx hb d_X_reader_0 rfl (lv_at hl 1 rfl) ?_
  obtain ⟨⟨x1, M1⟩, e1, h⟩ := ob h
  refine mr_ci C hW hS (va_runS (As := [.int v1]) (rest := []) ⟨hx, hb, hml, hown, hts⟩ (c_X_isReader l D dA _ _ _ v1 e1) (cwS 1 hts (mg_S q_129 q_130 q_131 q_71) rfl rfl rfl (by decide +kernel) ⟨Nat.le_of_ble_eq_true rfl, Nat.le_of_ble_eq_true rfl⟩) (mr_pre C hW) rfl rfl hl.1 rfl (lv_room (Nat.le_of_ble_eq_true rfl)) d_X_reader_1 ⟨Nat.le_of_ble_eq_true rfl, Nat.le_of_ble_eq_true rfl⟩) (fun H locs hW hS => ?_)
  refine lv_if_ne (tgt := 9) hx hb d_X_reader_4 (by decide) (fun c2 => ?_) (fun c2 => ?_)
  · have h := ifn h c2
    refine lv_iload_n hx hb d_X_reader_9 rfl (lv_at hl 2 rfl) ?_
    refine lv_if_lt (tgt := 19) hx hb d_X_reader_10 (by decide) (fun c3 => ?_) (fun c3 => ?_)
    · have h := ifp h c3
      refine lv_bipush (v := (-2)) hx hb d_X_reader_19 (by decide) ?_
      exact mr_iret C hW hS (Nat.le_of_ble_eq_true rfl) (Nat.le_of_ble_eq_true rfl) h d_X_reader_21
    · have h := ifn h c3
      refine lv_iload_n hx hb d_X_reader_13 rfl (lv_at hl 2 rfl) ?_
      refine lv_bipush (v := 9) hx hb d_X_reader_14 (by decide) ?_
      refine lv_icmp_le (tgt := 22) hx hb d_X_reader_16 (by decide) (fun c4 => ?_) (fun c4 => ?_)
      · have h := ifp h c4
        refine lv_aload_n hx hb d_X_reader_22 rfl (lv_at hl 0 rfl) ?_
        obtain ⟨x5, e5, h⟩ := ob h
        refine mr_gR C hW k_X_37 e5 d_X_reader_23 ?_
        refine lv_iload_n hx hb d_X_reader_26 rfl (lv_at hl 1 rfl) ?_
        refine lv_iload_n hx hb d_X_reader_27 rfl (lv_at hl 2 rfl) ?_
        obtain ⟨M6, e6, h⟩ := ob h
        refine mr_sI C hW hS e6 d_X_reader_28 (fun H locs hW hS => ?_)
        refine lv_iconst (v := 1) hx hb d_X_reader_29 (by decide) ?_
        exact mr_iret C hW hS (Nat.le_of_ble_eq_true rfl) (Nat.le_of_ble_eq_true rfl) h d_X_reader_30
      · have h := ifn h c4
        refine lv_bipush (v := (-2)) hx hb d_X_reader_19 (by decide) ?_
        exact mr_iret C hW hS (Nat.le_of_ble_eq_true rfl) (Nat.le_of_ble_eq_true rfl) h d_X_reader_21
  · have h := ifp h c2
    refine lv_iconst (v := (-1)) hx hb d_X_reader_7 (by decide) ?_
    exact mr_iret C hW hS (Nat.le_of_ble_eq_true rfl) (Nat.le_of_ble_eq_true rfl) h d_X_reader_8
def f_X_room_b33 : Nat → Option Nat → Int32 → mm → Option (Int32 × mm)
  | 0, _, _, _ => none
  | n + 1, v3, v4, M =>
    if 100 ≤ v4 then
      some (v4, M)
    else
      (v3).bind fun x2 =>
      (kO 4 M x2).bind fun _ =>
      (f_Pack_admitNext x2 M).bind fun (x3, M3) =>
      if x3 = ((-10)) then
        some (v4, M3)
      else
        f_X_room_b33 n (some x2) (v4 + 1) M3
def f_X_room (v0 : Nat) (v1 : Int32) (v2 : Int32) (M : mm) : Option (Int32 × mm) :=
    (kO 0 M v0).bind fun _ =>
    (f_X_findPack v0 v1 M).bind fun (x6, M6) =>
    qm x6 (
      some ((-1), M6)
      ) fun x8 =>
    if v2 < 0 then
      some ((-2), M6)
    else
      if v2 ≤ 100 then
        (pF 4 4 (.int v2) M6 x8).bind fun M11 =>
        f_X_room_b33 FU (some x8) 0 M11
      else
        some ((-2), M6)
set_option maxHeartbeats 4000000 in
set_option maxRecDepth 100000 in
theorem w_X_room_b33 {p : Program} {l : Launch} {e : Env} {s : State} {m : MethodId} {args : Array Value} {below : List Frame} {meth : Method} {c : Code} {D : va_G} {dA : Nat → ClassId} {M0 M' : mm} {r : Int32} (C : mm_C p s m args meth c b_X_room 5 (some .int) R_X D dA (mm_A M0)) : ∀ (n : Nat), ∀ (v3 : Option Nat) (v4 : Int32) (M : mm) (H : Heap) (locs : List Loc) (ls : Array Slot), f_X_room_b33 n v3 v4 M = some (r, M') → mm_W D dA (mm_A M0) M H → va_S (mm_A M0) s.heap H locs → lv_has ls 5 [(3, va_rf v3), (4, .int v4)] → W p l e rm_X_room s m args below meth c H locs 0 0 (MQ below (mm_QI D dA M0 r M') args s 0 0 (mm_A M0)) (F0 m 33 ls []) := by
  obtain ⟨hx, hb, hr, hml, hown, hts, hlocks, hK, hA⟩ := id C
  intro n
  induction n with
  | zero =>
    intro v3 v4 M H locs ls h hW hS hl
    unfold f_X_room_b33 at h
    cases h
  | succ n ih =>
    intro v3 v4 M H locs ls h hW hS hl
    unfold f_X_room_b33 at h
    refine lv_iload hx hb d_X_room_33 (lv_at hl 1 rfl) ?_
    refine lv_bipush (v := 100) hx hb d_X_room_35 (by decide) ?_
    refine lv_icmp_ge (tgt := 55) hx hb d_X_room_37 (by decide) (fun c1 => ?_) (fun c1 => ?_)
    · have h := ifp h c1
      refine lv_iload hx hb d_X_room_55 (lv_at hl 1 rfl) ?_
      exact mr_iret C hW hS (Nat.le_of_ble_eq_true rfl) (Nat.le_of_ble_eq_true rfl) h d_X_room_57
    · have h := ifn h c1
      refine mr_aload_nq hx hb d_X_room_40 rfl (lv_at hl 0 rfl) ?_
      obtain ⟨x2, e2, h⟩ := ob h
      rw [e2]
      rw [e2] at hl
      have hl : lv_has ls 5 [(3, .ref x2), (4, .int v4)] := hl
      obtain ⟨_, e4, h⟩ := ob h
      obtain ⟨⟨x3, M3⟩, e3, h⟩ := ob h
      refine mr_ci C hW hS (va_runV (As := []) (rest := []) ⟨hx, hb, hml, hown, hts⟩ (c_Pack_admitNext l D dA _ _ _ x2 e3) (cwV 0 hts (mg_V q_150 q_151 q_152 q_153 q_52) rfl rfl rfl (by decide +kernel) ⟨Nat.le_of_ble_eq_true rfl, Nat.le_of_ble_eq_true rfl⟩) (mr_preV C hW (ci := 4) rfl e4) rfl rfl hl.1 rfl (lv_room (Nat.le_of_ble_eq_true rfl)) d_X_room_41 ⟨Nat.le_of_ble_eq_true rfl, Nat.le_of_ble_eq_true rfl⟩) (fun H locs hW hS => ?_)
      refine lv_bipush (v := (-10)) hx hb d_X_room_44 (by decide) ?_
      refine lv_icmp_eq (tgt := 55) hx hb d_X_room_46 (by decide) (fun c5 => ?_) (fun c5 => ?_)
      · have h := ifp h c5
        refine lv_iload hx hb d_X_room_55 (lv_at hl 1 rfl) ?_
        exact mr_iret C hW hS (Nat.le_of_ble_eq_true rfl) (Nat.le_of_ble_eq_true rfl) h d_X_room_57
      · have h := ifn h c5
        refine lv_iinc (v := v4 + 1) (lv' := [(4, .int (v4 + 1)), (3, .ref x2)]) hx hb d_X_room_49 hl (k := 1) rfl rfl (by decide) rfl (fun ls hl => ?_)
        refine lv_goto (tgt := 33) hx hb d_X_room_52 (by decide) ?_
        exact ih _ _ _ _ _ _ h hW hS (lv_sub hl [1, 0] rfl)
set_option maxHeartbeats 4000000 in
set_option maxRecDepth 100000 in
theorem c_X_room (l : Launch) (D : va_G) (dA : Nat → ClassId) (M0 M' : mm) (r : Int32) (v0 : Nat) (v1 : Int32) (v2 : Int32) (h : f_X_room v0 v1 v2 M0 = some (r, M')) : Met l y_X_room w_X_room rm_X_room (mm_Pre D dA M0 [.ref v0, .int v1, .int v2]) (mm_QI D dA M0 r M') 0 0 (mm_A M0) := by
  refine Met.ofW (cc := b_X_room) (maxL := 5) (ret := (some .int)) (by decide) rfl ?_
  intro p e s m args below meth c s₁ B hml hv
  obtain ⟨rfl, hW, hK⟩ := hv
  have C : mm_C p s m _ meth c b_X_room 5 (some .int) R_X D dA (mm_A M0) := ⟨B.exec, B.bytes, B.returns, hml, findClass_of_methodNamed B.named, fun w hw => atoms_spec (ws := w_X_room) B.pre w (List.mem_cons_of_mem _ hw), B.notSynchronized, hK, fun q hq => Or.inr (by rw [← hW.1]; exact hq)⟩
  have hS : va_S (mm_A M0) s.heap s.heap [] := va_S.rf
  obtain ⟨hx, hb, hr, hml, hown, hts, hlocks, hK, hA⟩ := id C
  have hl := lv_entry ([.ref v0, .int v1, .int v2]) (n := 5) (Nat.le_of_ble_eq_true rfl)
  rw [lg_entry_eq]
  generalize (lg_sl ([.ref v0, .int v1, .int v2]) ++ List.replicate (5 - (lg_sl ([.ref v0, .int v1, .int v2])).length) Slot.unset).toArray = ls at hl ⊢
  have hl : lv_has ls 5 [(0, .ref v0), (1, .int v1), (2, .int v2)] := hl
  unfold f_X_room at h
  refine lv_aload_n hx hb d_X_room_0 rfl (lv_at hl 0 rfl) ?_
  refine lv_iload_n hx hb d_X_room_1 rfl (lv_at hl 1 rfl) ?_
  obtain ⟨_, e7, h⟩ := ob h
  obtain ⟨⟨x6, M6⟩, e6, h⟩ := ob h
  refine mr_cq C hW hS (va_runV (As := [.int v1]) (rest := []) ⟨hx, hb, hml, hown, hts⟩ (c_X_findPack l D dA _ _ _ v0 v1 e6) (cwV 1 hts (mg_V q_67 q_68 q_69 q_70 q_71) rfl rfl rfl (by decide +kernel) ⟨Nat.le_of_ble_eq_true rfl, Nat.le_of_ble_eq_true rfl⟩) (mr_preV C hW (ci := 0) rfl e7) rfl rfl hl.1 rfl (lv_room (Nat.le_of_ble_eq_true rfl)) d_X_room_2 ⟨Nat.le_of_ble_eq_true rfl, Nat.le_of_ble_eq_true rfl⟩) (fun H locs hW hS => ?_)
  refine mr_astore_nq (lv' := [(3, va_rf x6), (0, .ref v0), (1, .int v1), (2, .int v2)]) hx hb d_X_room_5 rfl hl (by decide) rfl (fun ls hl => ?_)
  refine mr_aload_nq hx hb d_X_room_6 rfl (lv_at hl 0 rfl) ?_
  refine mr_ifnonnull (tgt := 12) hx hb d_X_room_7 (by decide) (fun x8 e8 => ?_) (fun e8 => ?_)
  · rw [e8] at h
    rw [e8] at hl
    have hl : lv_has ls 5 [(3, .ref x8), (0, .ref v0), (1, .int v1), (2, .int v2)] := hl
    refine lv_iload_n hx hb d_X_room_12 rfl (lv_at hl 3 rfl) ?_
    refine lv_if_lt (tgt := 22) hx hb d_X_room_13 (by decide) (fun c9 => ?_) (fun c9 => ?_)
    · have h := ifp h c9
      refine lv_bipush (v := (-2)) hx hb d_X_room_22 (by decide) ?_
      exact mr_iret C hW hS (Nat.le_of_ble_eq_true rfl) (Nat.le_of_ble_eq_true rfl) h d_X_room_24
    · have h := ifn h c9
      refine lv_iload_n hx hb d_X_room_16 rfl (lv_at hl 3 rfl) ?_
      refine lv_bipush (v := 100) hx hb d_X_room_17 (by decide) ?_
      refine lv_icmp_le (tgt := 25) hx hb d_X_room_19 (by decide) (fun c10 => ?_) (fun c10 => ?_)
      · have h := ifp h c10
        refine lv_aload_n hx hb d_X_room_25 rfl (lv_at hl 0 rfl) ?_
        refine lv_iload_n hx hb d_X_room_26 rfl (lv_at hl 3 rfl) ?_
        obtain ⟨M11, e11, h⟩ := ob h
        refine mr_put C hW hS kp_X_121 rfl rfl e11 d_X_room_27 (fun H locs hW hS => ?_)
        refine lv_iconst (v := 0) hx hb d_X_room_30 (by decide) ?_
        refine lv_istore (lv' := [(4, .int 0), (3, .ref x8), (0, .ref v0), (1, .int v1), (2, .int v2)]) hx hb d_X_room_31 hl (by decide) rfl (fun ls hl => ?_)
        exact w_X_room_b33 C FU _ _ _ _ _ _ h hW hS (lv_sub hl [1, 0] rfl)
      · have h := ifn h c10
        refine lv_bipush (v := (-2)) hx hb d_X_room_22 (by decide) ?_
        exact mr_iret C hW hS (Nat.le_of_ble_eq_true rfl) (Nat.le_of_ble_eq_true rfl) h d_X_room_24
  · rw [e8] at h
    refine lv_iconst (v := (-1)) hx hb d_X_room_10 (by decide) ?_
    exact mr_iret C hW hS (Nat.le_of_ble_eq_true rfl) (Nat.le_of_ble_eq_true rfl) h d_X_room_11
def f_X_in (v0 : Nat) (v1 : Int32) (v2 : Int32) (M : mm) : Option (Int32 × mm) :=
    (kO 0 M v0).bind fun _ =>
    (f_X_findPack v0 v1 M).bind fun (x1, M1) =>
    qm x1 (
      some ((-1), M1)
      ) fun x3 =>
    (f_X_isReader v2 M1).bind fun (x4, M4) =>
    if x4 = 0 then
      some ((-1), M4)
    else
      (gR 4 2 M4 x3).bind fun x6 =>
      (kO 2 M4 x6).bind fun _ =>
      (f_Line_holds x6 v2 M4).bind fun (x7, M7) =>
      if x7 = 0 then
        (gR 4 3 M7 x3).bind fun x10 =>
        (kO 2 M7 x10).bind fun _ =>
        (f_Line_holds x10 v2 M7).bind fun (x11, M11) =>
        if x11 = 0 then
          (kO 4 M11 x3).bind fun _ =>
          (f_Pack_hasPlace x3 M11).bind fun (x14, M14) =>
          if x14 = 0 then
            (gR 4 3 M14 x3).bind fun x20 =>
            (kO 2 M14 x20).bind fun _ =>
            (f_Line_append x20 v2 M14).bind fun (_, M21) =>
            some (0, M21)
          else
            (gR 4 2 M14 x3).bind fun x17 =>
            (kO 2 M14 x17).bind fun _ =>
            (f_Line_append x17 v2 M14).bind fun (_, M18) =>
            some (1, M18)
        else
          some ((-3), M11)
      else
        some ((-3), M7)
set_option maxHeartbeats 4000000 in
set_option maxRecDepth 100000 in
theorem c_X_in (l : Launch) (D : va_G) (dA : Nat → ClassId) (M0 M' : mm) (r : Int32) (v0 : Nat) (v1 : Int32) (v2 : Int32) (h : f_X_in v0 v1 v2 M0 = some (r, M')) : Met l y_X_in w_X_in rm_X_in (mm_Pre D dA M0 [.ref v0, .int v1, .int v2]) (mm_QI D dA M0 r M') 0 0 (mm_A M0) := by
  refine Met.ofW (cc := b_X_in) (maxL := 4) (ret := (some .int)) (by decide) rfl ?_
  intro p e s m args below meth c s₁ B hml hv
  obtain ⟨rfl, hW, hK⟩ := hv
  have C : mm_C p s m _ meth c b_X_in 4 (some .int) R_X D dA (mm_A M0) := ⟨B.exec, B.bytes, B.returns, hml, findClass_of_methodNamed B.named, fun w hw => atoms_spec (ws := w_X_in) B.pre w (List.mem_cons_of_mem _ hw), B.notSynchronized, hK, fun q hq => Or.inr (by rw [← hW.1]; exact hq)⟩
  have hS : va_S (mm_A M0) s.heap s.heap [] := va_S.rf
  obtain ⟨hx, hb, hr, hml, hown, hts, hlocks, hK, hA⟩ := id C
  have hl := lv_entry ([.ref v0, .int v1, .int v2]) (n := 4) (Nat.le_of_ble_eq_true rfl)
  rw [lg_entry_eq]
  generalize (lg_sl ([.ref v0, .int v1, .int v2]) ++ List.replicate (4 - (lg_sl ([.ref v0, .int v1, .int v2])).length) Slot.unset).toArray = ls at hl ⊢
  have hl : lv_has ls 4 [(0, .ref v0), (1, .int v1), (2, .int v2)] := hl
  unfold f_X_in at h
  refine lv_aload_n hx hb d_X_in_0 rfl (lv_at hl 0 rfl) ?_
  refine lv_iload_n hx hb d_X_in_1 rfl (lv_at hl 1 rfl) ?_
  obtain ⟨_, e2, h⟩ := ob h
  obtain ⟨⟨x1, M1⟩, e1, h⟩ := ob h
  refine mr_cq C hW hS (va_runV (As := [.int v1]) (rest := []) ⟨hx, hb, hml, hown, hts⟩ (c_X_findPack l D dA _ _ _ v0 v1 e1) (cwV 1 hts (mg_V q_67 q_68 q_69 q_70 q_71) rfl rfl rfl (by decide +kernel) ⟨Nat.le_of_ble_eq_true rfl, Nat.le_of_ble_eq_true rfl⟩) (mr_preV C hW (ci := 0) rfl e2) rfl rfl hl.1 rfl (lv_room (Nat.le_of_ble_eq_true rfl)) d_X_in_2 ⟨Nat.le_of_ble_eq_true rfl, Nat.le_of_ble_eq_true rfl⟩) (fun H locs hW hS => ?_)
  refine mr_astore_nq (lv' := [(3, va_rf x1), (0, .ref v0), (1, .int v1), (2, .int v2)]) hx hb d_X_in_5 rfl hl (by decide) rfl (fun ls hl => ?_)
  refine mr_aload_nq hx hb d_X_in_6 rfl (lv_at hl 0 rfl) ?_
  refine mr_ifnull (tgt := 17) hx hb d_X_in_7 (by decide) (fun e3 => ?_) (fun x3 e3 => ?_)
  · rw [e3] at h
    refine lv_iconst (v := (-1)) hx hb d_X_in_17 (by decide) ?_
    exact mr_iret C hW hS (Nat.le_of_ble_eq_true rfl) (Nat.le_of_ble_eq_true rfl) h d_X_in_18
  · rw [e3] at h
    rw [e3] at hl
    have hl : lv_has ls 4 [(3, .ref x3), (0, .ref v0), (1, .int v1), (2, .int v2)] := hl
    refine lv_iload_n hx hb d_X_in_10 rfl (lv_at hl 3 rfl) ?_
    obtain ⟨⟨x4, M4⟩, e4, h⟩ := ob h
    refine mr_ci C hW hS (va_runS (As := [.int v2]) (rest := []) ⟨hx, hb, hml, hown, hts⟩ (c_X_isReader l D dA _ _ _ v2 e4) (cwS 1 hts (mg_S q_129 q_130 q_131 q_71) rfl rfl rfl (by decide +kernel) ⟨Nat.le_of_ble_eq_true rfl, Nat.le_of_ble_eq_true rfl⟩) (mr_pre C hW) rfl rfl hl.1 rfl (lv_room (Nat.le_of_ble_eq_true rfl)) d_X_in_11 ⟨Nat.le_of_ble_eq_true rfl, Nat.le_of_ble_eq_true rfl⟩) (fun H locs hW hS => ?_)
    refine lv_if_ne (tgt := 19) hx hb d_X_in_14 (by decide) (fun c5 => ?_) (fun c5 => ?_)
    · have h := ifn h c5
      refine lv_aload_n hx hb d_X_in_19 rfl (lv_at hl 0 rfl) ?_
      obtain ⟨x6, e6, h⟩ := ob h
      refine mr_gR C hW k_X_128 e6 d_X_in_20 ?_
      refine lv_iload_n hx hb d_X_in_23 rfl (lv_at hl 3 rfl) ?_
      obtain ⟨_, e8, h⟩ := ob h
      obtain ⟨⟨x7, M7⟩, e7, h⟩ := ob h
      refine mr_ci C hW hS (va_runV (As := [.int v2]) (rest := []) ⟨hx, hb, hml, hown, hts⟩ (c_Line_holds l D dA _ _ _ x6 v2 e7) (cwV 1 hts (mg_V q_156 q_157 q_158 q_159 q_42) rfl rfl rfl (by decide +kernel) ⟨Nat.le_of_ble_eq_true rfl, Nat.le_of_ble_eq_true rfl⟩) (mr_preV C hW (ci := 2) rfl e8) rfl rfl hl.1 rfl (lv_room (Nat.le_of_ble_eq_true rfl)) d_X_in_24 ⟨Nat.le_of_ble_eq_true rfl, Nat.le_of_ble_eq_true rfl⟩) (fun H locs hW hS => ?_)
      refine lv_if_ne (tgt := 41) hx hb d_X_in_27 (by decide) (fun c9 => ?_) (fun c9 => ?_)
      · have h := ifn h c9
        refine lv_bipush (v := (-3)) hx hb d_X_in_41 (by decide) ?_
        exact mr_iret C hW hS (Nat.le_of_ble_eq_true rfl) (Nat.le_of_ble_eq_true rfl) h d_X_in_43
      · have h := ifp h c9
        refine lv_aload_n hx hb d_X_in_30 rfl (lv_at hl 0 rfl) ?_
        obtain ⟨x10, e10, h⟩ := ob h
        refine mr_gR C hW k_X_137 e10 d_X_in_31 ?_
        refine lv_iload_n hx hb d_X_in_34 rfl (lv_at hl 3 rfl) ?_
        obtain ⟨_, e12, h⟩ := ob h
        obtain ⟨⟨x11, M11⟩, e11, h⟩ := ob h
        refine mr_ci C hW hS (va_runV (As := [.int v2]) (rest := []) ⟨hx, hb, hml, hown, hts⟩ (c_Line_holds l D dA _ _ _ x10 v2 e11) (cwV 1 hts (mg_V q_156 q_157 q_158 q_159 q_42) rfl rfl rfl (by decide +kernel) ⟨Nat.le_of_ble_eq_true rfl, Nat.le_of_ble_eq_true rfl⟩) (mr_preV C hW (ci := 2) rfl e12) rfl rfl hl.1 rfl (lv_room (Nat.le_of_ble_eq_true rfl)) d_X_in_35 ⟨Nat.le_of_ble_eq_true rfl, Nat.le_of_ble_eq_true rfl⟩) (fun H locs hW hS => ?_)
        refine lv_if_eq (tgt := 44) hx hb d_X_in_38 (by decide) (fun c13 => ?_) (fun c13 => ?_)
        · have h := ifp h c13
          refine lv_aload_n hx hb d_X_in_44 rfl (lv_at hl 0 rfl) ?_
          obtain ⟨_, e15, h⟩ := ob h
          obtain ⟨⟨x14, M14⟩, e14, h⟩ := ob h
          refine mr_ci C hW hS (va_runV (As := []) (rest := []) ⟨hx, hb, hml, hown, hts⟩ (c_Pack_hasPlace l D dA _ _ _ x3 e14) (cwV 0 hts (mg_V q_137 q_161 q_139 q_140 q_52) rfl rfl rfl (by decide +kernel) ⟨Nat.le_of_ble_eq_true rfl, Nat.le_of_ble_eq_true rfl⟩) (mr_preV C hW (ci := 4) rfl e15) rfl rfl hl.1 rfl (lv_room (Nat.le_of_ble_eq_true rfl)) d_X_in_45 ⟨Nat.le_of_ble_eq_true rfl, Nat.le_of_ble_eq_true rfl⟩) (fun H locs hW hS => ?_)
          refine lv_if_ne (tgt := 61) hx hb d_X_in_48 (by decide) (fun c16 => ?_) (fun c16 => ?_)
          · have h := ifn h c16
            refine lv_aload_n hx hb d_X_in_61 rfl (lv_at hl 0 rfl) ?_
            obtain ⟨x17, e17, h⟩ := ob h
            refine mr_gR C hW k_X_128 e17 d_X_in_62 ?_
            refine lv_iload_n hx hb d_X_in_65 rfl (lv_at hl 3 rfl) ?_
            obtain ⟨_, e19, h⟩ := ob h
            obtain ⟨⟨u18, M18⟩, e18, h⟩ := ob h
            refine mr_cv C hW hS (va_runV (As := [.int v2]) (rest := []) ⟨hx, hb, hml, hown, hts⟩ (c_Line_append l D dA _ _ _ x17 v2 e18) (cwV 1 hts (mg_V q_146 q_162 q_148 q_149 q_42) rfl rfl rfl (by decide +kernel) ⟨Nat.le_of_ble_eq_true rfl, Nat.le_of_ble_eq_true rfl⟩) (mr_preV C hW (ci := 2) rfl e19) rfl rfl hl.1 rfl (lv_room (Nat.le_of_ble_eq_true rfl)) d_X_in_66 ⟨Nat.le_of_ble_eq_true rfl, Nat.le_of_ble_eq_true rfl⟩) (fun H locs hW hS => ?_)
            refine lv_iconst (v := 1) hx hb d_X_in_69 (by decide) ?_
            exact mr_iret C hW hS (Nat.le_of_ble_eq_true rfl) (Nat.le_of_ble_eq_true rfl) h d_X_in_70
          · have h := ifp h c16
            refine lv_aload_n hx hb d_X_in_51 rfl (lv_at hl 0 rfl) ?_
            obtain ⟨x20, e20, h⟩ := ob h
            refine mr_gR C hW k_X_137 e20 d_X_in_52 ?_
            refine lv_iload_n hx hb d_X_in_55 rfl (lv_at hl 3 rfl) ?_
            obtain ⟨_, e22, h⟩ := ob h
            obtain ⟨⟨u21, M21⟩, e21, h⟩ := ob h
            refine mr_cv C hW hS (va_runV (As := [.int v2]) (rest := []) ⟨hx, hb, hml, hown, hts⟩ (c_Line_append l D dA _ _ _ x20 v2 e21) (cwV 1 hts (mg_V q_146 q_162 q_148 q_149 q_42) rfl rfl rfl (by decide +kernel) ⟨Nat.le_of_ble_eq_true rfl, Nat.le_of_ble_eq_true rfl⟩) (mr_preV C hW (ci := 2) rfl e22) rfl rfl hl.1 rfl (lv_room (Nat.le_of_ble_eq_true rfl)) d_X_in_56 ⟨Nat.le_of_ble_eq_true rfl, Nat.le_of_ble_eq_true rfl⟩) (fun H locs hW hS => ?_)
            refine lv_iconst (v := 0) hx hb d_X_in_59 (by decide) ?_
            exact mr_iret C hW hS (Nat.le_of_ble_eq_true rfl) (Nat.le_of_ble_eq_true rfl) h d_X_in_60
        · have h := ifn h c13
          refine lv_bipush (v := (-3)) hx hb d_X_in_41 (by decide) ?_
          exact mr_iret C hW hS (Nat.le_of_ble_eq_true rfl) (Nat.le_of_ble_eq_true rfl) h d_X_in_43
    · have h := ifp h c5
      refine lv_iconst (v := (-1)) hx hb d_X_in_17 (by decide) ?_
      exact mr_iret C hW hS (Nat.le_of_ble_eq_true rfl) (Nat.le_of_ble_eq_true rfl) h d_X_in_18
def f_X_out (v0 : Nat) (v1 : Int32) (v2 : Int32) (M : mm) : Option (Int32 × mm) :=
    (kO 0 M v0).bind fun _ =>
    (f_X_findPack v0 v1 M).bind fun (x1, M1) =>
    qm x1 (
      some ((-1), M1)
      ) fun x3 =>
    (f_X_isReader v2 M1).bind fun (x4, M4) =>
    if x4 = 0 then
      some ((-1), M4)
    else
      (gR 4 2 M4 x3).bind fun x6 =>
      (kO 2 M4 x6).bind fun _ =>
      (f_Line_drop x6 v2 M4).bind fun (x7, M7) =>
      if x7 = 0 then
        (gR 4 3 M7 x3).bind fun x10 =>
        (kO 2 M7 x10).bind fun _ =>
        (f_Line_drop x10 v2 M7).bind fun (x11, M11) =>
        if x11 = 0 then
          some ((-3), M11)
        else
          some ((-10), M11)
      else
        (kO 4 M7 x3).bind fun _ =>
        (f_Pack_admitNext x3 M7).bind fun (x14, M14) =>
        some (x14, M14)
set_option maxHeartbeats 4000000 in
set_option maxRecDepth 100000 in
theorem c_X_out (l : Launch) (D : va_G) (dA : Nat → ClassId) (M0 M' : mm) (r : Int32) (v0 : Nat) (v1 : Int32) (v2 : Int32) (h : f_X_out v0 v1 v2 M0 = some (r, M')) : Met l y_X_out w_X_out rm_X_out (mm_Pre D dA M0 [.ref v0, .int v1, .int v2]) (mm_QI D dA M0 r M') 0 0 (mm_A M0) := by
  refine Met.ofW (cc := b_X_out) (maxL := 4) (ret := (some .int)) (by decide) rfl ?_
  intro p e s m args below meth c s₁ B hml hv
  obtain ⟨rfl, hW, hK⟩ := hv
  have C : mm_C p s m _ meth c b_X_out 4 (some .int) R_X D dA (mm_A M0) := ⟨B.exec, B.bytes, B.returns, hml, findClass_of_methodNamed B.named, fun w hw => atoms_spec (ws := w_X_out) B.pre w (List.mem_cons_of_mem _ hw), B.notSynchronized, hK, fun q hq => Or.inr (by rw [← hW.1]; exact hq)⟩
  have hS : va_S (mm_A M0) s.heap s.heap [] := va_S.rf
  obtain ⟨hx, hb, hr, hml, hown, hts, hlocks, hK, hA⟩ := id C
  have hl := lv_entry ([.ref v0, .int v1, .int v2]) (n := 4) (Nat.le_of_ble_eq_true rfl)
  rw [lg_entry_eq]
  generalize (lg_sl ([.ref v0, .int v1, .int v2]) ++ List.replicate (4 - (lg_sl ([.ref v0, .int v1, .int v2])).length) Slot.unset).toArray = ls at hl ⊢
  have hl : lv_has ls 4 [(0, .ref v0), (1, .int v1), (2, .int v2)] := hl
  unfold f_X_out at h
  refine lv_aload_n hx hb d_X_out_0 rfl (lv_at hl 0 rfl) ?_
  refine lv_iload_n hx hb d_X_out_1 rfl (lv_at hl 1 rfl) ?_
  obtain ⟨_, e2, h⟩ := ob h
  obtain ⟨⟨x1, M1⟩, e1, h⟩ := ob h
  refine mr_cq C hW hS (va_runV (As := [.int v1]) (rest := []) ⟨hx, hb, hml, hown, hts⟩ (c_X_findPack l D dA _ _ _ v0 v1 e1) (cwV 1 hts (mg_V q_67 q_68 q_69 q_70 q_71) rfl rfl rfl (by decide +kernel) ⟨Nat.le_of_ble_eq_true rfl, Nat.le_of_ble_eq_true rfl⟩) (mr_preV C hW (ci := 0) rfl e2) rfl rfl hl.1 rfl (lv_room (Nat.le_of_ble_eq_true rfl)) d_X_out_2 ⟨Nat.le_of_ble_eq_true rfl, Nat.le_of_ble_eq_true rfl⟩) (fun H locs hW hS => ?_)
  refine mr_astore_nq (lv' := [(3, va_rf x1), (0, .ref v0), (1, .int v1), (2, .int v2)]) hx hb d_X_out_5 rfl hl (by decide) rfl (fun ls hl => ?_)
  refine mr_aload_nq hx hb d_X_out_6 rfl (lv_at hl 0 rfl) ?_
  refine mr_ifnull (tgt := 17) hx hb d_X_out_7 (by decide) (fun e3 => ?_) (fun x3 e3 => ?_)
  · rw [e3] at h
    refine lv_iconst (v := (-1)) hx hb d_X_out_17 (by decide) ?_
    exact mr_iret C hW hS (Nat.le_of_ble_eq_true rfl) (Nat.le_of_ble_eq_true rfl) h d_X_out_18
  · rw [e3] at h
    rw [e3] at hl
    have hl : lv_has ls 4 [(3, .ref x3), (0, .ref v0), (1, .int v1), (2, .int v2)] := hl
    refine lv_iload_n hx hb d_X_out_10 rfl (lv_at hl 3 rfl) ?_
    obtain ⟨⟨x4, M4⟩, e4, h⟩ := ob h
    refine mr_ci C hW hS (va_runS (As := [.int v2]) (rest := []) ⟨hx, hb, hml, hown, hts⟩ (c_X_isReader l D dA _ _ _ v2 e4) (cwS 1 hts (mg_S q_129 q_130 q_131 q_71) rfl rfl rfl (by decide +kernel) ⟨Nat.le_of_ble_eq_true rfl, Nat.le_of_ble_eq_true rfl⟩) (mr_pre C hW) rfl rfl hl.1 rfl (lv_room (Nat.le_of_ble_eq_true rfl)) d_X_out_11 ⟨Nat.le_of_ble_eq_true rfl, Nat.le_of_ble_eq_true rfl⟩) (fun H locs hW hS => ?_)
    refine lv_if_ne (tgt := 19) hx hb d_X_out_14 (by decide) (fun c5 => ?_) (fun c5 => ?_)
    · have h := ifn h c5
      refine lv_aload_n hx hb d_X_out_19 rfl (lv_at hl 0 rfl) ?_
      obtain ⟨x6, e6, h⟩ := ob h
      refine mr_gR C hW k_X_128 e6 d_X_out_20 ?_
      refine lv_iload_n hx hb d_X_out_23 rfl (lv_at hl 3 rfl) ?_
      obtain ⟨_, e8, h⟩ := ob h
      obtain ⟨⟨x7, M7⟩, e7, h⟩ := ob h
      refine mr_ci C hW hS (va_runV (As := [.int v2]) (rest := []) ⟨hx, hb, hml, hown, hts⟩ (c_Line_drop l D dA _ _ _ x6 v2 e7) (cwV 1 hts (mg_V q_142 q_163 q_144 q_145 q_42) rfl rfl rfl (by decide +kernel) ⟨Nat.le_of_ble_eq_true rfl, Nat.le_of_ble_eq_true rfl⟩) (mr_preV C hW (ci := 2) rfl e8) rfl rfl hl.1 rfl (lv_room (Nat.le_of_ble_eq_true rfl)) d_X_out_24 ⟨Nat.le_of_ble_eq_true rfl, Nat.le_of_ble_eq_true rfl⟩) (fun H locs hW hS => ?_)
      refine lv_if_eq (tgt := 35) hx hb d_X_out_27 (by decide) (fun c9 => ?_) (fun c9 => ?_)
      · have h := ifp h c9
        refine lv_aload_n hx hb d_X_out_35 rfl (lv_at hl 0 rfl) ?_
        obtain ⟨x10, e10, h⟩ := ob h
        refine mr_gR C hW k_X_137 e10 d_X_out_36 ?_
        refine lv_iload_n hx hb d_X_out_39 rfl (lv_at hl 3 rfl) ?_
        obtain ⟨_, e12, h⟩ := ob h
        obtain ⟨⟨x11, M11⟩, e11, h⟩ := ob h
        refine mr_ci C hW hS (va_runV (As := [.int v2]) (rest := []) ⟨hx, hb, hml, hown, hts⟩ (c_Line_drop l D dA _ _ _ x10 v2 e11) (cwV 1 hts (mg_V q_142 q_163 q_144 q_145 q_42) rfl rfl rfl (by decide +kernel) ⟨Nat.le_of_ble_eq_true rfl, Nat.le_of_ble_eq_true rfl⟩) (mr_preV C hW (ci := 2) rfl e12) rfl rfl hl.1 rfl (lv_room (Nat.le_of_ble_eq_true rfl)) d_X_out_40 ⟨Nat.le_of_ble_eq_true rfl, Nat.le_of_ble_eq_true rfl⟩) (fun H locs hW hS => ?_)
        refine lv_if_eq (tgt := 51) hx hb d_X_out_43 (by decide) (fun c13 => ?_) (fun c13 => ?_)
        · have h := ifp h c13
          refine lv_bipush (v := (-3)) hx hb d_X_out_51 (by decide) ?_
          exact mr_iret C hW hS (Nat.le_of_ble_eq_true rfl) (Nat.le_of_ble_eq_true rfl) h d_X_out_53
        · have h := ifn h c13
          refine lv_bipush (v := (-10)) hx hb d_X_out_46 (by decide) ?_
          refine lv_goto (tgt := 53) hx hb d_X_out_48 (by decide) ?_
          exact mr_iret C hW hS (Nat.le_of_ble_eq_true rfl) (Nat.le_of_ble_eq_true rfl) h d_X_out_53
      · have h := ifn h c9
        refine lv_aload_n hx hb d_X_out_30 rfl (lv_at hl 0 rfl) ?_
        obtain ⟨_, e15, h⟩ := ob h
        obtain ⟨⟨x14, M14⟩, e14, h⟩ := ob h
        refine mr_ci C hW hS (va_runV (As := []) (rest := []) ⟨hx, hb, hml, hown, hts⟩ (c_Pack_admitNext l D dA _ _ _ x3 e14) (cwV 0 hts (mg_V q_150 q_151 q_152 q_153 q_52) rfl rfl rfl (by decide +kernel) ⟨Nat.le_of_ble_eq_true rfl, Nat.le_of_ble_eq_true rfl⟩) (mr_preV C hW (ci := 4) rfl e15) rfl rfl hl.1 rfl (lv_room (Nat.le_of_ble_eq_true rfl)) d_X_out_31 ⟨Nat.le_of_ble_eq_true rfl, Nat.le_of_ble_eq_true rfl⟩) (fun H locs hW hS => ?_)
        exact mr_iret C hW hS (Nat.le_of_ble_eq_true rfl) (Nat.le_of_ble_eq_true rfl) h d_X_out_34
    · have h := ifp h c5
      refine lv_iconst (v := (-1)) hx hb d_X_out_17 (by decide) ?_
      exact mr_iret C hW hS (Nat.le_of_ble_eq_true rfl) (Nat.le_of_ble_eq_true rfl) h d_X_out_18
def f_X_rulesAllow_b22 : Nat → Nat → Int32 → Nat → Int32 → Int32 → Int32 → mm → Option (Int32 × mm)
  | 0, _, _, _, _, _, _, _ => none
  | n + 1, v0, v1, v2, v3, v4, v5, M =>
    (gI 0 5 M v0).bind fun x1 =>
    if x1 ≤ v5 then
      (kB 0).bind fun _ =>
      some (0, M)
    else
      (gR 0 4 M v0).bind fun x4 =>
      (aR 4 M x4 v5).bind fun x5 =>
      (gI 5 0 M x5).bind fun x6 =>
      (gR 6 0 M v2).bind fun x7 =>
      (gI 4 0 M x7).bind fun x8 =>
      if x6 = x8 then
        (gI 5 4 M x5).bind fun x10 =>
        if x10 = 0 then
          (gR 0 6 M v0).bind fun x12 =>
          (aI M x12 v1).bind fun x13 =>
          (gI 6 1 M v2).bind fun x14 =>
          (kO 5 M x5).bind fun _ =>
          (f_Rule_fits x5 x13 x14 v3 v4 M).bind fun (x15, M15) =>
          if x15 = 0 then
            f_X_rulesAllow_b22 n v0 v1 v2 v3 v4 (v5 + 1) M15
          else
            (gI 5 2 M15 x5).bind fun x18 =>
            if x18 = 1 then
              (kB 1).bind fun _ =>
              some (1, M15)
            else
              (kB 0).bind fun _ =>
              some (0, M15)
        else
          (pF 0 9 (.int v5) M v0).bind fun M22 =>
          (gR 0 8 M22 v0).bind fun x23 =>
          (kO 3 M22 x23).bind fun _ =>
          (f_Notices_append x23 1 v5 M22).bind fun (_, M24) =>
          (kB 0).bind fun _ =>
          some (0, M24)
      else
        f_X_rulesAllow_b22 n v0 v1 v2 v3 v4 (v5 + 1) M
def f_X_rulesAllow (v0 : Nat) (v1 : Int32) (v2 : Nat) (v3 : Int32) (M : mm) : Option (Int32 × mm) :=
    (pF 0 9 (.int ((-1))) M v0).bind fun M27 =>
    (gR 0 7 M27 v0).bind fun x28 =>
    (f_X_monthOf v3 M27).bind fun (x29, M29) =>
    (kO 7 M29 x28).bind fun _ =>
    (f_Usages_ofReaderIn x28 v1 x29 M29).bind fun (x30, M30) =>
    f_X_rulesAllow_b22 FU v0 v1 v2 v3 x30 0 M30
set_option maxHeartbeats 4000000 in
set_option maxRecDepth 100000 in
theorem w_X_rulesAllow_b22 {p : Program} {l : Launch} {e : Env} {s : State} {m : MethodId} {args : Array Value} {below : List Frame} {meth : Method} {c : Code} {D : va_G} {dA : Nat → ClassId} {M0 M' : mm} {r : Int32} (C : mm_C p s m args meth c b_X_rulesAllow 7 (some .boolean) R_X D dA (mm_A M0)) : ∀ (n : Nat), ∀ (v0 : Nat) (v1 : Int32) (v2 : Nat) (v3 : Int32) (v4 : Int32) (v5 : Int32) (M : mm) (H : Heap) (locs : List Loc) (ls : Array Slot), f_X_rulesAllow_b22 n v0 v1 v2 v3 v4 v5 M = some (r, M') → mm_W D dA (mm_A M0) M H → va_S (mm_A M0) s.heap H locs → lv_has ls 7 [(0, .ref v0), (1, .int v1), (2, .ref v2), (3, .int v3), (4, .int v4), (5, .int v5)] → W p l e rm_X_rulesAllow s m args below meth c H locs 0 0 (MQ below (mm_QI D dA M0 r M') args s 0 0 (mm_A M0)) (F0 m 22 ls []) := by
  obtain ⟨hx, hb, hr, hml, hown, hts, hlocks, hK, hA⟩ := id C
  intro n
  induction n with
  | zero =>
    intro v0 v1 v2 v3 v4 v5 M H locs ls h hW hS hl
    unfold f_X_rulesAllow_b22 at h
    cases h
  | succ n ih =>
    intro v0 v1 v2 v3 v4 v5 M H locs ls h hW hS hl
    unfold f_X_rulesAllow_b22 at h
    refine lv_iload hx hb d_X_rulesAllow_22 (lv_at hl 5 rfl) ?_
    refine lv_aload_n hx hb d_X_rulesAllow_24 rfl (lv_at hl 0 rfl) ?_
    obtain ⟨x1, e1, h⟩ := ob h
    refine mr_gI C hW k_X_34 e1 d_X_rulesAllow_25 ?_
    refine lv_icmp_ge (tgt := 131) hx hb d_X_rulesAllow_28 (by decide) (fun c2 => ?_) (fun c2 => ?_)
    · have h := ifp h c2
      refine lv_iconst (v := 0) hx hb d_X_rulesAllow_131 (by decide) ?_
      obtain ⟨_, e3, h⟩ := ob h
      exact mr_zret C hW hS (Nat.le_of_ble_eq_true rfl) (Nat.le_of_ble_eq_true rfl) e3 h d_X_rulesAllow_132
    · have h := ifn h c2
      refine lv_aload_n hx hb d_X_rulesAllow_31 rfl (lv_at hl 0 rfl) ?_
      obtain ⟨x4, e4, h⟩ := ob h
      refine mr_gR C hW k_X_30 e4 d_X_rulesAllow_32 ?_
      refine lv_iload hx hb d_X_rulesAllow_35 (lv_at hl 5 rfl) ?_
      obtain ⟨x5, e5, h⟩ := ob h
      refine mr_aR C hW (t0 := 4) rfl e5 d_X_rulesAllow_37 ?_
      refine lv_astore (lv' := [(6, .ref x5), (0, .ref v0), (1, .int v1), (2, .ref v2), (3, .int v3), (4, .int v4), (5, .int v5)]) hx hb d_X_rulesAllow_38 hl (by decide) rfl (fun ls hl => ?_)
      refine lv_aload hx hb d_X_rulesAllow_40 (lv_at hl 0 rfl) ?_
      refine lv_ifnull hx hb d_X_rulesAllow_42 ?_
      refine lv_aload hx hb d_X_rulesAllow_45 (lv_at hl 0 rfl) ?_
      obtain ⟨x6, e6, h⟩ := ob h
      refine mr_gI C hW k_X_229 e6 d_X_rulesAllow_47 ?_
      refine lv_aload_n hx hb d_X_rulesAllow_50 rfl (lv_at hl 3 rfl) ?_
      obtain ⟨x7, e7, h⟩ := ob h
      refine mr_gR C hW k_X_175 e7 d_X_rulesAllow_51 ?_
      obtain ⟨x8, e8, h⟩ := ob h
      refine mr_gI C hW k_X_179 e8 d_X_rulesAllow_54 ?_
      refine lv_icmp_eq (tgt := 63) hx hb d_X_rulesAllow_57 (by decide) (fun c9 => ?_) (fun c9 => ?_)
      · have h := ifp h c9
        refine lv_aload hx hb d_X_rulesAllow_63 (lv_at hl 0 rfl) ?_
        obtain ⟨x10, e10, h⟩ := ob h
        refine mr_gI C hW k_X_114 e10 d_X_rulesAllow_65 ?_
        refine lv_if_eq (tgt := 89) hx hb d_X_rulesAllow_68 (by decide) (fun c11 => ?_) (fun c11 => ?_)
        · have h := ifp h c11
          refine lv_aload hx hb d_X_rulesAllow_89 (lv_at hl 0 rfl) ?_
          refine lv_aload_n hx hb d_X_rulesAllow_91 rfl (lv_at hl 1 rfl) ?_
          obtain ⟨x12, e12, h⟩ := ob h
          refine mr_gR C hW k_X_37 e12 d_X_rulesAllow_92 ?_
          refine lv_iload_n hx hb d_X_rulesAllow_95 rfl (lv_at hl 2 rfl) ?_
          obtain ⟨x13, e13, h⟩ := ob h
          refine mr_aI C hW e13 d_X_rulesAllow_96 ?_
          refine lv_aload_n hx hb d_X_rulesAllow_97 rfl (lv_at hl 3 rfl) ?_
          obtain ⟨x14, e14, h⟩ := ob h
          refine mr_gI C hW k_X_166 e14 d_X_rulesAllow_98 ?_
          refine lv_iload_n hx hb d_X_rulesAllow_101 rfl (lv_at hl 4 rfl) ?_
          refine lv_iload hx hb d_X_rulesAllow_102 (lv_at hl 5 rfl) ?_
          obtain ⟨_, e16, h⟩ := ob h
          obtain ⟨⟨x15, M15⟩, e15, h⟩ := ob h
          refine mr_ci C hW hS (va_runV (As := [.int x13, .int x14, .int v3, .int v4]) (rest := []) ⟨hx, hb, hml, hown, hts⟩ (c_Rule_fits l D dA _ _ _ x5 x13 x14 v3 v4 e15) (cwV 4 hts (mg_V q_165 q_166 q_167 q_168 q_120) rfl rfl rfl (by decide +kernel) ⟨Nat.le_of_ble_eq_true rfl, Nat.le_of_ble_eq_true rfl⟩) (mr_preV C hW (ci := 5) rfl e16) rfl rfl hl.1 rfl (lv_room (Nat.le_of_ble_eq_true rfl)) d_X_rulesAllow_104 ⟨Nat.le_of_ble_eq_true rfl, Nat.le_of_ble_eq_true rfl⟩) (fun H locs hW hS => ?_)
          refine lv_if_eq (tgt := 125) hx hb d_X_rulesAllow_107 (by decide) (fun c17 => ?_) (fun c17 => ?_)
          · have h := ifp h c17
            refine lv_iinc (v := v5 + 1) (lv' := [(5, .int (v5 + 1)), (6, .ref x5), (0, .ref v0), (1, .int v1), (2, .ref v2), (3, .int v3), (4, .int v4)]) hx hb d_X_rulesAllow_125 hl (k := 6) rfl rfl (by decide) rfl (fun ls hl => ?_)
            refine lv_goto (tgt := 22) hx hb d_X_rulesAllow_128 (by decide) ?_
            exact ih _ _ _ _ _ _ _ _ _ _ h hW hS (lv_sub hl [2, 3, 4, 5, 6, 0] rfl)
          · have h := ifn h c17
            refine lv_aload hx hb d_X_rulesAllow_110 (lv_at hl 0 rfl) ?_
            obtain ⟨x18, e18, h⟩ := ob h
            refine mr_gI C hW k_X_235 e18 d_X_rulesAllow_112 ?_
            refine lv_iconst (v := 1) hx hb d_X_rulesAllow_115 (by decide) ?_
            refine lv_icmp_ne (tgt := 123) hx hb d_X_rulesAllow_116 (by decide) (fun c19 => ?_) (fun c19 => ?_)
            · have h := ifn h c19
              refine lv_iconst (v := 0) hx hb d_X_rulesAllow_123 (by decide) ?_
              obtain ⟨_, e20, h⟩ := ob h
              exact mr_zret C hW hS (Nat.le_of_ble_eq_true rfl) (Nat.le_of_ble_eq_true rfl) e20 h d_X_rulesAllow_124
            · have h := ifp h c19
              refine lv_iconst (v := 1) hx hb d_X_rulesAllow_119 (by decide) ?_
              refine lv_goto (tgt := 124) hx hb d_X_rulesAllow_120 (by decide) ?_
              obtain ⟨_, e21, h⟩ := ob h
              exact mr_zret C hW hS (Nat.le_of_ble_eq_true rfl) (Nat.le_of_ble_eq_true rfl) e21 h d_X_rulesAllow_124
        · have h := ifn h c11
          refine lv_aload_n hx hb d_X_rulesAllow_71 rfl (lv_at hl 1 rfl) ?_
          refine lv_iload hx hb d_X_rulesAllow_72 (lv_at hl 6 rfl) ?_
          obtain ⟨M22, e22, h⟩ := ob h
          refine mr_put C hW hS kp_X_55 rfl rfl e22 d_X_rulesAllow_74 (fun H locs hW hS => ?_)
          refine lv_aload_n hx hb d_X_rulesAllow_77 rfl (lv_at hl 1 rfl) ?_
          obtain ⟨x23, e23, h⟩ := ob h
          refine mr_gR C hW k_X_51 e23 d_X_rulesAllow_78 ?_
          refine lv_iconst (v := 1) hx hb d_X_rulesAllow_81 (by decide) ?_
          refine lv_iload hx hb d_X_rulesAllow_82 (lv_at hl 6 rfl) ?_
          obtain ⟨_, e25, h⟩ := ob h
          obtain ⟨⟨u24, M24⟩, e24, h⟩ := ob h
          refine mr_cv C hW hS (va_runV (As := [.int 1, .int v5]) (rest := []) ⟨hx, hb, hml, hown, hts⟩ (c_Notices_append l D dA _ _ _ x23 1 v5 e24) (cwV 2 hts (mg_V q_170 q_171 q_172 q_173 q_31) rfl rfl rfl (by decide +kernel) ⟨Nat.le_of_ble_eq_true rfl, Nat.le_of_ble_eq_true rfl⟩) (mr_preV C hW (ci := 3) rfl e25) rfl rfl hl.1 rfl (lv_room (Nat.le_of_ble_eq_true rfl)) d_X_rulesAllow_84 ⟨Nat.le_of_ble_eq_true rfl, Nat.le_of_ble_eq_true rfl⟩) (fun H locs hW hS => ?_)
          refine lv_iconst (v := 0) hx hb d_X_rulesAllow_87 (by decide) ?_
          obtain ⟨_, e26, h⟩ := ob h
          exact mr_zret C hW hS (Nat.le_of_ble_eq_true rfl) (Nat.le_of_ble_eq_true rfl) e26 h d_X_rulesAllow_88
      · have h := ifn h c9
        refine lv_goto (tgt := 125) hx hb d_X_rulesAllow_60 (by decide) ?_
        refine lv_iinc (v := v5 + 1) (lv' := [(5, .int (v5 + 1)), (6, .ref x5), (0, .ref v0), (1, .int v1), (2, .ref v2), (3, .int v3), (4, .int v4)]) hx hb d_X_rulesAllow_125 hl (k := 6) rfl rfl (by decide) rfl (fun ls hl => ?_)
        refine lv_goto (tgt := 22) hx hb d_X_rulesAllow_128 (by decide) ?_
        exact ih _ _ _ _ _ _ _ _ _ _ h hW hS (lv_sub hl [2, 3, 4, 5, 6, 0] rfl)
set_option maxHeartbeats 4000000 in
set_option maxRecDepth 100000 in
theorem c_X_rulesAllow (l : Launch) (D : va_G) (dA : Nat → ClassId) (M0 M' : mm) (r : Int32) (v0 : Nat) (v1 : Int32) (v2 : Nat) (v3 : Int32) (h : f_X_rulesAllow v0 v1 v2 v3 M0 = some (r, M')) : Met l y_X_rulesAllow w_X_rulesAllow rm_X_rulesAllow (mm_Pre D dA M0 [.ref v0, .int v1, .ref v2, .int v3]) (mm_QI D dA M0 r M') 0 0 (mm_A M0) := by
  refine Met.ofW (cc := b_X_rulesAllow) (maxL := 7) (ret := (some .boolean)) (by decide) rfl ?_
  intro p e s m args below meth c s₁ B hml hv
  obtain ⟨rfl, hW, hK⟩ := hv
  have C : mm_C p s m _ meth c b_X_rulesAllow 7 (some .boolean) R_X D dA (mm_A M0) := ⟨B.exec, B.bytes, B.returns, hml, findClass_of_methodNamed B.named, fun w hw => atoms_spec (ws := w_X_rulesAllow) B.pre w (List.mem_cons_of_mem _ hw), B.notSynchronized, hK, fun q hq => Or.inr (by rw [← hW.1]; exact hq)⟩
  have hS : va_S (mm_A M0) s.heap s.heap [] := va_S.rf
  obtain ⟨hx, hb, hr, hml, hown, hts, hlocks, hK, hA⟩ := id C
  have hl := lv_entry ([.ref v0, .int v1, .ref v2, .int v3]) (n := 7) (Nat.le_of_ble_eq_true rfl)
  rw [lg_entry_eq]
  generalize (lg_sl ([.ref v0, .int v1, .ref v2, .int v3]) ++ List.replicate (7 - (lg_sl ([.ref v0, .int v1, .ref v2, .int v3])).length) Slot.unset).toArray = ls at hl ⊢
  have hl : lv_has ls 7 [(0, .ref v0), (1, .int v1), (2, .ref v2), (3, .int v3)] := hl
  unfold f_X_rulesAllow at h
  refine lv_aload_n hx hb d_X_rulesAllow_0 rfl (lv_at hl 0 rfl) ?_
  refine lv_iconst (v := (-1)) hx hb d_X_rulesAllow_1 (by decide) ?_
  obtain ⟨M27, e27, h⟩ := ob h
  refine mr_put C hW hS kp_X_55 rfl rfl e27 d_X_rulesAllow_2 (fun H locs hW hS => ?_)
  refine lv_aload_n hx hb d_X_rulesAllow_5 rfl (lv_at hl 0 rfl) ?_
  obtain ⟨x28, e28, h⟩ := ob h
  refine mr_gR C hW k_X_44 e28 d_X_rulesAllow_6 ?_
  refine lv_iload_n hx hb d_X_rulesAllow_9 rfl (lv_at hl 1 rfl) ?_
  refine lv_iload_n hx hb d_X_rulesAllow_10 rfl (lv_at hl 3 rfl) ?_
  obtain ⟨⟨x29, M29⟩, e29, h⟩ := ob h
  refine mr_ci C hW hS (va_runS (As := [.int v3]) (rest := [.int v1, .ref x28]) ⟨hx, hb, hml, hown, hts⟩ (c_X_monthOf l D dA _ _ _ v3 e29) (cwS 1 hts (mg_S q_98 q_174 q_99 q_71) rfl rfl rfl (by decide +kernel) ⟨Nat.le_of_ble_eq_true rfl, Nat.le_of_ble_eq_true rfl⟩) (mr_pre C hW) rfl rfl hl.1 rfl (lv_room (Nat.le_of_ble_eq_true rfl)) d_X_rulesAllow_11 ⟨Nat.le_of_ble_eq_true rfl, Nat.le_of_ble_eq_true rfl⟩) (fun H locs hW hS => ?_)
  obtain ⟨_, e31, h⟩ := ob h
  obtain ⟨⟨x30, M30⟩, e30, h⟩ := ob h
  refine mr_ci C hW hS (va_runV (As := [.int v1, .int x29]) (rest := []) ⟨hx, hb, hml, hown, hts⟩ (c_Usages_ofReaderIn l D dA _ _ _ x28 v1 x29 e30) (cwV 2 hts (mg_V q_175 q_176 q_177 q_178 q_25) rfl rfl rfl (by decide +kernel) ⟨Nat.le_of_ble_eq_true rfl, Nat.le_of_ble_eq_true rfl⟩) (mr_preV C hW (ci := 7) rfl e31) rfl rfl hl.1 rfl (lv_room (Nat.le_of_ble_eq_true rfl)) d_X_rulesAllow_14 ⟨Nat.le_of_ble_eq_true rfl, Nat.le_of_ble_eq_true rfl⟩) (fun H locs hW hS => ?_)
  refine lv_istore (lv' := [(4, .int x30), (0, .ref v0), (1, .int v1), (2, .ref v2), (3, .int v3)]) hx hb d_X_rulesAllow_17 hl (by decide) rfl (fun ls hl => ?_)
  refine lv_iconst (v := 0) hx hb d_X_rulesAllow_19 (by decide) ?_
  refine lv_istore (lv' := [(5, .int 0), (4, .int x30), (0, .ref v0), (1, .int v1), (2, .ref v2), (3, .int v3)]) hx hb d_X_rulesAllow_20 hl (by decide) rfl (fun ls hl => ?_)
  exact w_X_rulesAllow_b22 C FU _ _ _ _ _ _ _ _ _ _ h hW hS (lv_sub hl [2, 3, 4, 5, 1, 0] rfl)
def f_X_judge_b34 : Nat → Int32 → Nat → Int32 → Int32 → mm → Option (Int32 × mm) := fun v0 v1 v2 v3 v4 M =>
    (kO 6 M v2).bind fun _ =>
    (f_Title_covers v2 v3 M).bind fun (x1, M1) =>
    if x1 = 0 then
      some (3, M1)
    else
      (f_X_monthOf v3 M1).bind fun (x4, M4) =>
      (kO 6 M4 v2).bind fun _ =>
      (f_Title_lastFreeMonth v2 v4 M4).bind fun (x5, M5) =>
      if x4 ≤ x5 then
        (kO 0 M5 v0).bind fun _ =>
        (f_X_rulesAllow v0 v1 v2 v4 M5).bind fun (x8, M8) =>
        if x8 = 0 then
          some (5, M8)
        else
          (gR 6 0 M8 v2).bind fun x11 =>
          (gR 4 2 M8 x11).bind fun x12 =>
          (kO 2 M8 x12).bind fun _ =>
          (f_Line_holds x12 v1 M8).bind fun (x13, M13) =>
          if x13 = 0 then
            some (6, M13)
          else
            some (0, M13)
      else
        some (4, M5)
def f_X_judge (v0 : Nat) (v1 : Int32) (v2 : Nat) (v3 : Int32) (v4 : Int32) (M : mm) : Option (Int32 × mm) :=
    (gI 6 2 M v2).bind fun x16 =>
    if x16 = 0 then
      some (1, M)
    else
      (gR 6 0 M v2).bind fun x18 =>
      (kO 4 M x18).bind fun _ =>
      (f_Pack_hasEndedBy x18 v4 M).bind fun (x19, M19) =>
      if x19 = 0 then
        f_X_judge_b34 v0 v1 v2 v3 v4 M19
      else
        (gR 6 0 M19 v2).bind fun x22 =>
        (kO 4 M19 x22).bind fun _ =>
        (f_Pack_keepsDay x22 v3 M19).bind fun (x23, M23) =>
        if x23 = 0 then
          some (2, M23)
        else
          f_X_judge_b34 v0 v1 v2 v3 v4 M23
set_option maxHeartbeats 4000000 in
set_option maxRecDepth 100000 in
theorem w_X_judge_b34 {p : Program} {l : Launch} {e : Env} {s : State} {m : MethodId} {args : Array Value} {below : List Frame} {meth : Method} {c : Code} {D : va_G} {dA : Nat → ClassId} {M0 M' : mm} {r : Int32} (C : mm_C p s m args meth c b_X_judge 5 (some .int) R_X D dA (mm_A M0)) : ∀ (v0 : Nat) (v1 : Int32) (v2 : Nat) (v3 : Int32) (v4 : Int32) (M : mm) (H : Heap) (locs : List Loc) (ls : Array Slot), f_X_judge_b34 v0 v1 v2 v3 v4 M = some (r, M') → mm_W D dA (mm_A M0) M H → va_S (mm_A M0) s.heap H locs → lv_has ls 5 [(0, .ref v0), (1, .int v1), (2, .ref v2), (3, .int v3), (4, .int v4)] → W p l e rm_X_judge s m args below meth c H locs 0 0 (MQ below (mm_QI D dA M0 r M') args s 0 0 (mm_A M0)) (F0 m 34 ls []) := by
  obtain ⟨hx, hb, hr, hml, hown, hts, hlocks, hK, hA⟩ := id C
  intro v0 v1 v2 v3 v4 M H locs ls h hW hS hl
  unfold f_X_judge_b34 at h
  refine lv_aload_n hx hb d_X_judge_34 rfl (lv_at hl 2 rfl) ?_
  refine lv_iload_n hx hb d_X_judge_35 rfl (lv_at hl 3 rfl) ?_
  obtain ⟨_, e2, h⟩ := ob h
  obtain ⟨⟨x1, M1⟩, e1, h⟩ := ob h
  refine mr_ci C hW hS (va_runV (As := [.int v3]) (rest := []) ⟨hx, hb, hml, hown, hts⟩ (c_Title_covers l D dA _ _ _ v2 v3 e1) (cwV 1 hts (mg_V q_179 q_180 q_181 q_182 q_77) rfl rfl rfl (by decide +kernel) ⟨Nat.le_of_ble_eq_true rfl, Nat.le_of_ble_eq_true rfl⟩) (mr_preV C hW (ci := 6) rfl e2) rfl rfl hl.1 rfl (lv_room (Nat.le_of_ble_eq_true rfl)) d_X_judge_36 ⟨Nat.le_of_ble_eq_true rfl, Nat.le_of_ble_eq_true rfl⟩) (fun H locs hW hS => ?_)
  refine lv_if_ne (tgt := 44) hx hb d_X_judge_39 (by decide) (fun c3 => ?_) (fun c3 => ?_)
  · have h := ifn h c3
    refine lv_iload_n hx hb d_X_judge_44 rfl (lv_at hl 3 rfl) ?_
    obtain ⟨⟨x4, M4⟩, e4, h⟩ := ob h
    refine mr_ci C hW hS (va_runS (As := [.int v3]) (rest := []) ⟨hx, hb, hml, hown, hts⟩ (c_X_monthOf l D dA _ _ _ v3 e4) (cwS 1 hts (mg_S q_98 q_174 q_99 q_71) rfl rfl rfl (by decide +kernel) ⟨Nat.le_of_ble_eq_true rfl, Nat.le_of_ble_eq_true rfl⟩) (mr_pre C hW) rfl rfl hl.1 rfl (lv_room (Nat.le_of_ble_eq_true rfl)) d_X_judge_45 ⟨Nat.le_of_ble_eq_true rfl, Nat.le_of_ble_eq_true rfl⟩) (fun H locs hW hS => ?_)
    refine lv_aload_n hx hb d_X_judge_48 rfl (lv_at hl 2 rfl) ?_
    refine lv_iload hx hb d_X_judge_49 (lv_at hl 4 rfl) ?_
    obtain ⟨_, e6, h⟩ := ob h
    obtain ⟨⟨x5, M5⟩, e5, h⟩ := ob h
    refine mr_ci C hW hS (va_runV (As := [.int v4]) (rest := [.int x4]) ⟨hx, hb, hml, hown, hts⟩ (c_Title_lastFreeMonth l D dA _ _ _ v2 v4 e5) (cwV 1 hts (mg_V q_101 q_102 q_103 q_104 q_77) rfl rfl rfl (by decide +kernel) ⟨Nat.le_of_ble_eq_true rfl, Nat.le_of_ble_eq_true rfl⟩) (mr_preV C hW (ci := 6) rfl e6) rfl rfl hl.1 rfl (lv_room (Nat.le_of_ble_eq_true rfl)) d_X_judge_51 ⟨Nat.le_of_ble_eq_true rfl, Nat.le_of_ble_eq_true rfl⟩) (fun H locs hW hS => ?_)
    refine lv_icmp_le (tgt := 59) hx hb d_X_judge_54 (by decide) (fun c7 => ?_) (fun c7 => ?_)
    · have h := ifp h c7
      refine lv_aload_n hx hb d_X_judge_59 rfl (lv_at hl 0 rfl) ?_
      refine lv_iload_n hx hb d_X_judge_60 rfl (lv_at hl 1 rfl) ?_
      refine lv_aload_n hx hb d_X_judge_61 rfl (lv_at hl 2 rfl) ?_
      refine lv_iload hx hb d_X_judge_62 (lv_at hl 4 rfl) ?_
      obtain ⟨_, e9, h⟩ := ob h
      obtain ⟨⟨x8, M8⟩, e8, h⟩ := ob h
      refine mr_ci C hW hS (va_runV (As := [.int v1, .ref v2, .int v4]) (rest := []) ⟨hx, hb, hml, hown, hts⟩ (c_X_rulesAllow l D dA _ _ _ v0 v1 v2 v4 e8) (cwV 3 hts (mg_V q_183 q_184 q_185 q_186 q_71) rfl rfl rfl (by decide +kernel) ⟨Nat.le_of_ble_eq_true rfl, Nat.le_of_ble_eq_true rfl⟩) (mr_preV C hW (ci := 0) rfl e9) rfl rfl hl.1 rfl (lv_room (Nat.le_of_ble_eq_true rfl)) d_X_judge_64 ⟨Nat.le_of_ble_eq_true rfl, Nat.le_of_ble_eq_true rfl⟩) (fun H locs hW hS => ?_)
      refine lv_if_ne (tgt := 72) hx hb d_X_judge_67 (by decide) (fun c10 => ?_) (fun c10 => ?_)
      · have h := ifn h c10
        refine lv_aload_n hx hb d_X_judge_72 rfl (lv_at hl 2 rfl) ?_
        obtain ⟨x11, e11, h⟩ := ob h
        refine mr_gR C hW k_X_175 e11 d_X_judge_73 ?_
        obtain ⟨x12, e12, h⟩ := ob h
        refine mr_gR C hW k_X_128 e12 d_X_judge_76 ?_
        refine lv_iload_n hx hb d_X_judge_79 rfl (lv_at hl 1 rfl) ?_
        obtain ⟨_, e14, h⟩ := ob h
        obtain ⟨⟨x13, M13⟩, e13, h⟩ := ob h
        refine mr_ci C hW hS (va_runV (As := [.int v1]) (rest := []) ⟨hx, hb, hml, hown, hts⟩ (c_Line_holds l D dA _ _ _ x12 v1 e13) (cwV 1 hts (mg_V q_156 q_157 q_158 q_159 q_42) rfl rfl rfl (by decide +kernel) ⟨Nat.le_of_ble_eq_true rfl, Nat.le_of_ble_eq_true rfl⟩) (mr_preV C hW (ci := 2) rfl e14) rfl rfl hl.1 rfl (lv_room (Nat.le_of_ble_eq_true rfl)) d_X_judge_80 ⟨Nat.le_of_ble_eq_true rfl, Nat.le_of_ble_eq_true rfl⟩) (fun H locs hW hS => ?_)
        refine lv_if_eq (tgt := 90) hx hb d_X_judge_83 (by decide) (fun c15 => ?_) (fun c15 => ?_)
        · have h := ifp h c15
          refine lv_bipush (v := 6) hx hb d_X_judge_90 (by decide) ?_
          exact mr_iret C hW hS (Nat.le_of_ble_eq_true rfl) (Nat.le_of_ble_eq_true rfl) h d_X_judge_92
        · have h := ifn h c15
          refine lv_iconst (v := 0) hx hb d_X_judge_86 (by decide) ?_
          refine lv_goto (tgt := 92) hx hb d_X_judge_87 (by decide) ?_
          exact mr_iret C hW hS (Nat.le_of_ble_eq_true rfl) (Nat.le_of_ble_eq_true rfl) h d_X_judge_92
      · have h := ifp h c10
        refine lv_iconst (v := 5) hx hb d_X_judge_70 (by decide) ?_
        exact mr_iret C hW hS (Nat.le_of_ble_eq_true rfl) (Nat.le_of_ble_eq_true rfl) h d_X_judge_71
    · have h := ifn h c7
      refine lv_iconst (v := 4) hx hb d_X_judge_57 (by decide) ?_
      exact mr_iret C hW hS (Nat.le_of_ble_eq_true rfl) (Nat.le_of_ble_eq_true rfl) h d_X_judge_58
  · have h := ifp h c3
    refine lv_iconst (v := 3) hx hb d_X_judge_42 (by decide) ?_
    exact mr_iret C hW hS (Nat.le_of_ble_eq_true rfl) (Nat.le_of_ble_eq_true rfl) h d_X_judge_43
set_option maxHeartbeats 4000000 in
set_option maxRecDepth 100000 in
theorem c_X_judge (l : Launch) (D : va_G) (dA : Nat → ClassId) (M0 M' : mm) (r : Int32) (v0 : Nat) (v1 : Int32) (v2 : Nat) (v3 : Int32) (v4 : Int32) (h : f_X_judge v0 v1 v2 v3 v4 M0 = some (r, M')) : Met l y_X_judge w_X_judge rm_X_judge (mm_Pre D dA M0 [.ref v0, .int v1, .ref v2, .int v3, .int v4]) (mm_QI D dA M0 r M') 0 0 (mm_A M0) := by
  refine Met.ofW (cc := b_X_judge) (maxL := 5) (ret := (some .int)) (by decide) rfl ?_
  intro p e s m args below meth c s₁ B hml hv
  obtain ⟨rfl, hW, hK⟩ := hv
  have C : mm_C p s m _ meth c b_X_judge 5 (some .int) R_X D dA (mm_A M0) := ⟨B.exec, B.bytes, B.returns, hml, findClass_of_methodNamed B.named, fun w hw => atoms_spec (ws := w_X_judge) B.pre w (List.mem_cons_of_mem _ hw), B.notSynchronized, hK, fun q hq => Or.inr (by rw [← hW.1]; exact hq)⟩
  have hS : va_S (mm_A M0) s.heap s.heap [] := va_S.rf
  obtain ⟨hx, hb, hr, hml, hown, hts, hlocks, hK, hA⟩ := id C
  have hl := lv_entry ([.ref v0, .int v1, .ref v2, .int v3, .int v4]) (n := 5) (Nat.le_of_ble_eq_true rfl)
  rw [lg_entry_eq]
  generalize (lg_sl ([.ref v0, .int v1, .ref v2, .int v3, .int v4]) ++ List.replicate (5 - (lg_sl ([.ref v0, .int v1, .ref v2, .int v3, .int v4])).length) Slot.unset).toArray = ls at hl ⊢
  have hl : lv_has ls 5 [(0, .ref v0), (1, .int v1), (2, .ref v2), (3, .int v3), (4, .int v4)] := hl
  unfold f_X_judge at h
  refine lv_aload_n hx hb d_X_judge_0 rfl (lv_at hl 2 rfl) ?_
  obtain ⟨x16, e16, h⟩ := ob h
  refine mr_gI C hW k_X_163 e16 d_X_judge_1 ?_
  refine lv_if_ne (tgt := 9) hx hb d_X_judge_4 (by decide) (fun c17 => ?_) (fun c17 => ?_)
  · have h := ifn h c17
    refine lv_aload_n hx hb d_X_judge_9 rfl (lv_at hl 2 rfl) ?_
    obtain ⟨x18, e18, h⟩ := ob h
    refine mr_gR C hW k_X_175 e18 d_X_judge_10 ?_
    refine lv_iload hx hb d_X_judge_13 (lv_at hl 4 rfl) ?_
    obtain ⟨_, e20, h⟩ := ob h
    obtain ⟨⟨x19, M19⟩, e19, h⟩ := ob h
    refine mr_ci C hW hS (va_runV (As := [.int v4]) (rest := []) ⟨hx, hb, hml, hown, hts⟩ (c_Pack_hasEndedBy l D dA _ _ _ x18 v4 e19) (cwV 1 hts (mg_V q_188 q_189 q_190 q_191 q_52) rfl rfl rfl (by decide +kernel) ⟨Nat.le_of_ble_eq_true rfl, Nat.le_of_ble_eq_true rfl⟩) (mr_preV C hW (ci := 4) rfl e20) rfl rfl hl.1 rfl (lv_room (Nat.le_of_ble_eq_true rfl)) d_X_judge_15 ⟨Nat.le_of_ble_eq_true rfl, Nat.le_of_ble_eq_true rfl⟩) (fun H locs hW hS => ?_)
    refine lv_if_eq (tgt := 34) hx hb d_X_judge_18 (by decide) (fun c21 => ?_) (fun c21 => ?_)
    · have h := ifp h c21
      exact w_X_judge_b34 C _ _ _ _ _ _ _ _ _ h hW hS (lv_sub hl [0, 1, 2, 3, 4] rfl)
    · have h := ifn h c21
      refine lv_aload_n hx hb d_X_judge_21 rfl (lv_at hl 2 rfl) ?_
      obtain ⟨x22, e22, h⟩ := ob h
      refine mr_gR C hW k_X_175 e22 d_X_judge_22 ?_
      refine lv_iload_n hx hb d_X_judge_25 rfl (lv_at hl 3 rfl) ?_
      obtain ⟨_, e24, h⟩ := ob h
      obtain ⟨⟨x23, M23⟩, e23, h⟩ := ob h
      refine mr_ci C hW hS (va_runV (As := [.int v3]) (rest := []) ⟨hx, hb, hml, hown, hts⟩ (c_Pack_keepsDay l D dA _ _ _ x22 v3 e23) (cwV 1 hts (mg_V q_192 q_193 q_194 q_195 q_52) rfl rfl rfl (by decide +kernel) ⟨Nat.le_of_ble_eq_true rfl, Nat.le_of_ble_eq_true rfl⟩) (mr_preV C hW (ci := 4) rfl e24) rfl rfl hl.1 rfl (lv_room (Nat.le_of_ble_eq_true rfl)) d_X_judge_26 ⟨Nat.le_of_ble_eq_true rfl, Nat.le_of_ble_eq_true rfl⟩) (fun H locs hW hS => ?_)
      refine lv_if_ne (tgt := 34) hx hb d_X_judge_29 (by decide) (fun c25 => ?_) (fun c25 => ?_)
      · have h := ifn h c25
        exact w_X_judge_b34 C _ _ _ _ _ _ _ _ _ h hW hS (lv_sub hl [0, 1, 2, 3, 4] rfl)
      · have h := ifp h c25
        refine lv_iconst (v := 2) hx hb d_X_judge_32 (by decide) ?_
        exact mr_iret C hW hS (Nat.le_of_ble_eq_true rfl) (Nat.le_of_ble_eq_true rfl) h d_X_judge_33
  · have h := ifp h c17
    refine lv_iconst (v := 1) hx hb d_X_judge_7 (by decide) ?_
    exact mr_iret C hW hS (Nat.le_of_ble_eq_true rfl) (Nat.le_of_ble_eq_true rfl) h d_X_judge_8
def f_X_access (v0 : Nat) (v1 : Int32) (v2 : Int32) (v3 : Int32) (v4 : Int32) (M : mm) : Option (Int32 × mm) :=
    (kO 0 M v0).bind fun _ =>
    (f_X_findTitle v0 v2 M).bind fun (x1, M1) =>
    qm x1 (
      some ((-1), M1)
      ) fun x3 =>
    (f_X_isReader v1 M1).bind fun (x4, M4) =>
    if x4 = 0 then
      some ((-1), M4)
    else
      (f_X_isDay v3 M4).bind fun (x6, M6) =>
      if x6 = 0 then
        some ((-2), M6)
      else
        (f_X_isDay v4 M6).bind fun (x8, M8) =>
        if x8 = 0 then
          some ((-2), M8)
        else
          (kO 0 M8 v0).bind fun _ =>
          (f_X_judge v0 v1 x3 v3 v4 M8).bind fun (x10, M10) =>
          if x10 = 0 then
            (gR 0 7 M10 v0).bind fun x13 =>
            (f_X_monthOf v4 M10).bind fun (x14, M14) =>
            (kO 7 M14 x13).bind fun _ =>
            (f_Usages_append x13 v1 v2 x14 M14).bind fun (_, M15) =>
            some (x10, M15)
          else
            some (x10, M10)
set_option maxHeartbeats 4000000 in
set_option maxRecDepth 100000 in
theorem c_X_access (l : Launch) (D : va_G) (dA : Nat → ClassId) (M0 M' : mm) (r : Int32) (v0 : Nat) (v1 : Int32) (v2 : Int32) (v3 : Int32) (v4 : Int32) (h : f_X_access v0 v1 v2 v3 v4 M0 = some (r, M')) : Met l y_X_access w_X_access rm_X_access (mm_Pre D dA M0 [.ref v0, .int v1, .int v2, .int v3, .int v4]) (mm_QI D dA M0 r M') 0 0 (mm_A M0) := by
  refine Met.ofW (cc := b_X_access) (maxL := 7) (ret := (some .int)) (by decide) rfl ?_
  intro p e s m args below meth c s₁ B hml hv
  obtain ⟨rfl, hW, hK⟩ := hv
  have C : mm_C p s m _ meth c b_X_access 7 (some .int) R_X D dA (mm_A M0) := ⟨B.exec, B.bytes, B.returns, hml, findClass_of_methodNamed B.named, fun w hw => atoms_spec (ws := w_X_access) B.pre w (List.mem_cons_of_mem _ hw), B.notSynchronized, hK, fun q hq => Or.inr (by rw [← hW.1]; exact hq)⟩
  have hS : va_S (mm_A M0) s.heap s.heap [] := va_S.rf
  obtain ⟨hx, hb, hr, hml, hown, hts, hlocks, hK, hA⟩ := id C
  have hl := lv_entry ([.ref v0, .int v1, .int v2, .int v3, .int v4]) (n := 7) (Nat.le_of_ble_eq_true rfl)
  rw [lg_entry_eq]
  generalize (lg_sl ([.ref v0, .int v1, .int v2, .int v3, .int v4]) ++ List.replicate (7 - (lg_sl ([.ref v0, .int v1, .int v2, .int v3, .int v4])).length) Slot.unset).toArray = ls at hl ⊢
  have hl : lv_has ls 7 [(0, .ref v0), (1, .int v1), (2, .int v2), (3, .int v3), (4, .int v4)] := hl
  unfold f_X_access at h
  refine lv_aload_n hx hb d_X_access_0 rfl (lv_at hl 0 rfl) ?_
  refine lv_iload_n hx hb d_X_access_1 rfl (lv_at hl 2 rfl) ?_
  obtain ⟨_, e2, h⟩ := ob h
  obtain ⟨⟨x1, M1⟩, e1, h⟩ := ob h
  refine mr_cq C hW hS (va_runV (As := [.int v2]) (rest := []) ⟨hx, hb, hml, hown, hts⟩ (c_X_findTitle l D dA _ _ _ v0 v2 e1) (cwV 1 hts (mg_V q_82 q_83 q_84 q_85 q_71) rfl rfl rfl (by decide +kernel) ⟨Nat.le_of_ble_eq_true rfl, Nat.le_of_ble_eq_true rfl⟩) (mr_preV C hW (ci := 0) rfl e2) rfl rfl hl.1 rfl (lv_room (Nat.le_of_ble_eq_true rfl)) d_X_access_2 ⟨Nat.le_of_ble_eq_true rfl, Nat.le_of_ble_eq_true rfl⟩) (fun H locs hW hS => ?_)
  refine mr_astoreq (lv' := [(5, va_rf x1), (0, .ref v0), (1, .int v1), (2, .int v2), (3, .int v3), (4, .int v4)]) hx hb d_X_access_5 hl (by decide) rfl (fun ls hl => ?_)
  refine mr_aloadq hx hb d_X_access_7 (lv_at hl 0 rfl) ?_
  refine mr_ifnull (tgt := 19) hx hb d_X_access_9 (by decide) (fun e3 => ?_) (fun x3 e3 => ?_)
  · rw [e3] at h
    refine lv_iconst (v := (-1)) hx hb d_X_access_19 (by decide) ?_
    exact mr_iret C hW hS (Nat.le_of_ble_eq_true rfl) (Nat.le_of_ble_eq_true rfl) h d_X_access_20
  · rw [e3] at h
    rw [e3] at hl
    have hl : lv_has ls 7 [(5, .ref x3), (0, .ref v0), (1, .int v1), (2, .int v2), (3, .int v3), (4, .int v4)] := hl
    refine lv_iload_n hx hb d_X_access_12 rfl (lv_at hl 2 rfl) ?_
    obtain ⟨⟨x4, M4⟩, e4, h⟩ := ob h
    refine mr_ci C hW hS (va_runS (As := [.int v1]) (rest := []) ⟨hx, hb, hml, hown, hts⟩ (c_X_isReader l D dA _ _ _ v1 e4) (cwS 1 hts (mg_S q_129 q_130 q_131 q_71) rfl rfl rfl (by decide +kernel) ⟨Nat.le_of_ble_eq_true rfl, Nat.le_of_ble_eq_true rfl⟩) (mr_pre C hW) rfl rfl hl.1 rfl (lv_room (Nat.le_of_ble_eq_true rfl)) d_X_access_13 ⟨Nat.le_of_ble_eq_true rfl, Nat.le_of_ble_eq_true rfl⟩) (fun H locs hW hS => ?_)
    refine lv_if_ne (tgt := 21) hx hb d_X_access_16 (by decide) (fun c5 => ?_) (fun c5 => ?_)
    · have h := ifn h c5
      refine lv_iload_n hx hb d_X_access_21 rfl (lv_at hl 4 rfl) ?_
      obtain ⟨⟨x6, M6⟩, e6, h⟩ := ob h
      refine mr_ci C hW hS (va_runS (As := [.int v3]) (rest := []) ⟨hx, hb, hml, hown, hts⟩ (c_X_isDay l D dA _ _ _ v3 e6) (cwS 1 hts (mg_S q_86 q_87 q_88 q_71) rfl rfl rfl (by decide +kernel) ⟨Nat.le_of_ble_eq_true rfl, Nat.le_of_ble_eq_true rfl⟩) (mr_pre C hW) rfl rfl hl.1 rfl (lv_room (Nat.le_of_ble_eq_true rfl)) d_X_access_22 ⟨Nat.le_of_ble_eq_true rfl, Nat.le_of_ble_eq_true rfl⟩) (fun H locs hW hS => ?_)
      refine lv_if_eq (tgt := 36) hx hb d_X_access_25 (by decide) (fun c7 => ?_) (fun c7 => ?_)
      · have h := ifp h c7
        refine lv_bipush (v := (-2)) hx hb d_X_access_36 (by decide) ?_
        exact mr_iret C hW hS (Nat.le_of_ble_eq_true rfl) (Nat.le_of_ble_eq_true rfl) h d_X_access_38
      · have h := ifn h c7
        refine lv_iload hx hb d_X_access_28 (lv_at hl 5 rfl) ?_
        obtain ⟨⟨x8, M8⟩, e8, h⟩ := ob h
        refine mr_ci C hW hS (va_runS (As := [.int v4]) (rest := []) ⟨hx, hb, hml, hown, hts⟩ (c_X_isDay l D dA _ _ _ v4 e8) (cwS 1 hts (mg_S q_86 q_87 q_88 q_71) rfl rfl rfl (by decide +kernel) ⟨Nat.le_of_ble_eq_true rfl, Nat.le_of_ble_eq_true rfl⟩) (mr_pre C hW) rfl rfl hl.1 rfl (lv_room (Nat.le_of_ble_eq_true rfl)) d_X_access_30 ⟨Nat.le_of_ble_eq_true rfl, Nat.le_of_ble_eq_true rfl⟩) (fun H locs hW hS => ?_)
        refine lv_if_ne (tgt := 39) hx hb d_X_access_33 (by decide) (fun c9 => ?_) (fun c9 => ?_)
        · have h := ifn h c9
          refine lv_aload_n hx hb d_X_access_39 rfl (lv_at hl 1 rfl) ?_
          refine lv_iload_n hx hb d_X_access_40 rfl (lv_at hl 2 rfl) ?_
          refine lv_aload hx hb d_X_access_41 (lv_at hl 0 rfl) ?_
          refine lv_iload_n hx hb d_X_access_43 rfl (lv_at hl 4 rfl) ?_
          refine lv_iload hx hb d_X_access_44 (lv_at hl 5 rfl) ?_
          obtain ⟨_, e11, h⟩ := ob h
          obtain ⟨⟨x10, M10⟩, e10, h⟩ := ob h
          refine mr_ci C hW hS (va_runV (As := [.int v1, .ref x3, .int v3, .int v4]) (rest := []) ⟨hx, hb, hml, hown, hts⟩ (c_X_judge l D dA _ _ _ v0 v1 x3 v3 v4 e10) (cwV 4 hts (mg_V q_196 q_197 q_198 q_199 q_71) rfl rfl rfl (by decide +kernel) ⟨Nat.le_of_ble_eq_true rfl, Nat.le_of_ble_eq_true rfl⟩) (mr_preV C hW (ci := 0) rfl e11) rfl rfl hl.1 rfl (lv_room (Nat.le_of_ble_eq_true rfl)) d_X_access_46 ⟨Nat.le_of_ble_eq_true rfl, Nat.le_of_ble_eq_true rfl⟩) (fun H locs hW hS => ?_)
          refine lv_istore (lv' := [(6, .int x10), (5, .ref x3), (0, .ref v0), (1, .int v1), (2, .int v2), (3, .int v3), (4, .int v4)]) hx hb d_X_access_49 hl (by decide) rfl (fun ls hl => ?_)
          refine lv_iload hx hb d_X_access_51 (lv_at hl 0 rfl) ?_
          refine lv_if_ne (tgt := 70) hx hb d_X_access_53 (by decide) (fun c12 => ?_) (fun c12 => ?_)
          · have h := ifn h c12
            refine lv_iload hx hb d_X_access_70 (lv_at hl 0 rfl) ?_
            exact mr_iret C hW hS (Nat.le_of_ble_eq_true rfl) (Nat.le_of_ble_eq_true rfl) h d_X_access_72
          · have h := ifp h c12
            refine lv_aload_n hx hb d_X_access_56 rfl (lv_at hl 2 rfl) ?_
            obtain ⟨x13, e13, h⟩ := ob h
            refine mr_gR C hW k_X_44 e13 d_X_access_57 ?_
            refine lv_iload_n hx hb d_X_access_60 rfl (lv_at hl 3 rfl) ?_
            refine lv_iload_n hx hb d_X_access_61 rfl (lv_at hl 4 rfl) ?_
            refine lv_iload hx hb d_X_access_62 (lv_at hl 6 rfl) ?_
            obtain ⟨⟨x14, M14⟩, e14, h⟩ := ob h
            refine mr_ci C hW hS (va_runS (As := [.int v4]) (rest := [.int v2, .int v1, .ref x13]) ⟨hx, hb, hml, hown, hts⟩ (c_X_monthOf l D dA _ _ _ v4 e14) (cwS 1 hts (mg_S q_98 q_174 q_99 q_71) rfl rfl rfl (by decide +kernel) ⟨Nat.le_of_ble_eq_true rfl, Nat.le_of_ble_eq_true rfl⟩) (mr_pre C hW) rfl rfl hl.1 rfl (lv_room (Nat.le_of_ble_eq_true rfl)) d_X_access_64 ⟨Nat.le_of_ble_eq_true rfl, Nat.le_of_ble_eq_true rfl⟩) (fun H locs hW hS => ?_)
            obtain ⟨_, e16, h⟩ := ob h
            obtain ⟨⟨u15, M15⟩, e15, h⟩ := ob h
            refine mr_cv C hW hS (va_runV (As := [.int v1, .int v2, .int x14]) (rest := []) ⟨hx, hb, hml, hown, hts⟩ (c_Usages_append l D dA _ _ _ x13 v1 v2 x14 e15) (cwV 3 hts (mg_V q_200 q_201 q_202 q_203 q_25) rfl rfl rfl (by decide +kernel) ⟨Nat.le_of_ble_eq_true rfl, Nat.le_of_ble_eq_true rfl⟩) (mr_preV C hW (ci := 7) rfl e16) rfl rfl hl.1 rfl (lv_room (Nat.le_of_ble_eq_true rfl)) d_X_access_67 ⟨Nat.le_of_ble_eq_true rfl, Nat.le_of_ble_eq_true rfl⟩) (fun H locs hW hS => ?_)
            refine lv_iload hx hb d_X_access_70 (lv_at hl 0 rfl) ?_
            exact mr_iret C hW hS (Nat.le_of_ble_eq_true rfl) (Nat.le_of_ble_eq_true rfl) h d_X_access_72
        · have h := ifp h c9
          refine lv_bipush (v := (-2)) hx hb d_X_access_36 (by decide) ?_
          exact mr_iret C hW hS (Nat.le_of_ble_eq_true rfl) (Nat.le_of_ble_eq_true rfl) h d_X_access_38
    · have h := ifp h c5
      refine lv_iconst (v := (-1)) hx hb d_X_access_19 (by decide) ?_
      exact mr_iret C hW hS (Nat.le_of_ble_eq_true rfl) (Nat.le_of_ble_eq_true rfl) h d_X_access_20
def f_X_failed (v0 : Nat) (M : mm) : Option (Int32 × mm) :=
    (gI 0 9 M v0).bind fun x1 =>
    some (x1, M)
set_option maxHeartbeats 4000000 in
set_option maxRecDepth 100000 in
theorem c_X_failed (l : Launch) (D : va_G) (dA : Nat → ClassId) (M0 M' : mm) (r : Int32) (v0 : Nat) (h : f_X_failed v0 M0 = some (r, M')) : Met l y_X_failed w_X_failed rm_X_failed (mm_Pre D dA M0 [.ref v0]) (mm_QI D dA M0 r M') 0 0 (mm_A M0) := by
  refine Met.ofW (cc := b_X_failed) (maxL := 1) (ret := (some .int)) (by decide) rfl ?_
  intro p e s m args below meth c s₁ B hml hv
  obtain ⟨rfl, hW, hK⟩ := hv
  have C : mm_C p s m _ meth c b_X_failed 1 (some .int) R_X D dA (mm_A M0) := ⟨B.exec, B.bytes, B.returns, hml, findClass_of_methodNamed B.named, fun w hw => atoms_spec (ws := w_X_failed) B.pre w (List.mem_cons_of_mem _ hw), B.notSynchronized, hK, fun q hq => Or.inr (by rw [← hW.1]; exact hq)⟩
  have hS : va_S (mm_A M0) s.heap s.heap [] := va_S.rf
  obtain ⟨hx, hb, hr, hml, hown, hts, hlocks, hK, hA⟩ := id C
  have hl := lv_entry ([.ref v0]) (n := 1) (Nat.le_of_ble_eq_true rfl)
  rw [lg_entry_eq]
  generalize (lg_sl ([.ref v0]) ++ List.replicate (1 - (lg_sl ([.ref v0])).length) Slot.unset).toArray = ls at hl ⊢
  have hl : lv_has ls 1 [(0, .ref v0)] := hl
  unfold f_X_failed at h
  refine lv_aload_n hx hb d_X_failed_0 rfl (lv_at hl 0 rfl) ?_
  obtain ⟨x1, e1, h⟩ := ob h
  refine mr_gI C hW k_X_55 e1 d_X_failed_1 ?_
  exact mr_iret C hW hS (Nat.le_of_ble_eq_true rfl) (Nat.le_of_ble_eq_true rfl) h d_X_failed_4
