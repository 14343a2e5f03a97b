theorem d_Mo_enter_0 : decode b_Mo_enter 0 = .ok (.aload_n 0, 1) := by decide +kernel
theorem d_Mo_enter_1 : decode b_Mo_enter 1 = .ok (.getfield 23, 3) := by decide +kernel
theorem d_Mo_enter_4 : decode b_Mo_enter 4 = .ok (.bipush 100, 2) := by decide +kernel
theorem d_Mo_enter_6 : decode b_Mo_enter 6 = .ok (.iload_n 1, 1) := by decide +kernel
theorem d_Mo_enter_7 : decode b_Mo_enter 7 = .ok (.imul, 1) := by decide +kernel
theorem d_Mo_enter_8 : decode b_Mo_enter 8 = .ok (.aload_n 0, 1) := by decide +kernel
theorem d_Mo_enter_9 : decode b_Mo_enter 9 = .ok (.getfield 20, 3) := by decide +kernel
theorem d_Mo_enter_12 : decode b_Mo_enter 12 = .ok (.iload_n 1, 1) := by decide +kernel
theorem d_Mo_enter_13 : decode b_Mo_enter 13 = .ok (.iaload, 1) := by decide +kernel
theorem d_Mo_enter_14 : decode b_Mo_enter 14 = .ok (.iadd, 1) := by decide +kernel
theorem d_Mo_enter_15 : decode b_Mo_enter 15 = .ok (.iload_n 2, 1) := by decide +kernel
theorem d_Mo_enter_16 : decode b_Mo_enter 16 = .ok (.iastore, 1) := by decide +kernel
theorem d_Mo_enter_17 : decode b_Mo_enter 17 = .ok (.aload_n 0, 1) := by decide +kernel
theorem d_Mo_enter_18 : decode b_Mo_enter 18 = .ok (.getfield 20, 3) := by decide +kernel
theorem d_Mo_enter_21 : decode b_Mo_enter 21 = .ok (.iload_n 1, 1) := by decide +kernel
theorem d_Mo_enter_22 : decode b_Mo_enter 22 = .ok (.dup2, 1) := by decide +kernel
theorem d_Mo_enter_23 : decode b_Mo_enter 23 = .ok (.iaload, 1) := by decide +kernel
theorem d_Mo_enter_24 : decode b_Mo_enter 24 = .ok (.iconst 1, 1) := by decide +kernel
theorem d_Mo_enter_25 : decode b_Mo_enter 25 = .ok (.iadd, 1) := by decide +kernel
theorem d_Mo_enter_26 : decode b_Mo_enter 26 = .ok (.iastore, 1) := by decide +kernel
theorem d_Mo_enter_27 : decode b_Mo_enter 27 = .ok (.return_, 1) := by decide +kernel
theorem d_Mo_dropWaiter_0 : decode b_Mo_dropWaiter 0 = .ok (.aload_n 0, 1) := by decide +kernel
theorem d_Mo_dropWaiter_1 : decode b_Mo_dropWaiter 1 = .ok (.getfield 26, 3) := by decide +kernel
theorem d_Mo_dropWaiter_4 : decode b_Mo_dropWaiter 4 = .ok (.iload_n 1, 1) := by decide +kernel
theorem d_Mo_dropWaiter_5 : decode b_Mo_dropWaiter 5 = .ok (.dup2, 1) := by decide +kernel
theorem d_Mo_dropWaiter_6 : decode b_Mo_dropWaiter 6 = .ok (.iaload, 1) := by decide +kernel
theorem d_Mo_dropWaiter_7 : decode b_Mo_dropWaiter 7 = .ok (.iconst 1, 1) := by decide +kernel
theorem d_Mo_dropWaiter_8 : decode b_Mo_dropWaiter 8 = .ok (.isub, 1) := by decide +kernel
theorem d_Mo_dropWaiter_9 : decode b_Mo_dropWaiter 9 = .ok (.iastore, 1) := by decide +kernel
theorem d_Mo_dropWaiter_10 : decode b_Mo_dropWaiter 10 = .ok (.bipush 100, 2) := by decide +kernel
theorem d_Mo_dropWaiter_12 : decode b_Mo_dropWaiter 12 = .ok (.iload_n 1, 1) := by decide +kernel
theorem d_Mo_dropWaiter_13 : decode b_Mo_dropWaiter 13 = .ok (.imul, 1) := by decide +kernel
theorem d_Mo_dropWaiter_14 : decode b_Mo_dropWaiter 14 = .ok (.iload_n 2, 1) := by decide +kernel
theorem d_Mo_dropWaiter_15 : decode b_Mo_dropWaiter 15 = .ok (.iadd, 1) := by decide +kernel
theorem d_Mo_dropWaiter_16 : decode b_Mo_dropWaiter 16 = .ok (.istore_n 3, 1) := by decide +kernel
theorem d_Mo_dropWaiter_17 : decode b_Mo_dropWaiter 17 = .ok (.iload_n 3, 1) := by decide +kernel
theorem d_Mo_dropWaiter_18 : decode b_Mo_dropWaiter 18 = .ok (.bipush 100, 2) := by decide +kernel
theorem d_Mo_dropWaiter_20 : decode b_Mo_dropWaiter 20 = .ok (.iload_n 1, 1) := by decide +kernel
theorem d_Mo_dropWaiter_21 : decode b_Mo_dropWaiter 21 = .ok (.imul, 1) := by decide +kernel
theorem d_Mo_dropWaiter_22 : decode b_Mo_dropWaiter 22 = .ok (.aload_n 0, 1) := by decide +kernel
theorem d_Mo_dropWaiter_23 : decode b_Mo_dropWaiter 23 = .ok (.getfield 26, 3) := by decide +kernel
theorem d_Mo_dropWaiter_26 : decode b_Mo_dropWaiter 26 = .ok (.iload_n 1, 1) := by decide +kernel
theorem d_Mo_dropWaiter_27 : decode b_Mo_dropWaiter 27 = .ok (.iaload, 1) := by decide +kernel
theorem d_Mo_dropWaiter_28 : decode b_Mo_dropWaiter 28 = .ok (.iadd, 1) := by decide +kernel
theorem d_Mo_dropWaiter_29 : decode b_Mo_dropWaiter 29 = .ok (.if_icmp .ge 23, 3) := by decide +kernel
theorem d_Mo_dropWaiter_32 : decode b_Mo_dropWaiter 32 = .ok (.aload_n 0, 1) := by decide +kernel
theorem d_Mo_dropWaiter_33 : decode b_Mo_dropWaiter 33 = .ok (.getfield 29, 3) := by decide +kernel
theorem d_Mo_dropWaiter_36 : decode b_Mo_dropWaiter 36 = .ok (.iload_n 3, 1) := by decide +kernel
theorem d_Mo_dropWaiter_37 : decode b_Mo_dropWaiter 37 = .ok (.aload_n 0, 1) := by decide +kernel
theorem d_Mo_dropWaiter_38 : decode b_Mo_dropWaiter 38 = .ok (.getfield 29, 3) := by decide +kernel
theorem d_Mo_dropWaiter_41 : decode b_Mo_dropWaiter 41 = .ok (.iload_n 3, 1) := by decide +kernel
theorem d_Mo_dropWaiter_42 : decode b_Mo_dropWaiter 42 = .ok (.iconst 1, 1) := by decide +kernel
theorem d_Mo_dropWaiter_43 : decode b_Mo_dropWaiter 43 = .ok (.iadd, 1) := by decide +kernel
theorem d_Mo_dropWaiter_44 : decode b_Mo_dropWaiter 44 = .ok (.iaload, 1) := by decide +kernel
theorem d_Mo_dropWaiter_45 : decode b_Mo_dropWaiter 45 = .ok (.iastore, 1) := by decide +kernel
theorem d_Mo_dropWaiter_46 : decode b_Mo_dropWaiter 46 = .ok (.iinc 3 1, 3) := by decide +kernel
theorem d_Mo_dropWaiter_49 : decode b_Mo_dropWaiter 49 = .ok (.goto (-32), 3) := by decide +kernel
theorem d_Mo_dropWaiter_52 : decode b_Mo_dropWaiter 52 = .ok (.return_, 1) := by decide +kernel
theorem d_Mo_admit_0 : decode b_Mo_admit 0 = .ok (.aload_n 0, 1) := by decide +kernel
theorem d_Mo_admit_1 : decode b_Mo_admit 1 = .ok (.getfield 26, 3) := by decide +kernel
theorem d_Mo_admit_4 : decode b_Mo_admit 4 = .ok (.iload_n 1, 1) := by decide +kernel
theorem d_Mo_admit_5 : decode b_Mo_admit 5 = .ok (.iaload, 1) := by decide +kernel
theorem d_Mo_admit_6 : decode b_Mo_admit 6 = .ok (.ifCond .eq 18, 3) := by decide +kernel
theorem d_Mo_admit_9 : decode b_Mo_admit 9 = .ok (.aload_n 0, 1) := by decide +kernel
theorem d_Mo_admit_10 : decode b_Mo_admit 10 = .ok (.getfield 20, 3) := by decide +kernel
theorem d_Mo_admit_13 : decode b_Mo_admit 13 = .ok (.iload_n 1, 1) := by decide +kernel
theorem d_Mo_admit_14 : decode b_Mo_admit 14 = .ok (.iaload, 1) := by decide +kernel
theorem d_Mo_admit_15 : decode b_Mo_admit 15 = .ok (.aload_n 0, 1) := by decide +kernel
theorem d_Mo_admit_16 : decode b_Mo_admit 16 = .ok (.getfield 13, 3) := by decide +kernel
theorem d_Mo_admit_19 : decode b_Mo_admit 19 = .ok (.iload_n 1, 1) := by decide +kernel
theorem d_Mo_admit_20 : decode b_Mo_admit 20 = .ok (.iaload, 1) := by decide +kernel
theorem d_Mo_admit_21 : decode b_Mo_admit 21 = .ok (.if_icmp .lt 6, 3) := by decide +kernel
theorem d_Mo_admit_24 : decode b_Mo_admit 24 = .ok (.bipush (-10), 2) := by decide +kernel
theorem d_Mo_admit_26 : decode b_Mo_admit 26 = .ok (.ireturn, 1) := by decide +kernel
theorem d_Mo_admit_27 : decode b_Mo_admit 27 = .ok (.aload_n 0, 1) := by decide +kernel
theorem d_Mo_admit_28 : decode b_Mo_admit 28 = .ok (.getfield 29, 3) := by decide +kernel
theorem d_Mo_admit_31 : decode b_Mo_admit 31 = .ok (.bipush 100, 2) := by decide +kernel
theorem d_Mo_admit_33 : decode b_Mo_admit 33 = .ok (.iload_n 1, 1) := by decide +kernel
theorem d_Mo_admit_34 : decode b_Mo_admit 34 = .ok (.imul, 1) := by decide +kernel
theorem d_Mo_admit_35 : decode b_Mo_admit 35 = .ok (.iaload, 1) := by decide +kernel
theorem d_Mo_admit_36 : decode b_Mo_admit 36 = .ok (.istore_n 2, 1) := by decide +kernel
theorem d_Mo_admit_37 : decode b_Mo_admit 37 = .ok (.aload_n 0, 1) := by decide +kernel
theorem d_Mo_admit_38 : decode b_Mo_admit 38 = .ok (.iload_n 1, 1) := by decide +kernel
theorem d_Mo_admit_39 : decode b_Mo_admit 39 = .ok (.iconst 0, 1) := by decide +kernel
theorem d_Mo_admit_40 : decode b_Mo_admit 40 = .ok (.invokevirtual 125, 3) := by decide +kernel
theorem d_Mo_admit_43 : decode b_Mo_admit 43 = .ok (.aload_n 0, 1) := by decide +kernel
theorem d_Mo_admit_44 : decode b_Mo_admit 44 = .ok (.iload_n 1, 1) := by decide +kernel
theorem d_Mo_admit_45 : decode b_Mo_admit 45 = .ok (.iload_n 2, 1) := by decide +kernel
theorem d_Mo_admit_46 : decode b_Mo_admit 46 = .ok (.invokevirtual 129, 3) := by decide +kernel
theorem d_Mo_admit_49 : decode b_Mo_admit 49 = .ok (.iload_n 2, 1) := by decide +kernel
theorem d_Mo_admit_50 : decode b_Mo_admit 50 = .ok (.ireturn, 1) := by decide +kernel
theorem d_Mo_room_0 : decode b_Mo_room 0 = .ok (.aload_n 0, 1) := by decide +kernel
theorem d_Mo_room_1 : decode b_Mo_room 1 = .ok (.iconst 0, 1) := by decide +kernel
theorem d_Mo_room_2 : decode b_Mo_room 2 = .ok (.putfield 90, 3) := by decide +kernel
theorem d_Mo_room_5 : decode b_Mo_room 5 = .ok (.aload_n 0, 1) := by decide +kernel
theorem d_Mo_room_6 : decode b_Mo_room 6 = .ok (.iload_n 1, 1) := by decide +kernel
theorem d_Mo_room_7 : decode b_Mo_room 7 = .ok (.invokevirtual 107, 3) := by decide +kernel
theorem d_Mo_room_10 : decode b_Mo_room 10 = .ok (.ifCond .ne 5, 3) := by decide +kernel
theorem d_Mo_room_13 : decode b_Mo_room 13 = .ok (.iconst (-1), 1) := by decide +kernel
theorem d_Mo_room_14 : decode b_Mo_room 14 = .ok (.ireturn, 1) := by decide +kernel
theorem d_Mo_room_15 : decode b_Mo_room 15 = .ok (.iload_n 2, 1) := by decide +kernel
theorem d_Mo_room_16 : decode b_Mo_room 16 = .ok (.iconst 0, 1) := by decide +kernel
theorem d_Mo_room_17 : decode b_Mo_room 17 = .ok (.bipush 100, 2) := by decide +kernel
theorem d_Mo_room_19 : decode b_Mo_room 19 = .ok (.invokestatic 94, 3) := by decide +kernel
theorem d_Mo_room_22 : decode b_Mo_room 22 = .ok (.ifCond .ne 6, 3) := by decide +kernel
theorem d_Mo_room_25 : decode b_Mo_room 25 = .ok (.bipush (-2), 2) := by decide +kernel
theorem d_Mo_room_27 : decode b_Mo_room 27 = .ok (.ireturn, 1) := by decide +kernel
theorem d_Mo_room_28 : decode b_Mo_room 28 = .ok (.aload_n 0, 1) := by decide +kernel
theorem d_Mo_room_29 : decode b_Mo_room 29 = .ok (.getfield 13, 3) := by decide +kernel
theorem d_Mo_room_32 : decode b_Mo_room 32 = .ok (.iload_n 1, 1) := by decide +kernel
theorem d_Mo_room_33 : decode b_Mo_room 33 = .ok (.iload_n 2, 1) := by decide +kernel
theorem d_Mo_room_34 : decode b_Mo_room 34 = .ok (.iastore, 1) := by decide +kernel
theorem d_Mo_room_35 : decode b_Mo_room 35 = .ok (.iconst 0, 1) := by decide +kernel
theorem d_Mo_room_36 : decode b_Mo_room 36 = .ok (.istore_n 3, 1) := by decide +kernel
theorem d_Mo_room_37 : decode b_Mo_room 37 = .ok (.aload_n 0, 1) := by decide +kernel
theorem d_Mo_room_38 : decode b_Mo_room 38 = .ok (.iload_n 1, 1) := by decide +kernel
theorem d_Mo_room_39 : decode b_Mo_room 39 = .ok (.invokevirtual 132, 3) := by decide +kernel
theorem d_Mo_room_42 : decode b_Mo_room 42 = .ok (.ifCond .lt 9, 3) := by decide +kernel
theorem d_Mo_room_45 : decode b_Mo_room 45 = .ok (.iinc 3 1, 3) := by decide +kernel
theorem d_Mo_room_48 : decode b_Mo_room 48 = .ok (.goto (-11), 3) := by decide +kernel
theorem d_Mo_room_51 : decode b_Mo_room 51 = .ok (.iload_n 3, 1) := by decide +kernel
theorem d_Mo_room_52 : decode b_Mo_room 52 = .ok (.ireturn, 1) := by decide +kernel
theorem d_Mo_in_0 : decode b_Mo_in 0 = .ok (.aload_n 0, 1) := by decide +kernel
theorem d_Mo_in_1 : decode b_Mo_in 1 = .ok (.iconst 0, 1) := by decide +kernel
theorem d_Mo_in_2 : decode b_Mo_in 2 = .ok (.putfield 90, 3) := by decide +kernel
theorem d_Mo_in_5 : decode b_Mo_in 5 = .ok (.aload_n 0, 1) := by decide +kernel
theorem d_Mo_in_6 : decode b_Mo_in 6 = .ok (.iload_n 1, 1) := by decide +kernel
theorem d_Mo_in_7 : decode b_Mo_in 7 = .ok (.invokevirtual 107, 3) := by decide +kernel
theorem d_Mo_in_10 : decode b_Mo_in 10 = .ok (.ifCond .eq 13, 3) := by decide +kernel
theorem d_Mo_in_13 : decode b_Mo_in 13 = .ok (.iload_n 2, 1) := by decide +kernel
theorem d_Mo_in_14 : decode b_Mo_in 14 = .ok (.iconst 0, 1) := by decide +kernel
theorem d_Mo_in_15 : decode b_Mo_in 15 = .ok (.bipush 99, 2) := by decide +kernel
theorem d_Mo_in_17 : decode b_Mo_in 17 = .ok (.invokestatic 94, 3) := by decide +kernel
theorem d_Mo_in_20 : decode b_Mo_in 20 = .ok (.ifCond .ne 5, 3) := by decide +kernel
theorem d_Mo_in_23 : decode b_Mo_in 23 = .ok (.iconst (-1), 1) := by decide +kernel
theorem d_Mo_in_24 : decode b_Mo_in 24 = .ok (.ireturn, 1) := by decide +kernel
theorem d_Mo_in_25 : decode b_Mo_in 25 = .ok (.aload_n 0, 1) := by decide +kernel
theorem d_Mo_in_26 : decode b_Mo_in 26 = .ok (.iload_n 1, 1) := by decide +kernel
theorem d_Mo_in_27 : decode b_Mo_in 27 = .ok (.iload_n 2, 1) := by decide +kernel
theorem d_Mo_in_28 : decode b_Mo_in 28 = .ok (.invokevirtual 136, 3) := by decide +kernel
theorem d_Mo_in_31 : decode b_Mo_in 31 = .ok (.ifCond .ge 12, 3) := by decide +kernel
theorem d_Mo_in_34 : decode b_Mo_in 34 = .ok (.aload_n 0, 1) := by decide +kernel
theorem d_Mo_in_35 : decode b_Mo_in 35 = .ok (.iload_n 1, 1) := by decide +kernel
theorem d_Mo_in_36 : decode b_Mo_in 36 = .ok (.iload_n 2, 1) := by decide +kernel
theorem d_Mo_in_37 : decode b_Mo_in 37 = .ok (.invokevirtual 139, 3) := by decide +kernel
theorem d_Mo_in_40 : decode b_Mo_in 40 = .ok (.ifCond .lt 6, 3) := by decide +kernel
theorem d_Mo_in_43 : decode b_Mo_in 43 = .ok (.bipush (-3), 2) := by decide +kernel
theorem d_Mo_in_45 : decode b_Mo_in 45 = .ok (.ireturn, 1) := by decide +kernel
theorem d_Mo_in_46 : decode b_Mo_in 46 = .ok (.aload_n 0, 1) := by decide +kernel
theorem d_Mo_in_47 : decode b_Mo_in 47 = .ok (.getfield 20, 3) := by decide +kernel
theorem d_Mo_in_50 : decode b_Mo_in 50 = .ok (.iload_n 1, 1) := by decide +kernel
theorem d_Mo_in_51 : decode b_Mo_in 51 = .ok (.iaload, 1) := by decide +kernel
theorem d_Mo_in_52 : decode b_Mo_in 52 = .ok (.aload_n 0, 1) := by decide +kernel
theorem d_Mo_in_53 : decode b_Mo_in 53 = .ok (.getfield 13, 3) := by decide +kernel
theorem d_Mo_in_56 : decode b_Mo_in 56 = .ok (.iload_n 1, 1) := by decide +kernel
theorem d_Mo_in_57 : decode b_Mo_in 57 = .ok (.iaload, 1) := by decide +kernel
theorem d_Mo_in_58 : decode b_Mo_in 58 = .ok (.if_icmp .ge 11, 3) := by decide +kernel
theorem d_Mo_in_61 : decode b_Mo_in 61 = .ok (.aload_n 0, 1) := by decide +kernel
theorem d_Mo_in_62 : decode b_Mo_in 62 = .ok (.iload_n 1, 1) := by decide +kernel
theorem d_Mo_in_63 : decode b_Mo_in 63 = .ok (.iload_n 2, 1) := by decide +kernel
theorem d_Mo_in_64 : decode b_Mo_in 64 = .ok (.invokevirtual 129, 3) := by decide +kernel
theorem d_Mo_in_67 : decode b_Mo_in 67 = .ok (.iconst 1, 1) := by decide +kernel
theorem d_Mo_in_68 : decode b_Mo_in 68 = .ok (.ireturn, 1) := by decide +kernel
theorem d_Mo_in_69 : decode b_Mo_in 69 = .ok (.aload_n 0, 1) := by decide +kernel
theorem d_Mo_in_70 : decode b_Mo_in 70 = .ok (.getfield 29, 3) := by decide +kernel
theorem d_Mo_in_73 : decode b_Mo_in 73 = .ok (.bipush 100, 2) := by decide +kernel
theorem d_Mo_in_75 : decode b_Mo_in 75 = .ok (.iload_n 1, 1) := by decide +kernel
theorem d_Mo_in_76 : decode b_Mo_in 76 = .ok (.imul, 1) := by decide +kernel
theorem d_Mo_in_77 : decode b_Mo_in 77 = .ok (.aload_n 0, 1) := by decide +kernel
theorem d_Mo_in_78 : decode b_Mo_in 78 = .ok (.getfield 26, 3) := by decide +kernel
theorem d_Mo_in_81 : decode b_Mo_in 81 = .ok (.iload_n 1, 1) := by decide +kernel
theorem d_Mo_in_82 : decode b_Mo_in 82 = .ok (.iaload, 1) := by decide +kernel
theorem d_Mo_in_83 : decode b_Mo_in 83 = .ok (.iadd, 1) := by decide +kernel
theorem d_Mo_in_84 : decode b_Mo_in 84 = .ok (.iload_n 2, 1) := by decide +kernel
theorem d_Mo_in_85 : decode b_Mo_in 85 = .ok (.iastore, 1) := by decide +kernel
theorem d_Mo_in_86 : decode b_Mo_in 86 = .ok (.aload_n 0, 1) := by decide +kernel
theorem d_Mo_in_87 : decode b_Mo_in 87 = .ok (.getfield 26, 3) := by decide +kernel
theorem d_Mo_in_90 : decode b_Mo_in 90 = .ok (.iload_n 1, 1) := by decide +kernel
theorem d_Mo_in_91 : decode b_Mo_in 91 = .ok (.dup2, 1) := by decide +kernel
theorem d_Mo_in_92 : decode b_Mo_in 92 = .ok (.iaload, 1) := by decide +kernel
theorem d_Mo_in_93 : decode b_Mo_in 93 = .ok (.iconst 1, 1) := by decide +kernel
theorem d_Mo_in_94 : decode b_Mo_in 94 = .ok (.iadd, 1) := by decide +kernel
theorem d_Mo_in_95 : decode b_Mo_in 95 = .ok (.iastore, 1) := by decide +kernel
theorem d_Mo_in_96 : decode b_Mo_in 96 = .ok (.iconst 0, 1) := by decide +kernel
theorem d_Mo_in_97 : decode b_Mo_in 97 = .ok (.ireturn, 1) := by decide +kernel
theorem d_Mo_out_0 : decode b_Mo_out 0 = .ok (.aload_n 0, 1) := by decide +kernel
theorem d_Mo_out_1 : decode b_Mo_out 1 = .ok (.iconst 0, 1) := by decide +kernel
theorem d_Mo_out_2 : decode b_Mo_out 2 = .ok (.putfield 90, 3) := by decide +kernel
theorem d_Mo_out_5 : decode b_Mo_out 5 = .ok (.aload_n 0, 1) := by decide +kernel
theorem d_Mo_out_6 : decode b_Mo_out 6 = .ok (.iload_n 1, 1) := by decide +kernel
theorem d_Mo_out_7 : decode b_Mo_out 7 = .ok (.invokevirtual 107, 3) := by decide +kernel
theorem d_Mo_out_10 : decode b_Mo_out 10 = .ok (.ifCond .eq 13, 3) := by decide +kernel
theorem d_Mo_out_13 : decode b_Mo_out 13 = .ok (.iload_n 2, 1) := by decide +kernel
theorem d_Mo_out_14 : decode b_Mo_out 14 = .ok (.iconst 0, 1) := by decide +kernel
theorem d_Mo_out_15 : decode b_Mo_out 15 = .ok (.bipush 99, 2) := by decide +kernel
theorem d_Mo_out_17 : decode b_Mo_out 17 = .ok (.invokestatic 94, 3) := by decide +kernel
theorem d_Mo_out_20 : decode b_Mo_out 20 = .ok (.ifCond .ne 5, 3) := by decide +kernel
theorem d_Mo_out_23 : decode b_Mo_out 23 = .ok (.iconst (-1), 1) := by decide +kernel
theorem d_Mo_out_24 : decode b_Mo_out 24 = .ok (.ireturn, 1) := by decide +kernel
theorem d_Mo_out_25 : decode b_Mo_out 25 = .ok (.aload_n 0, 1) := by decide +kernel
theorem d_Mo_out_26 : decode b_Mo_out 26 = .ok (.iload_n 1, 1) := by decide +kernel
theorem d_Mo_out_27 : decode b_Mo_out 27 = .ok (.iload_n 2, 1) := by decide +kernel
theorem d_Mo_out_28 : decode b_Mo_out 28 = .ok (.invokevirtual 139, 3) := by decide +kernel
theorem d_Mo_out_31 : decode b_Mo_out 31 = .ok (.istore_n 3, 1) := by decide +kernel
theorem d_Mo_out_32 : decode b_Mo_out 32 = .ok (.iload_n 3, 1) := by decide +kernel
theorem d_Mo_out_33 : decode b_Mo_out 33 = .ok (.ifCond .lt 12, 3) := by decide +kernel
theorem d_Mo_out_36 : decode b_Mo_out 36 = .ok (.aload_n 0, 1) := by decide +kernel
theorem d_Mo_out_37 : decode b_Mo_out 37 = .ok (.iload_n 1, 1) := by decide +kernel
theorem d_Mo_out_38 : decode b_Mo_out 38 = .ok (.iload_n 3, 1) := by decide +kernel
theorem d_Mo_out_39 : decode b_Mo_out 39 = .ok (.invokevirtual 125, 3) := by decide +kernel
theorem d_Mo_out_42 : decode b_Mo_out 42 = .ok (.bipush (-10), 2) := by decide +kernel
theorem d_Mo_out_44 : decode b_Mo_out 44 = .ok (.ireturn, 1) := by decide +kernel
theorem d_Mo_out_45 : decode b_Mo_out 45 = .ok (.aload_n 0, 1) := by decide +kernel
theorem d_Mo_out_46 : decode b_Mo_out 46 = .ok (.iload_n 1, 1) := by decide +kernel
theorem d_Mo_out_47 : decode b_Mo_out 47 = .ok (.iload_n 2, 1) := by decide +kernel
theorem d_Mo_out_48 : decode b_Mo_out 48 = .ok (.invokevirtual 136, 3) := by decide +kernel
theorem d_Mo_out_51 : decode b_Mo_out 51 = .ok (.istore 4, 2) := by decide +kernel
theorem d_Mo_out_53 : decode b_Mo_out 53 = .ok (.iload 4, 2) := by decide +kernel
theorem d_Mo_out_55 : decode b_Mo_out 55 = .ok (.ifCond .ge 6, 3) := by decide +kernel
theorem d_Mo_out_58 : decode b_Mo_out 58 = .ok (.bipush (-3), 2) := by decide +kernel
theorem d_Mo_out_60 : decode b_Mo_out 60 = .ok (.ireturn, 1) := by decide +kernel
theorem d_Mo_out_61 : decode b_Mo_out 61 = .ok (.aload_n 0, 1) := by decide +kernel
theorem d_Mo_out_62 : decode b_Mo_out 62 = .ok (.getfield 20, 3) := by decide +kernel
theorem d_Mo_out_65 : decode b_Mo_out 65 = .ok (.iload_n 1, 1) := by decide +kernel
theorem d_Mo_out_66 : decode b_Mo_out 66 = .ok (.dup2, 1) := by decide +kernel
theorem d_Mo_out_67 : decode b_Mo_out 67 = .ok (.iaload, 1) := by decide +kernel
theorem d_Mo_out_68 : decode b_Mo_out 68 = .ok (.iconst 1, 1) := by decide +kernel
theorem d_Mo_out_69 : decode b_Mo_out 69 = .ok (.isub, 1) := by decide +kernel
theorem d_Mo_out_70 : decode b_Mo_out 70 = .ok (.iastore, 1) := by decide +kernel
theorem d_Mo_out_71 : decode b_Mo_out 71 = .ok (.bipush 100, 2) := by decide +kernel
theorem d_Mo_out_73 : decode b_Mo_out 73 = .ok (.iload_n 1, 1) := by decide +kernel
theorem d_Mo_out_74 : decode b_Mo_out 74 = .ok (.imul, 1) := by decide +kernel
theorem d_Mo_out_75 : decode b_Mo_out 75 = .ok (.iload 4, 2) := by decide +kernel
theorem d_Mo_out_77 : decode b_Mo_out 77 = .ok (.iadd, 1) := by decide +kernel
theorem d_Mo_out_78 : decode b_Mo_out 78 = .ok (.istore 5, 2) := by decide +kernel
theorem d_Mo_out_80 : decode b_Mo_out 80 = .ok (.iload 5, 2) := by decide +kernel
theorem d_Mo_out_82 : decode b_Mo_out 82 = .ok (.bipush 100, 2) := by decide +kernel
theorem d_Mo_out_84 : decode b_Mo_out 84 = .ok (.iload_n 1, 1) := by decide +kernel
theorem d_Mo_out_85 : decode b_Mo_out 85 = .ok (.imul, 1) := by decide +kernel
theorem d_Mo_out_86 : decode b_Mo_out 86 = .ok (.aload_n 0, 1) := by decide +kernel
theorem d_Mo_out_87 : decode b_Mo_out 87 = .ok (.getfield 20, 3) := by decide +kernel
theorem d_Mo_out_90 : decode b_Mo_out 90 = .ok (.iload_n 1, 1) := by decide +kernel
theorem d_Mo_out_91 : decode b_Mo_out 91 = .ok (.iaload, 1) := by decide +kernel
theorem d_Mo_out_92 : decode b_Mo_out 92 = .ok (.iadd, 1) := by decide +kernel
theorem d_Mo_out_93 : decode b_Mo_out 93 = .ok (.if_icmp .ge 25, 3) := by decide +kernel
theorem d_Mo_out_96 : decode b_Mo_out 96 = .ok (.aload_n 0, 1) := by decide +kernel
theorem d_Mo_out_97 : decode b_Mo_out 97 = .ok (.getfield 23, 3) := by decide +kernel
theorem d_Mo_out_100 : decode b_Mo_out 100 = .ok (.iload 5, 2) := by decide +kernel
theorem d_Mo_out_102 : decode b_Mo_out 102 = .ok (.aload_n 0, 1) := by decide +kernel
theorem d_Mo_out_103 : decode b_Mo_out 103 = .ok (.getfield 23, 3) := by decide +kernel
theorem d_Mo_out_106 : decode b_Mo_out 106 = .ok (.iload 5, 2) := by decide +kernel
theorem d_Mo_out_108 : decode b_Mo_out 108 = .ok (.iconst 1, 1) := by decide +kernel
theorem d_Mo_out_109 : decode b_Mo_out 109 = .ok (.iadd, 1) := by decide +kernel
theorem d_Mo_out_110 : decode b_Mo_out 110 = .ok (.iaload, 1) := by decide +kernel
theorem d_Mo_out_111 : decode b_Mo_out 111 = .ok (.iastore, 1) := by decide +kernel
theorem d_Mo_out_112 : decode b_Mo_out 112 = .ok (.iinc 5 1, 3) := by decide +kernel
theorem d_Mo_out_115 : decode b_Mo_out 115 = .ok (.goto (-35), 3) := by decide +kernel
theorem d_Mo_out_118 : decode b_Mo_out 118 = .ok (.aload_n 0, 1) := by decide +kernel
theorem d_Mo_out_119 : decode b_Mo_out 119 = .ok (.iload_n 1, 1) := by decide +kernel
theorem d_Mo_out_120 : decode b_Mo_out 120 = .ok (.invokevirtual 132, 3) := by decide +kernel
theorem d_Mo_out_123 : decode b_Mo_out 123 = .ok (.ireturn, 1) := by decide +kernel
theorem d_Mo_covers_0 : decode b_Mo_covers 0 = .ok (.iconst 0, 1) := by decide +kernel
theorem d_Mo_covers_1 : decode b_Mo_covers 1 = .ok (.istore_n 3, 1) := by decide +kernel
theorem d_Mo_covers_2 : decode b_Mo_covers 2 = .ok (.bipush 10, 2) := by decide +kernel
theorem d_Mo_covers_4 : decode b_Mo_covers 4 = .ok (.iload_n 1, 1) := by decide +kernel
theorem d_Mo_covers_5 : decode b_Mo_covers 5 = .ok (.imul, 1) := by decide +kernel
theorem d_Mo_covers_6 : decode b_Mo_covers 6 = .ok (.istore 4, 2) := by decide +kernel
theorem d_Mo_covers_8 : decode b_Mo_covers 8 = .ok (.iload 4, 2) := by decide +kernel
theorem d_Mo_covers_10 : decode b_Mo_covers 10 = .ok (.bipush 10, 2) := by decide +kernel
theorem d_Mo_covers_12 : decode b_Mo_covers 12 = .ok (.iload_n 1, 1) := by decide +kernel
theorem d_Mo_covers_13 : decode b_Mo_covers 13 = .ok (.imul, 1) := by decide +kernel
theorem d_Mo_covers_14 : decode b_Mo_covers 14 = .ok (.aload_n 0, 1) := by decide +kernel
theorem d_Mo_covers_15 : decode b_Mo_covers 15 = .ok (.getfield 44, 3) := by decide +kernel
theorem d_Mo_covers_18 : decode b_Mo_covers 18 = .ok (.iload_n 1, 1) := by decide +kernel
theorem d_Mo_covers_19 : decode b_Mo_covers 19 = .ok (.iaload, 1) := by decide +kernel
theorem d_Mo_covers_20 : decode b_Mo_covers 20 = .ok (.iadd, 1) := by decide +kernel
theorem d_Mo_covers_21 : decode b_Mo_covers 21 = .ok (.if_icmp .ge 40, 3) := by decide +kernel
theorem d_Mo_covers_24 : decode b_Mo_covers 24 = .ok (.iload_n 3, 1) := by decide +kernel
theorem d_Mo_covers_25 : decode b_Mo_covers 25 = .ok (.ifCond .ne 24, 3) := by decide +kernel
theorem d_Mo_covers_28 : decode b_Mo_covers 28 = .ok (.iload_n 2, 1) := by decide +kernel
theorem d_Mo_covers_29 : decode b_Mo_covers 29 = .ok (.aload_n 0, 1) := by decide +kernel
theorem d_Mo_covers_30 : decode b_Mo_covers 30 = .ok (.getfield 47, 3) := by decide +kernel
theorem d_Mo_covers_33 : decode b_Mo_covers 33 = .ok (.iload 4, 2) := by decide +kernel
theorem d_Mo_covers_35 : decode b_Mo_covers 35 = .ok (.iaload, 1) := by decide +kernel
theorem d_Mo_covers_36 : decode b_Mo_covers 36 = .ok (.aload_n 0, 1) := by decide +kernel
theorem d_Mo_covers_37 : decode b_Mo_covers 37 = .ok (.getfield 50, 3) := by decide +kernel
theorem d_Mo_covers_40 : decode b_Mo_covers 40 = .ok (.iload 4, 2) := by decide +kernel
theorem d_Mo_covers_42 : decode b_Mo_covers 42 = .ok (.iaload, 1) := by decide +kernel
theorem d_Mo_covers_43 : decode b_Mo_covers 43 = .ok (.invokestatic 94, 3) := by decide +kernel
theorem d_Mo_covers_46 : decode b_Mo_covers 46 = .ok (.ifCond .eq 7, 3) := by decide +kernel
theorem d_Mo_covers_49 : decode b_Mo_covers 49 = .ok (.iconst 1, 1) := by decide +kernel
theorem d_Mo_covers_50 : decode b_Mo_covers 50 = .ok (.goto 4, 3) := by decide +kernel
theorem d_Mo_covers_53 : decode b_Mo_covers 53 = .ok (.iconst 0, 1) := by decide +kernel
theorem d_Mo_covers_54 : decode b_Mo_covers 54 = .ok (.istore_n 3, 1) := by decide +kernel
theorem d_Mo_covers_55 : decode b_Mo_covers 55 = .ok (.iinc 4 1, 3) := by decide +kernel
theorem d_Mo_covers_58 : decode b_Mo_covers 58 = .ok (.goto (-50), 3) := by decide +kernel
theorem d_Mo_covers_61 : decode b_Mo_covers 61 = .ok (.iload_n 3, 1) := by decide +kernel
theorem d_Mo_covers_62 : decode b_Mo_covers 62 = .ok (.ireturn, 1) := by decide +kernel
theorem d_Mo_usagesOf_0 : decode b_Mo_usagesOf 0 = .ok (.iconst 0, 1) := by decide +kernel
theorem d_Mo_usagesOf_1 : decode b_Mo_usagesOf 1 = .ok (.istore_n 3, 1) := by decide +kernel
theorem d_Mo_usagesOf_2 : decode b_Mo_usagesOf 2 = .ok (.iconst 0, 1) := by decide +kernel
theorem d_Mo_usagesOf_3 : decode b_Mo_usagesOf 3 = .ok (.istore 4, 2) := by decide +kernel
theorem d_Mo_usagesOf_5 : decode b_Mo_usagesOf 5 = .ok (.iload 4, 2) := by decide +kernel
theorem d_Mo_usagesOf_7 : decode b_Mo_usagesOf 7 = .ok (.aload_n 0, 1) := by decide +kernel
theorem d_Mo_usagesOf_8 : decode b_Mo_usagesOf 8 = .ok (.getfield 142, 3) := by decide +kernel
theorem d_Mo_usagesOf_11 : decode b_Mo_usagesOf 11 = .ok (.if_icmp .ge 39, 3) := by decide +kernel
theorem d_Mo_usagesOf_14 : decode b_Mo_usagesOf 14 = .ok (.iload_n 3, 1) := by decide +kernel
theorem d_Mo_usagesOf_15 : decode b_Mo_usagesOf 15 = .ok (.aload_n 0, 1) := by decide +kernel
theorem d_Mo_usagesOf_16 : decode b_Mo_usagesOf 16 = .ok (.getfield 75, 3) := by decide +kernel
theorem d_Mo_usagesOf_19 : decode b_Mo_usagesOf 19 = .ok (.iload 4, 2) := by decide +kernel
theorem d_Mo_usagesOf_21 : decode b_Mo_usagesOf 21 = .ok (.iaload, 1) := by decide +kernel
theorem d_Mo_usagesOf_22 : decode b_Mo_usagesOf 22 = .ok (.iload_n 1, 1) := by decide +kernel
theorem d_Mo_usagesOf_23 : decode b_Mo_usagesOf 23 = .ok (.if_icmp .ne 18, 3) := by decide +kernel
theorem d_Mo_usagesOf_26 : decode b_Mo_usagesOf 26 = .ok (.aload_n 0, 1) := by decide +kernel
theorem d_Mo_usagesOf_27 : decode b_Mo_usagesOf 27 = .ok (.getfield 81, 3) := by decide +kernel
theorem d_Mo_usagesOf_30 : decode b_Mo_usagesOf 30 = .ok (.iload 4, 2) := by decide +kernel
theorem d_Mo_usagesOf_32 : decode b_Mo_usagesOf 32 = .ok (.iaload, 1) := by decide +kernel
theorem d_Mo_usagesOf_33 : decode b_Mo_usagesOf 33 = .ok (.iload_n 2, 1) := by decide +kernel
theorem d_Mo_usagesOf_34 : decode b_Mo_usagesOf 34 = .ok (.if_icmp .ne 7, 3) := by decide +kernel
theorem d_Mo_usagesOf_37 : decode b_Mo_usagesOf 37 = .ok (.iconst 1, 1) := by decide +kernel
theorem d_Mo_usagesOf_38 : decode b_Mo_usagesOf 38 = .ok (.goto 4, 3) := by decide +kernel
theorem d_Mo_usagesOf_41 : decode b_Mo_usagesOf 41 = .ok (.iconst 0, 1) := by decide +kernel
theorem d_Mo_usagesOf_42 : decode b_Mo_usagesOf 42 = .ok (.iadd, 1) := by decide +kernel
theorem d_Mo_usagesOf_43 : decode b_Mo_usagesOf 43 = .ok (.istore_n 3, 1) := by decide +kernel
theorem d_Mo_usagesOf_44 : decode b_Mo_usagesOf 44 = .ok (.iinc 4 1, 3) := by decide +kernel
theorem d_Mo_usagesOf_47 : decode b_Mo_usagesOf 47 = .ok (.goto (-42), 3) := by decide +kernel
theorem d_Mo_usagesOf_50 : decode b_Mo_usagesOf 50 = .ok (.iload_n 3, 1) := by decide +kernel
theorem d_Mo_usagesOf_51 : decode b_Mo_usagesOf 51 = .ok (.ireturn, 1) := by decide +kernel
def f_Mo_enter (v0 : Nat) (v1 : Int32) (v2 : Int32) (M : mm) : Option (Unit × mm) :=
    (gR 1 6 M v0).bind fun x1 =>
    (gR 1 5 M v0).bind fun x2 =>
    (aI M x2 v1).bind fun x3 =>
    (sI v2 M x1 ((100 * v1) + x3)).bind fun M4 =>
    (gR 1 5 M4 v0).bind fun x5 =>
    (aI M4 x5 v1).bind fun x6 =>
    (sI (x6 + 1) M4 x5 v1).bind fun M7 =>
    some ((), M7)
set_option maxHeartbeats 4000000 in
set_option maxRecDepth 100000 in
theorem c_Mo_enter (l : Launch) (D : va_G) (dA : Nat → ClassId) (M0 M' : mm) (r : Unit) (v0 : Nat) (v1 : Int32) (v2 : Int32) (h : f_Mo_enter v0 v1 v2 M0 = some (r, M')) : Met l y_Mo_enter w_Mo_enter rm_Mo_enter (mm_Pre D dA M0 [.ref v0, .int v1, .int v2]) (mm_QV D dA M0 r M') 0 0 (mm_A M0) := by
  refine Met.ofW (cc := b_Mo_enter) (maxL := 3) (ret := none) (by decide) rfl ?_
  intro p e s m args below meth c s₁ B hml hv
  obtain ⟨rfl, hW, hK⟩ := hv
  have C : mm_C p s m _ meth c b_Mo_enter 3 none R_Mo D dA (mm_A M0) := ⟨B.exec, B.bytes, B.returns, hml, findClass_of_methodNamed B.named, fun w hw => atoms_spec (ws := w_Mo_enter) B.pre w (List.mem_cons_of_mem _ hw), B.notSynchronized, hK, fun q hq => Or.inr (by rw [← hW.1]; exact hq)⟩
  have hS : va_S (mm_A M0) s.heap s.heap [] := va_S.rf
  obtain ⟨hx, hb, hr, hml, hown, hts, hlocks, hK, hA⟩ := id C
  have hl := lv_entry ([.ref v0, .int v1, .int v2]) (n := 3) (Nat.le_of_ble_eq_true rfl)
  rw [lg_entry_eq]
  generalize (lg_sl ([.ref v0, .int v1, .int v2]) ++ List.replicate (3 - (lg_sl ([.ref v0, .int v1, .int v2])).length) Slot.unset).toArray = ls at hl ⊢
  have hl : lv_has ls 3 [(0, .ref v0), (1, .int v1), (2, .int v2)] := hl
  unfold f_Mo_enter at h
  refine lv_aload_n hx hb d_Mo_enter_0 rfl (lv_at hl 0 rfl) ?_
  obtain ⟨x1, e1, h⟩ := ob h
  refine mr_gR C hW k_Mo_23 e1 d_Mo_enter_1 ?_
  refine lv_bipush (v := 100) hx hb d_Mo_enter_4 (by decide) ?_
  refine lv_iload_n hx hb d_Mo_enter_6 rfl (lv_at hl 1 rfl) ?_
  refine lv_imul hx hb d_Mo_enter_7 ?_
  refine lv_aload_n hx hb d_Mo_enter_8 rfl (lv_at hl 0 rfl) ?_
  obtain ⟨x2, e2, h⟩ := ob h
  refine mr_gR C hW k_Mo_20 e2 d_Mo_enter_9 ?_
  refine lv_iload_n hx hb d_Mo_enter_12 rfl (lv_at hl 1 rfl) ?_
  obtain ⟨x3, e3, h⟩ := ob h
  refine mr_aI C hW e3 d_Mo_enter_13 ?_
  refine lv_iadd hx hb d_Mo_enter_14 ?_
  refine lv_iload_n hx hb d_Mo_enter_15 rfl (lv_at hl 2 rfl) ?_
  obtain ⟨M4, e4, h⟩ := ob h
  refine mr_sI C hW hS e4 d_Mo_enter_16 (fun H locs hW hS => ?_)
  refine lv_aload_n hx hb d_Mo_enter_17 rfl (lv_at hl 0 rfl) ?_
  obtain ⟨x5, e5, h⟩ := ob h
  refine mr_gR C hW k_Mo_20 e5 d_Mo_enter_18 ?_
  refine lv_iload_n hx hb d_Mo_enter_21 rfl (lv_at hl 1 rfl) ?_
  refine lv_dup2_11 hx hb d_Mo_enter_22 rfl rfl ?_
  obtain ⟨x6, e6, h⟩ := ob h
  refine mr_aI C hW e6 d_Mo_enter_23 ?_
  refine lv_iconst (v := 1) hx hb d_Mo_enter_24 (by decide) ?_
  refine lv_iadd hx hb d_Mo_enter_25 ?_
  obtain ⟨M7, e7, h⟩ := ob h
  refine mr_sI C hW hS e7 d_Mo_enter_26 (fun H locs hW hS => ?_)
  exact mr_vret C hW hS (Nat.le_of_ble_eq_true rfl) (Nat.le_of_ble_eq_true rfl) h d_Mo_enter_27
def f_Mo_dropWaiter_b17 : Nat → Nat → Int32 → Int32 → mm → Option (Unit × mm)
  | 0, _, _, _, _ => none
  | n + 1, v0, v1, v3, M =>
    (gR 1 7 M v0).bind fun x1 =>
    (aI M x1 v1).bind fun x2 =>
    if ((100 * v1) + x2) ≤ v3 then
      some ((), M)
    else
      (gR 1 8 M v0).bind fun x4 =>
      (gR 1 8 M v0).bind fun x5 =>
      (aI M x5 (v3 + 1)).bind fun x6 =>
      (sI x6 M x4 v3).bind fun M7 =>
      f_Mo_dropWaiter_b17 n v0 v1 (v3 + 1) M7
def f_Mo_dropWaiter (v0 : Nat) (v1 : Int32) (v2 : Int32) (M : mm) : Option (Unit × mm) :=
    (gR 1 7 M v0).bind fun x8 =>
    (aI M x8 v1).bind fun x9 =>
    (sI (x9 - 1) M x8 v1).bind fun M10 =>
    f_Mo_dropWaiter_b17 FU v0 v1 ((100 * v1) + v2) M10
set_option maxHeartbeats 4000000 in
set_option maxRecDepth 100000 in
theorem w_Mo_dropWaiter_b17 {p : Program} {l : Launch} {e : Env} {s : State} {m : MethodId} {args : Array Value} {below : List Frame} {meth : Method} {c : Code} {D : va_G} {dA : Nat → ClassId} {M0 M' : mm} {r : Unit} (C : mm_C p s m args meth c b_Mo_dropWaiter 4 none R_Mo D dA (mm_A M0)) : ∀ (n : Nat), ∀ (v0 : Nat) (v1 : Int32) (v3 : Int32) (M : mm) (H : Heap) (locs : List Loc) (ls : Array Slot), f_Mo_dropWaiter_b17 n v0 v1 v3 M = some (r, M') → mm_W D dA (mm_A M0) M H → va_S (mm_A M0) s.heap H locs → lv_has ls 4 [(0, .ref v0), (1, .int v1), (3, .int v3)] → W p l e rm_Mo_dropWaiter s m args below meth c H locs 0 0 (MQ below (mm_QV D dA M0 r M') args s 0 0 (mm_A M0)) (F0 m 17 ls []) := by
  obtain ⟨hx, hb, hr, hml, hown, hts, hlocks, hK, hA⟩ := id C
  intro n
  induction n with
  | zero =>
    intro v0 v1 v3 M H locs ls h hW hS hl
    unfold f_Mo_dropWaiter_b17 at h
    cases h
  | succ n ih =>
    intro v0 v1 v3 M H locs ls h hW hS hl
    unfold f_Mo_dropWaiter_b17 at h
    refine lv_iload_n hx hb d_Mo_dropWaiter_17 rfl (lv_at hl 2 rfl) ?_
    refine lv_bipush (v := 100) hx hb d_Mo_dropWaiter_18 (by decide) ?_
    refine lv_iload_n hx hb d_Mo_dropWaiter_20 rfl (lv_at hl 1 rfl) ?_
    refine lv_imul hx hb d_Mo_dropWaiter_21 ?_
    refine lv_aload_n hx hb d_Mo_dropWaiter_22 rfl (lv_at hl 0 rfl) ?_
    obtain ⟨x1, e1, h⟩ := ob h
    refine mr_gR C hW k_Mo_26 e1 d_Mo_dropWaiter_23 ?_
    refine lv_iload_n hx hb d_Mo_dropWaiter_26 rfl (lv_at hl 1 rfl) ?_
    obtain ⟨x2, e2, h⟩ := ob h
    refine mr_aI C hW e2 d_Mo_dropWaiter_27 ?_
    refine lv_iadd hx hb d_Mo_dropWaiter_28 ?_
    refine lv_icmp_ge (tgt := 52) hx hb d_Mo_dropWaiter_29 (by decide) (fun c3 => ?_) (fun c3 => ?_)
    · have h := ifp h c3
      exact mr_vret C hW hS (Nat.le_of_ble_eq_true rfl) (Nat.le_of_ble_eq_true rfl) h d_Mo_dropWaiter_52
    · have h := ifn h c3
      refine lv_aload_n hx hb d_Mo_dropWaiter_32 rfl (lv_at hl 0 rfl) ?_
      obtain ⟨x4, e4, h⟩ := ob h
      refine mr_gR C hW k_Mo_29 e4 d_Mo_dropWaiter_33 ?_
      refine lv_iload_n hx hb d_Mo_dropWaiter_36 rfl (lv_at hl 2 rfl) ?_
      refine lv_aload_n hx hb d_Mo_dropWaiter_37 rfl (lv_at hl 0 rfl) ?_
      obtain ⟨x5, e5, h⟩ := ob h
      refine mr_gR C hW k_Mo_29 e5 d_Mo_dropWaiter_38 ?_
      refine lv_iload_n hx hb d_Mo_dropWaiter_41 rfl (lv_at hl 2 rfl) ?_
      refine lv_iconst (v := 1) hx hb d_Mo_dropWaiter_42 (by decide) ?_
      refine lv_iadd hx hb d_Mo_dropWaiter_43 ?_
      obtain ⟨x6, e6, h⟩ := ob h
      refine mr_aI C hW e6 d_Mo_dropWaiter_44 ?_
      obtain ⟨M7, e7, h⟩ := ob h
      refine mr_sI C hW hS e7 d_Mo_dropWaiter_45 (fun H locs hW hS => ?_)
      refine lv_iinc (v := v3 + 1) (lv' := [(3, .int (v3 + 1)), (0, .ref v0), (1, .int v1)]) hx hb d_Mo_dropWaiter_46 hl (k := 2) rfl rfl (by decide) rfl (fun ls hl => ?_)
      refine lv_goto (tgt := 17) hx hb d_Mo_dropWaiter_49 (by decide) ?_
      exact ih _ _ _ _ _ _ _ h hW hS (lv_sub hl [1, 2, 0] rfl)
set_option maxHeartbeats 4000000 in
set_option maxRecDepth 100000 in
theorem c_Mo_dropWaiter (l : Launch) (D : va_G) (dA : Nat → ClassId) (M0 M' : mm) (r : Unit) (v0 : Nat) (v1 : Int32) (v2 : Int32) (h : f_Mo_dropWaiter v0 v1 v2 M0 = some (r, M')) : Met l y_Mo_dropWaiter w_Mo_dropWaiter rm_Mo_dropWaiter (mm_Pre D dA M0 [.ref v0, .int v1, .int v2]) (mm_QV D dA M0 r M') 0 0 (mm_A M0) := by
  refine Met.ofW (cc := b_Mo_dropWaiter) (maxL := 4) (ret := none) (by decide) rfl ?_
  intro p e s m args below meth c s₁ B hml hv
  obtain ⟨rfl, hW, hK⟩ := hv
  have C : mm_C p s m _ meth c b_Mo_dropWaiter 4 none R_Mo D dA (mm_A M0) := ⟨B.exec, B.bytes, B.returns, hml, findClass_of_methodNamed B.named, fun w hw => atoms_spec (ws := w_Mo_dropWaiter) B.pre w (List.mem_cons_of_mem _ hw), B.notSynchronized, hK, fun q hq => Or.inr (by rw [← hW.1]; exact hq)⟩
  have hS : va_S (mm_A M0) s.heap s.heap [] := va_S.rf
  obtain ⟨hx, hb, hr, hml, hown, hts, hlocks, hK, hA⟩ := id C
  have hl := lv_entry ([.ref v0, .int v1, .int v2]) (n := 4) (Nat.le_of_ble_eq_true rfl)
  rw [lg_entry_eq]
  generalize (lg_sl ([.ref v0, .int v1, .int v2]) ++ List.replicate (4 - (lg_sl ([.ref v0, .int v1, .int v2])).length) Slot.unset).toArray = ls at hl ⊢
  have hl : lv_has ls 4 [(0, .ref v0), (1, .int v1), (2, .int v2)] := hl
  unfold f_Mo_dropWaiter at h
  refine lv_aload_n hx hb d_Mo_dropWaiter_0 rfl (lv_at hl 0 rfl) ?_
  obtain ⟨x8, e8, h⟩ := ob h
  refine mr_gR C hW k_Mo_26 e8 d_Mo_dropWaiter_1 ?_
  refine lv_iload_n hx hb d_Mo_dropWaiter_4 rfl (lv_at hl 1 rfl) ?_
  refine lv_dup2_11 hx hb d_Mo_dropWaiter_5 rfl rfl ?_
  obtain ⟨x9, e9, h⟩ := ob h
  refine mr_aI C hW e9 d_Mo_dropWaiter_6 ?_
  refine lv_iconst (v := 1) hx hb d_Mo_dropWaiter_7 (by decide) ?_
  refine lv_isub hx hb d_Mo_dropWaiter_8 ?_
  obtain ⟨M10, e10, h⟩ := ob h
  refine mr_sI C hW hS e10 d_Mo_dropWaiter_9 (fun H locs hW hS => ?_)
  refine lv_bipush (v := 100) hx hb d_Mo_dropWaiter_10 (by decide) ?_
  refine lv_iload_n hx hb d_Mo_dropWaiter_12 rfl (lv_at hl 1 rfl) ?_
  refine lv_imul hx hb d_Mo_dropWaiter_13 ?_
  refine lv_iload_n hx hb d_Mo_dropWaiter_14 rfl (lv_at hl 2 rfl) ?_
  refine lv_iadd hx hb d_Mo_dropWaiter_15 ?_
  refine lv_istore_n (lv' := [(3, .int ((100 * v1) + v2)), (0, .ref v0), (1, .int v1), (2, .int v2)]) hx hb d_Mo_dropWaiter_16 rfl hl (by decide) rfl (fun ls hl => ?_)
  exact w_Mo_dropWaiter_b17 C FU _ _ _ _ _ _ _ h hW hS (lv_sub hl [1, 2, 0] rfl)
def f_Mo_admit (v0 : Nat) (v1 : Int32) (M : mm) : Option (Int32 × mm) :=
    (gR 1 7 M v0).bind fun x1 =>
    (aI M x1 v1).bind fun x2 =>
    if x2 = 0 then
      some ((-10), M)
    else
      (gR 1 5 M v0).bind fun x4 =>
      (aI M x4 v1).bind fun x5 =>
      (gR 1 3 M v0).bind fun x6 =>
      (aI M x6 v1).bind fun x7 =>
      if x5 < x7 then
        (gR 1 8 M v0).bind fun x9 =>
        (aI M x9 (100 * v1)).bind fun x10 =>
        (kO 1 M v0).bind fun _ =>
        (f_Mo_dropWaiter v0 v1 0 M).bind fun (_, M11) =>
        (kO 1 M11 v0).bind fun _ =>
        (f_Mo_enter v0 v1 x10 M11).bind fun (_, M13) =>
        some (x10, M13)
      else
        some ((-10), M)
set_option maxHeartbeats 4000000 in
set_option maxRecDepth 100000 in
theorem c_Mo_admit (l : Launch) (D : va_G) (dA : Nat → ClassId) (M0 M' : mm) (r : Int32) (v0 : Nat) (v1 : Int32) (h : f_Mo_admit v0 v1 M0 = some (r, M')) : Met l y_Mo_admit w_Mo_admit rm_Mo_admit (mm_Pre D dA M0 [.ref v0, .int v1]) (mm_QI D dA M0 r M') 0 0 (mm_A M0) := by
  refine Met.ofW (cc := b_Mo_admit) (maxL := 3) (ret := (some .int)) (by decide) rfl ?_
  intro p e s m args below meth c s₁ B hml hv
  obtain ⟨rfl, hW, hK⟩ := hv
  have C : mm_C p s m _ meth c b_Mo_admit 3 (some .int) R_Mo D dA (mm_A M0) := ⟨B.exec, B.bytes, B.returns, hml, findClass_of_methodNamed B.named, fun w hw => atoms_spec (ws := w_Mo_admit) B.pre w (List.mem_cons_of_mem _ hw), B.notSynchronized, hK, fun q hq => Or.inr (by rw [← hW.1]; exact hq)⟩
  have hS : va_S (mm_A M0) s.heap s.heap [] := va_S.rf
  obtain ⟨hx, hb, hr, hml, hown, hts, hlocks, hK, hA⟩ := id C
  have hl := lv_entry ([.ref v0, .int v1]) (n := 3) (Nat.le_of_ble_eq_true rfl)
  rw [lg_entry_eq]
  generalize (lg_sl ([.ref v0, .int v1]) ++ List.replicate (3 - (lg_sl ([.ref v0, .int v1])).length) Slot.unset).toArray = ls at hl ⊢
  have hl : lv_has ls 3 [(0, .ref v0), (1, .int v1)] := hl
  unfold f_Mo_admit at h
  refine lv_aload_n hx hb d_Mo_admit_0 rfl (lv_at hl 0 rfl) ?_
  obtain ⟨x1, e1, h⟩ := ob h
  refine mr_gR C hW k_Mo_26 e1 d_Mo_admit_1 ?_
  refine lv_iload_n hx hb d_Mo_admit_4 rfl (lv_at hl 1 rfl) ?_
  obtain ⟨x2, e2, h⟩ := ob h
  refine mr_aI C hW e2 d_Mo_admit_5 ?_
  refine lv_if_eq (tgt := 24) hx hb d_Mo_admit_6 (by decide) (fun c3 => ?_) (fun c3 => ?_)
  · have h := ifp h c3
    refine lv_bipush (v := (-10)) hx hb d_Mo_admit_24 (by decide) ?_
    exact mr_iret C hW hS (Nat.le_of_ble_eq_true rfl) (Nat.le_of_ble_eq_true rfl) h d_Mo_admit_26
  · have h := ifn h c3
    refine lv_aload_n hx hb d_Mo_admit_9 rfl (lv_at hl 0 rfl) ?_
    obtain ⟨x4, e4, h⟩ := ob h
    refine mr_gR C hW k_Mo_20 e4 d_Mo_admit_10 ?_
    refine lv_iload_n hx hb d_Mo_admit_13 rfl (lv_at hl 1 rfl) ?_
    obtain ⟨x5, e5, h⟩ := ob h
    refine mr_aI C hW e5 d_Mo_admit_14 ?_
    refine lv_aload_n hx hb d_Mo_admit_15 rfl (lv_at hl 0 rfl) ?_
    obtain ⟨x6, e6, h⟩ := ob h
    refine mr_gR C hW k_Mo_13 e6 d_Mo_admit_16 ?_
    refine lv_iload_n hx hb d_Mo_admit_19 rfl (lv_at hl 1 rfl) ?_
    obtain ⟨x7, e7, h⟩ := ob h
    refine mr_aI C hW e7 d_Mo_admit_20 ?_
    refine lv_icmp_lt (tgt := 27) hx hb d_Mo_admit_21 (by decide) (fun c8 => ?_) (fun c8 => ?_)
    · have h := ifp h c8
      refine lv_aload_n hx hb d_Mo_admit_27 rfl (lv_at hl 0 rfl) ?_
      obtain ⟨x9, e9, h⟩ := ob h
      refine mr_gR C hW k_Mo_29 e9 d_Mo_admit_28 ?_
      refine lv_bipush (v := 100) hx hb d_Mo_admit_31 (by decide) ?_
      refine lv_iload_n hx hb d_Mo_admit_33 rfl (lv_at hl 1 rfl) ?_
      refine lv_imul hx hb d_Mo_admit_34 ?_
      obtain ⟨x10, e10, h⟩ := ob h
      refine mr_aI C hW e10 d_Mo_admit_35 ?_
      refine lv_istore_n (lv' := [(2, .int x10), (0, .ref v0), (1, .int v1)]) hx hb d_Mo_admit_36 rfl hl (by decide) rfl (fun ls hl => ?_)
      refine lv_aload_n hx hb d_Mo_admit_37 rfl (lv_at hl 1 rfl) ?_
      refine lv_iload_n hx hb d_Mo_admit_38 rfl (lv_at hl 2 rfl) ?_
      refine lv_iconst (v := 0) hx hb d_Mo_admit_39 (by decide) ?_
      obtain ⟨_, e12, h⟩ := ob h
      obtain ⟨⟨u11, M11⟩, e11, h⟩ := ob h
      refine mr_cv C hW hS (va_runV (As := [.int v1, .int 0]) (rest := []) ⟨hx, hb, hml, hown, hts⟩ (c_Mo_dropWaiter l D dA _ _ _ v0 v1 0 e11) (cwV 2 hts (mg_V q_289 q_290 q_291 q_292 q_267) rfl rfl rfl (by decide +kernel) ⟨Nat.le_of_ble_eq_true rfl, Nat.le_of_ble_eq_true rfl⟩) (mr_preV C hW (ci := 1) rfl e12) rfl rfl hl.1 rfl (lv_room (Nat.le_of_ble_eq_true rfl)) d_Mo_admit_40 ⟨Nat.le_of_ble_eq_true rfl, Nat.le_of_ble_eq_true rfl⟩) (fun H locs hW hS => ?_)
      refine lv_aload_n hx hb d_Mo_admit_43 rfl (lv_at hl 1 rfl) ?_
      refine lv_iload_n hx hb d_Mo_admit_44 rfl (lv_at hl 2 rfl) ?_
      refine lv_iload_n hx hb d_Mo_admit_45 rfl (lv_at hl 0 rfl) ?_
      obtain ⟨_, e14, h⟩ := ob h
      obtain ⟨⟨u13, M13⟩, e13, h⟩ := ob h
      refine mr_cv C hW hS (va_runV (As := [.int v1, .int x10]) (rest := []) ⟨hx, hb, hml, hown, hts⟩ (c_Mo_enter l D dA _ _ _ v0 v1 x10 e13) (cwV 2 hts (mg_V q_293 q_294 q_295 q_296 q_267) rfl rfl rfl (by decide +kernel) ⟨Nat.le_of_ble_eq_true rfl, Nat.le_of_ble_eq_true rfl⟩) (mr_preV C hW (ci := 1) rfl e14) rfl rfl hl.1 rfl (lv_room (Nat.le_of_ble_eq_true rfl)) d_Mo_admit_46 ⟨Nat.le_of_ble_eq_true rfl, Nat.le_of_ble_eq_true rfl⟩) (fun H locs hW hS => ?_)
      refine lv_iload_n hx hb d_Mo_admit_49 rfl (lv_at hl 0 rfl) ?_
      exact mr_iret C hW hS (Nat.le_of_ble_eq_true rfl) (Nat.le_of_ble_eq_true rfl) h d_Mo_admit_50
    · have h := ifn h c8
      refine lv_bipush (v := (-10)) hx hb d_Mo_admit_24 (by decide) ?_
      exact mr_iret C hW hS (Nat.le_of_ble_eq_true rfl) (Nat.le_of_ble_eq_true rfl) h d_Mo_admit_26
def f_Mo_room_b37 : Nat → Nat → Int32 → Int32 → mm → Option (Int32 × mm)
  | 0, _, _, _, _ => none
  | n + 1, v0, v1, v3, M =>
    (kO 1 M v0).bind fun _ =>
    (f_Mo_admit v0 v1 M).bind fun (x1, M1) =>
    if x1 < 0 then
      some (v3, M1)
    else
      f_Mo_room_b37 n v0 v1 (v3 + 1) M1
def f_Mo_room (v0 : Nat) (v1 : Int32) (v2 : Int32) (M : mm) : Option (Int32 × mm) :=
    (pF 1 0 (.int 0) M v0).bind fun M4 =>
    (kO 1 M4 v0).bind fun _ =>
    (f_Mo_isPack v0 v1 M4).bind fun (x5, M5) =>
    if x5 = 0 then
      some ((-1), M5)
    else
      (f_Mo_in1 v2 0 100 M5).bind fun (x8, M8) =>
      if x8 = 0 then
        some ((-2), M8)
      else
        (gR 1 3 M8 v0).bind fun x10 =>
        (sI v2 M8 x10 v1).bind fun M11 =>
        f_Mo_room_b37 FU v0 v1 0 M11
set_option maxHeartbeats 4000000 in
set_option maxRecDepth 100000 in
theorem w_Mo_room_b37 {p : Program} {l : Launch} {e : Env} {s : State} {m : MethodId} {args : Array Value} {below : List Frame} {meth : Method} {c : Code} {D : va_G} {dA : Nat → ClassId} {M0 M' : mm} {r : Int32} (C : mm_C p s m args meth c b_Mo_room 4 (some .int) R_Mo D dA (mm_A M0)) : ∀ (n : Nat), ∀ (v0 : Nat) (v1 : Int32) (v3 : Int32) (M : mm) (H : Heap) (locs : List Loc) (ls : Array Slot), f_Mo_room_b37 n v0 v1 v3 M = some (r, M') → mm_W D dA (mm_A M0) M H → va_S (mm_A M0) s.heap H locs → lv_has ls 4 [(0, .ref v0), (1, .int v1), (3, .int v3)] → W p l e rm_Mo_room s m args below meth c H locs 0 0 (MQ below (mm_QI D dA M0 r M') args s 0 0 (mm_A M0)) (F0 m 37 ls []) := by
  obtain ⟨hx, hb, hr, hml, hown, hts, hlocks, hK, hA⟩ := id C
  intro n
  induction n with
  | zero =>
    intro v0 v1 v3 M H locs ls h hW hS hl
    unfold f_Mo_room_b37 at h
    cases h
  | succ n ih =>
    intro v0 v1 v3 M H locs ls h hW hS hl
    unfold f_Mo_room_b37 at h
    refine lv_aload_n hx hb d_Mo_room_37 rfl (lv_at hl 0 rfl) ?_
    refine lv_iload_n hx hb d_Mo_room_38 rfl (lv_at hl 1 rfl) ?_
    obtain ⟨_, e2, h⟩ := ob h
    obtain ⟨⟨x1, M1⟩, e1, h⟩ := ob h
    refine mr_ci C hW hS (va_runV (As := [.int v1]) (rest := []) ⟨hx, hb, hml, hown, hts⟩ (c_Mo_admit l D dA _ _ _ v0 v1 e1) (cwV 1 hts (mg_V q_297 q_298 q_299 q_300 q_267) rfl rfl rfl (by decide +kernel) ⟨Nat.le_of_ble_eq_true rfl, Nat.le_of_ble_eq_true rfl⟩) (mr_preV C hW (ci := 1) rfl e2) rfl rfl hl.1 rfl (lv_room (Nat.le_of_ble_eq_true rfl)) d_Mo_room_39 ⟨Nat.le_of_ble_eq_true rfl, Nat.le_of_ble_eq_true rfl⟩) (fun H locs hW hS => ?_)
    refine lv_if_lt (tgt := 51) hx hb d_Mo_room_42 (by decide) (fun c3 => ?_) (fun c3 => ?_)
    · have h := ifp h c3
      refine lv_iload_n hx hb d_Mo_room_51 rfl (lv_at hl 2 rfl) ?_
      exact mr_iret C hW hS (Nat.le_of_ble_eq_true rfl) (Nat.le_of_ble_eq_true rfl) h d_Mo_room_52
    · have h := ifn h c3
      refine lv_iinc (v := v3 + 1) (lv' := [(3, .int (v3 + 1)), (0, .ref v0), (1, .int v1)]) hx hb d_Mo_room_45 hl (k := 2) rfl rfl (by decide) rfl (fun ls hl => ?_)
      refine lv_goto (tgt := 37) hx hb d_Mo_room_48 (by decide) ?_
      exact ih _ _ _ _ _ _ _ h hW hS (lv_sub hl [1, 2, 0] rfl)
set_option maxHeartbeats 4000000 in
set_option maxRecDepth 100000 in
theorem c_Mo_room (l : Launch) (D : va_G) (dA : Nat → ClassId) (M0 M' : mm) (r : Int32) (v0 : Nat) (v1 : Int32) (v2 : Int32) (h : f_Mo_room v0 v1 v2 M0 = some (r, M')) : Met l y_Mo_room w_Mo_room rm_Mo_room (mm_Pre D dA M0 [.ref v0, .int v1, .int v2]) (mm_QI D dA M0 r M') 0 0 (mm_A M0) := by
  refine Met.ofW (cc := b_Mo_room) (maxL := 4) (ret := (some .int)) (by decide) rfl ?_
  intro p e s m args below meth c s₁ B hml hv
  obtain ⟨rfl, hW, hK⟩ := hv
  have C : mm_C p s m _ meth c b_Mo_room 4 (some .int) R_Mo D dA (mm_A M0) := ⟨B.exec, B.bytes, B.returns, hml, findClass_of_methodNamed B.named, fun w hw => atoms_spec (ws := w_Mo_room) B.pre w (List.mem_cons_of_mem _ hw), B.notSynchronized, hK, fun q hq => Or.inr (by rw [← hW.1]; exact hq)⟩
  have hS : va_S (mm_A M0) s.heap s.heap [] := va_S.rf
  obtain ⟨hx, hb, hr, hml, hown, hts, hlocks, hK, hA⟩ := id C
  have hl := lv_entry ([.ref v0, .int v1, .int v2]) (n := 4) (Nat.le_of_ble_eq_true rfl)
  rw [lg_entry_eq]
  generalize (lg_sl ([.ref v0, .int v1, .int v2]) ++ List.replicate (4 - (lg_sl ([.ref v0, .int v1, .int v2])).length) Slot.unset).toArray = ls at hl ⊢
  have hl : lv_has ls 4 [(0, .ref v0), (1, .int v1), (2, .int v2)] := hl
  unfold f_Mo_room at h
  refine lv_aload_n hx hb d_Mo_room_0 rfl (lv_at hl 0 rfl) ?_
  refine lv_iconst (v := 0) hx hb d_Mo_room_1 (by decide) ?_
  obtain ⟨M4, e4, h⟩ := ob h
  refine mr_put C hW hS kp_Mo_90 rfl rfl e4 d_Mo_room_2 (fun H locs hW hS => ?_)
  refine lv_aload_n hx hb d_Mo_room_5 rfl (lv_at hl 0 rfl) ?_
  refine lv_iload_n hx hb d_Mo_room_6 rfl (lv_at hl 1 rfl) ?_
  obtain ⟨_, e6, h⟩ := ob h
  obtain ⟨⟨x5, M5⟩, e5, h⟩ := ob h
  refine mr_ci C hW hS (va_runV (As := [.int v1]) (rest := []) ⟨hx, hb, hml, hown, hts⟩ (c_Mo_isPack l D dA _ _ _ v0 v1 e5) (cwV 1 hts (mg_V q_272 q_273 q_274 q_275 q_267) rfl rfl rfl (by decide +kernel) ⟨Nat.le_of_ble_eq_true rfl, Nat.le_of_ble_eq_true rfl⟩) (mr_preV C hW (ci := 1) rfl e6) rfl rfl hl.1 rfl (lv_room (Nat.le_of_ble_eq_true rfl)) d_Mo_room_7 ⟨Nat.le_of_ble_eq_true rfl, Nat.le_of_ble_eq_true rfl⟩) (fun H locs hW hS => ?_)
  refine lv_if_ne (tgt := 15) hx hb d_Mo_room_10 (by decide) (fun c7 => ?_) (fun c7 => ?_)
  · have h := ifn h c7
    refine lv_iload_n hx hb d_Mo_room_15 rfl (lv_at hl 2 rfl) ?_
    refine lv_iconst (v := 0) hx hb d_Mo_room_16 (by decide) ?_
    refine lv_bipush (v := 100) hx hb d_Mo_room_17 (by decide) ?_
    obtain ⟨⟨x8, M8⟩, e8, h⟩ := ob h
    refine mr_ci C hW hS (va_runS (As := [.int v2, .int 0, .int 100]) (rest := []) ⟨hx, hb, hml, hown, hts⟩ (c_Mo_in1 l D dA _ _ _ v2 0 100 e8) (cwS 3 hts (mg_S q_264 q_265 q_266 q_267) rfl rfl rfl (by decide +kernel) ⟨Nat.le_of_ble_eq_true rfl, Nat.le_of_ble_eq_true rfl⟩) (mr_pre C hW) rfl rfl hl.1 rfl (lv_room (Nat.le_of_ble_eq_true rfl)) d_Mo_room_19 ⟨Nat.le_of_ble_eq_true rfl, Nat.le_of_ble_eq_true rfl⟩) (fun H locs hW hS => ?_)
    refine lv_if_ne (tgt := 28) hx hb d_Mo_room_22 (by decide) (fun c9 => ?_) (fun c9 => ?_)
    · have h := ifn h c9
      refine lv_aload_n hx hb d_Mo_room_28 rfl (lv_at hl 0 rfl) ?_
      obtain ⟨x10, e10, h⟩ := ob h
      refine mr_gR C hW k_Mo_13 e10 d_Mo_room_29 ?_
      refine lv_iload_n hx hb d_Mo_room_32 rfl (lv_at hl 1 rfl) ?_
      refine lv_iload_n hx hb d_Mo_room_33 rfl (lv_at hl 2 rfl) ?_
      obtain ⟨M11, e11, h⟩ := ob h
      refine mr_sI C hW hS e11 d_Mo_room_34 (fun H locs hW hS => ?_)
      refine lv_iconst (v := 0) hx hb d_Mo_room_35 (by decide) ?_
      refine lv_istore_n (lv' := [(3, .int 0), (0, .ref v0), (1, .int v1), (2, .int v2)]) hx hb d_Mo_room_36 rfl hl (by decide) rfl (fun ls hl => ?_)
      exact w_Mo_room_b37 C FU _ _ _ _ _ _ _ h hW hS (lv_sub hl [1, 2, 0] rfl)
    · have h := ifp h c9
      refine lv_bipush (v := (-2)) hx hb d_Mo_room_25 (by decide) ?_
      exact mr_iret C hW hS (Nat.le_of_ble_eq_true rfl) (Nat.le_of_ble_eq_true rfl) h d_Mo_room_27
  · have h := ifp h c7
    refine lv_iconst (v := (-1)) hx hb d_Mo_room_13 (by decide) ?_
    exact mr_iret C hW hS (Nat.le_of_ble_eq_true rfl) (Nat.le_of_ble_eq_true rfl) h d_Mo_room_14
def f_Mo_in (v0 : Nat) (v1 : Int32) (v2 : Int32) (M : mm) : Option (Int32 × mm) :=
    (pF 1 0 (.int 0) M v0).bind fun M1 =>
    (kO 1 M1 v0).bind fun _ =>
    (f_Mo_isPack v0 v1 M1).bind fun (x2, M2) =>
    if x2 = 0 then
      some ((-1), M2)
    else
      (f_Mo_in1 v2 0 99 M2).bind fun (x5, M5) =>
      if x5 = 0 then
        some ((-1), M5)
      else
        (kO 1 M5 v0).bind fun _ =>
        (f_Mo_placeIn v0 v1 v2 M5).bind fun (x7, M7) =>
        if 0 ≤ x7 then
          some ((-3), M7)
        else
          (kO 1 M7 v0).bind fun _ =>
          (f_Mo_placeWaiting v0 v1 v2 M7).bind fun (x10, M10) =>
          if x10 < 0 then
            (gR 1 5 M10 v0).bind fun x13 =>
            (aI M10 x13 v1).bind fun x14 =>
            (gR 1 3 M10 v0).bind fun x15 =>
            (aI M10 x15 v1).bind fun x16 =>
            if x16 ≤ x14 then
              (gR 1 8 M10 v0).bind fun x18 =>
              (gR 1 7 M10 v0).bind fun x19 =>
              (aI M10 x19 v1).bind fun x20 =>
              (sI v2 M10 x18 ((100 * v1) + x20)).bind fun M21 =>
              (gR 1 7 M21 v0).bind fun x22 =>
              (aI M21 x22 v1).bind fun x23 =>
              (sI (x23 + 1) M21 x22 v1).bind fun M24 =>
              some (0, M24)
            else
              (kO 1 M10 v0).bind fun _ =>
              (f_Mo_enter v0 v1 v2 M10).bind fun (_, M25) =>
              some (1, M25)
          else
            some ((-3), M10)
set_option maxHeartbeats 4000000 in
set_option maxRecDepth 100000 in
theorem c_Mo_in (l : Launch) (D : va_G) (dA : Nat → ClassId) (M0 M' : mm) (r : Int32) (v0 : Nat) (v1 : Int32) (v2 : Int32) (h : f_Mo_in v0 v1 v2 M0 = some (r, M')) : Met l y_Mo_in w_Mo_in rm_Mo_in (mm_Pre D dA M0 [.ref v0, .int v1, .int v2]) (mm_QI D dA M0 r M') 0 0 (mm_A M0) := by
  refine Met.ofW (cc := b_Mo_in) (maxL := 3) (ret := (some .int)) (by decide) rfl ?_
  intro p e s m args below meth c s₁ B hml hv
  obtain ⟨rfl, hW, hK⟩ := hv
  have C : mm_C p s m _ meth c b_Mo_in 3 (some .int) R_Mo D dA (mm_A M0) := ⟨B.exec, B.bytes, B.returns, hml, findClass_of_methodNamed B.named, fun w hw => atoms_spec (ws := w_Mo_in) B.pre w (List.mem_cons_of_mem _ hw), B.notSynchronized, hK, fun q hq => Or.inr (by rw [← hW.1]; exact hq)⟩
  have hS : va_S (mm_A M0) s.heap s.heap [] := va_S.rf
  obtain ⟨hx, hb, hr, hml, hown, hts, hlocks, hK, hA⟩ := id C
  have hl := lv_entry ([.ref v0, .int v1, .int v2]) (n := 3) (Nat.le_of_ble_eq_true rfl)
  rw [lg_entry_eq]
  generalize (lg_sl ([.ref v0, .int v1, .int v2]) ++ List.replicate (3 - (lg_sl ([.ref v0, .int v1, .int v2])).length) Slot.unset).toArray = ls at hl ⊢
  have hl : lv_has ls 3 [(0, .ref v0), (1, .int v1), (2, .int v2)] := hl
  unfold f_Mo_in at h
  refine lv_aload_n hx hb d_Mo_in_0 rfl (lv_at hl 0 rfl) ?_
  refine lv_iconst (v := 0) hx hb d_Mo_in_1 (by decide) ?_
  obtain ⟨M1, e1, h⟩ := ob h
  refine mr_put C hW hS kp_Mo_90 rfl rfl e1 d_Mo_in_2 (fun H locs hW hS => ?_)
  refine lv_aload_n hx hb d_Mo_in_5 rfl (lv_at hl 0 rfl) ?_
  refine lv_iload_n hx hb d_Mo_in_6 rfl (lv_at hl 1 rfl) ?_
  obtain ⟨_, e3, h⟩ := ob h
  obtain ⟨⟨x2, M2⟩, e2, h⟩ := ob h
  refine mr_ci C hW hS (va_runV (As := [.int v1]) (rest := []) ⟨hx, hb, hml, hown, hts⟩ (c_Mo_isPack l D dA _ _ _ v0 v1 e2) (cwV 1 hts (mg_V q_272 q_273 q_274 q_275 q_267) rfl rfl rfl (by decide +kernel) ⟨Nat.le_of_ble_eq_true rfl, Nat.le_of_ble_eq_true rfl⟩) (mr_preV C hW (ci := 1) rfl e3) rfl rfl hl.1 rfl (lv_room (Nat.le_of_ble_eq_true rfl)) d_Mo_in_7 ⟨Nat.le_of_ble_eq_true rfl, Nat.le_of_ble_eq_true rfl⟩) (fun H locs hW hS => ?_)
  refine lv_if_eq (tgt := 23) hx hb d_Mo_in_10 (by decide) (fun c4 => ?_) (fun c4 => ?_)
  · have h := ifp h c4
    refine lv_iconst (v := (-1)) hx hb d_Mo_in_23 (by decide) ?_
    exact mr_iret C hW hS (Nat.le_of_ble_eq_true rfl) (Nat.le_of_ble_eq_true rfl) h d_Mo_in_24
  · have h := ifn h c4
    refine lv_iload_n hx hb d_Mo_in_13 rfl (lv_at hl 2 rfl) ?_
    refine lv_iconst (v := 0) hx hb d_Mo_in_14 (by decide) ?_
    refine lv_bipush (v := 99) hx hb d_Mo_in_15 (by decide) ?_
    obtain ⟨⟨x5, M5⟩, e5, h⟩ := ob h
    refine mr_ci C hW hS (va_runS (As := [.int v2, .int 0, .int 99]) (rest := []) ⟨hx, hb, hml, hown, hts⟩ (c_Mo_in1 l D dA _ _ _ v2 0 99 e5) (cwS 3 hts (mg_S q_264 q_265 q_266 q_267) rfl rfl rfl (by decide +kernel) ⟨Nat.le_of_ble_eq_true rfl, Nat.le_of_ble_eq_true rfl⟩) (mr_pre C hW) rfl rfl hl.1 rfl (lv_room (Nat.le_of_ble_eq_true rfl)) d_Mo_in_17 ⟨Nat.le_of_ble_eq_true rfl, Nat.le_of_ble_eq_true rfl⟩) (fun H locs hW hS => ?_)
    refine lv_if_ne (tgt := 25) hx hb d_Mo_in_20 (by decide) (fun c6 => ?_) (fun c6 => ?_)
    · have h := ifn h c6
      refine lv_aload_n hx hb d_Mo_in_25 rfl (lv_at hl 0 rfl) ?_
      refine lv_iload_n hx hb d_Mo_in_26 rfl (lv_at hl 1 rfl) ?_
      refine lv_iload_n hx hb d_Mo_in_27 rfl (lv_at hl 2 rfl) ?_
      obtain ⟨_, e8, h⟩ := ob h
      obtain ⟨⟨x7, M7⟩, e7, h⟩ := ob h
      refine mr_ci C hW hS (va_runV (As := [.int v1, .int v2]) (rest := []) ⟨hx, hb, hml, hown, hts⟩ (c_Mo_placeIn l D dA _ _ _ v0 v1 v2 e7) (cwV 2 hts (mg_V q_301 q_302 q_303 q_304 q_267) rfl rfl rfl (by decide +kernel) ⟨Nat.le_of_ble_eq_true rfl, Nat.le_of_ble_eq_true rfl⟩) (mr_preV C hW (ci := 1) rfl e8) rfl rfl hl.1 rfl (lv_room (Nat.le_of_ble_eq_true rfl)) d_Mo_in_28 ⟨Nat.le_of_ble_eq_true rfl, Nat.le_of_ble_eq_true rfl⟩) (fun H locs hW hS => ?_)
      refine lv_if_ge (tgt := 43) hx hb d_Mo_in_31 (by decide) (fun c9 => ?_) (fun c9 => ?_)
      · have h := ifp h c9
        refine lv_bipush (v := (-3)) hx hb d_Mo_in_43 (by decide) ?_
        exact mr_iret C hW hS (Nat.le_of_ble_eq_true rfl) (Nat.le_of_ble_eq_true rfl) h d_Mo_in_45
      · have h := ifn h c9
        refine lv_aload_n hx hb d_Mo_in_34 rfl (lv_at hl 0 rfl) ?_
        refine lv_iload_n hx hb d_Mo_in_35 rfl (lv_at hl 1 rfl) ?_
        refine lv_iload_n hx hb d_Mo_in_36 rfl (lv_at hl 2 rfl) ?_
        obtain ⟨_, e11, h⟩ := ob h
        obtain ⟨⟨x10, M10⟩, e10, h⟩ := ob h
        refine mr_ci C hW hS (va_runV (As := [.int v1, .int v2]) (rest := []) ⟨hx, hb, hml, hown, hts⟩ (c_Mo_placeWaiting l D dA _ _ _ v0 v1 v2 e10) (cwV 2 hts (mg_V q_305 q_306 q_307 q_308 q_267) rfl rfl rfl (by decide +kernel) ⟨Nat.le_of_ble_eq_true rfl, Nat.le_of_ble_eq_true rfl⟩) (mr_preV C hW (ci := 1) rfl e11) rfl rfl hl.1 rfl (lv_room (Nat.le_of_ble_eq_true rfl)) d_Mo_in_37 ⟨Nat.le_of_ble_eq_true rfl, Nat.le_of_ble_eq_true rfl⟩) (fun H locs hW hS => ?_)
        refine lv_if_lt (tgt := 46) hx hb d_Mo_in_40 (by decide) (fun c12 => ?_) (fun c12 => ?_)
        · have h := ifp h c12
          refine lv_aload_n hx hb d_Mo_in_46 rfl (lv_at hl 0 rfl) ?_
          obtain ⟨x13, e13, h⟩ := ob h
          refine mr_gR C hW k_Mo_20 e13 d_Mo_in_47 ?_
          refine lv_iload_n hx hb d_Mo_in_50 rfl (lv_at hl 1 rfl) ?_
          obtain ⟨x14, e14, h⟩ := ob h
          refine mr_aI C hW e14 d_Mo_in_51 ?_
          refine lv_aload_n hx hb d_Mo_in_52 rfl (lv_at hl 0 rfl) ?_
          obtain ⟨x15, e15, h⟩ := ob h
          refine mr_gR C hW k_Mo_13 e15 d_Mo_in_53 ?_
          refine lv_iload_n hx hb d_Mo_in_56 rfl (lv_at hl 1 rfl) ?_
          obtain ⟨x16, e16, h⟩ := ob h
          refine mr_aI C hW e16 d_Mo_in_57 ?_
          refine lv_icmp_ge (tgt := 69) hx hb d_Mo_in_58 (by decide) (fun c17 => ?_) (fun c17 => ?_)
          · have h := ifp h c17
            refine lv_aload_n hx hb d_Mo_in_69 rfl (lv_at hl 0 rfl) ?_
            obtain ⟨x18, e18, h⟩ := ob h
            refine mr_gR C hW k_Mo_29 e18 d_Mo_in_70 ?_
            refine lv_bipush (v := 100) hx hb d_Mo_in_73 (by decide) ?_
            refine lv_iload_n hx hb d_Mo_in_75 rfl (lv_at hl 1 rfl) ?_
            refine lv_imul hx hb d_Mo_in_76 ?_
            refine lv_aload_n hx hb d_Mo_in_77 rfl (lv_at hl 0 rfl) ?_
            obtain ⟨x19, e19, h⟩ := ob h
            refine mr_gR C hW k_Mo_26 e19 d_Mo_in_78 ?_
            refine lv_iload_n hx hb d_Mo_in_81 rfl (lv_at hl 1 rfl) ?_
            obtain ⟨x20, e20, h⟩ := ob h
            refine mr_aI C hW e20 d_Mo_in_82 ?_
            refine lv_iadd hx hb d_Mo_in_83 ?_
            refine lv_iload_n hx hb d_Mo_in_84 rfl (lv_at hl 2 rfl) ?_
            obtain ⟨M21, e21, h⟩ := ob h
            refine mr_sI C hW hS e21 d_Mo_in_85 (fun H locs hW hS => ?_)
            refine lv_aload_n hx hb d_Mo_in_86 rfl (lv_at hl 0 rfl) ?_
            obtain ⟨x22, e22, h⟩ := ob h
            refine mr_gR C hW k_Mo_26 e22 d_Mo_in_87 ?_
            refine lv_iload_n hx hb d_Mo_in_90 rfl (lv_at hl 1 rfl) ?_
            refine lv_dup2_11 hx hb d_Mo_in_91 rfl rfl ?_
            obtain ⟨x23, e23, h⟩ := ob h
            refine mr_aI C hW e23 d_Mo_in_92 ?_
            refine lv_iconst (v := 1) hx hb d_Mo_in_93 (by decide) ?_
            refine lv_iadd hx hb d_Mo_in_94 ?_
            obtain ⟨M24, e24, h⟩ := ob h
            refine mr_sI C hW hS e24 d_Mo_in_95 (fun H locs hW hS => ?_)
            refine lv_iconst (v := 0) hx hb d_Mo_in_96 (by decide) ?_
            exact mr_iret C hW hS (Nat.le_of_ble_eq_true rfl) (Nat.le_of_ble_eq_true rfl) h d_Mo_in_97
          · have h := ifn h c17
            refine lv_aload_n hx hb d_Mo_in_61 rfl (lv_at hl 0 rfl) ?_
            refine lv_iload_n hx hb d_Mo_in_62 rfl (lv_at hl 1 rfl) ?_
            refine lv_iload_n hx hb d_Mo_in_63 rfl (lv_at hl 2 rfl) ?_
            obtain ⟨_, e26, h⟩ := ob h
            obtain ⟨⟨u25, M25⟩, e25, h⟩ := ob h
            refine mr_cv C hW hS (va_runV (As := [.int v1, .int v2]) (rest := []) ⟨hx, hb, hml, hown, hts⟩ (c_Mo_enter l D dA _ _ _ v0 v1 v2 e25) (cwV 2 hts (mg_V q_293 q_294 q_295 q_296 q_267) rfl rfl rfl (by decide +kernel) ⟨Nat.le_of_ble_eq_true rfl, Nat.le_of_ble_eq_true rfl⟩) (mr_preV C hW (ci := 1) rfl e26) rfl rfl hl.1 rfl (lv_room (Nat.le_of_ble_eq_true rfl)) d_Mo_in_64 ⟨Nat.le_of_ble_eq_true rfl, Nat.le_of_ble_eq_true rfl⟩) (fun H locs hW hS => ?_)
            refine lv_iconst (v := 1) hx hb d_Mo_in_67 (by decide) ?_
            exact mr_iret C hW hS (Nat.le_of_ble_eq_true rfl) (Nat.le_of_ble_eq_true rfl) h d_Mo_in_68
        · have h := ifn h c12
          refine lv_bipush (v := (-3)) hx hb d_Mo_in_43 (by decide) ?_
          exact mr_iret C hW hS (Nat.le_of_ble_eq_true rfl) (Nat.le_of_ble_eq_true rfl) h d_Mo_in_45
    · have h := ifp h c6
      refine lv_iconst (v := (-1)) hx hb d_Mo_in_23 (by decide) ?_
      exact mr_iret C hW hS (Nat.le_of_ble_eq_true rfl) (Nat.le_of_ble_eq_true rfl) h d_Mo_in_24
def f_Mo_out_b80 : Nat → Nat → Int32 → Int32 → mm → Option (Int32 × mm)
  | 0, _, _, _, _ => none
  | n + 1, v0, v1, v5, M =>
    (gR 1 5 M v0).bind fun x1 =>
    (aI M x1 v1).bind fun x2 =>
    if ((100 * v1) + x2) ≤ v5 then
      (kO 1 M v0).bind fun _ =>
      (f_Mo_admit v0 v1 M).bind fun (x4, M4) =>
      some (x4, M4)
    else
      (gR 1 6 M v0).bind fun x6 =>
      (gR 1 6 M v0).bind fun x7 =>
      (aI M x7 (v5 + 1)).bind fun x8 =>
      (sI x8 M x6 v5).bind fun M9 =>
      f_Mo_out_b80 n v0 v1 (v5 + 1) M9
def f_Mo_out (v0 : Nat) (v1 : Int32) (v2 : Int32) (M : mm) : Option (Int32 × mm) :=
    (pF 1 0 (.int 0) M v0).bind fun M10 =>
    (kO 1 M10 v0).bind fun _ =>
    (f_Mo_isPack v0 v1 M10).bind fun (x11, M11) =>
    if x11 = 0 then
      some ((-1), M11)
    else
      (f_Mo_in1 v2 0 99 M11).bind fun (x14, M14) =>
      if x14 = 0 then
        some ((-1), M14)
      else
        (kO 1 M14 v0).bind fun _ =>
        (f_Mo_placeWaiting v0 v1 v2 M14).bind fun (x16, M16) =>
        if x16 < 0 then
          (kO 1 M16 v0).bind fun _ =>
          (f_Mo_placeIn v0 v1 v2 M16).bind fun (x19, M19) =>
          if 0 ≤ x19 then
            (gR 1 5 M19 v0).bind fun x22 =>
            (aI M19 x22 v1).bind fun x23 =>
            (sI (x23 - 1) M19 x22 v1).bind fun M24 =>
            f_Mo_out_b80 FU v0 v1 ((100 * v1) + x19) M24
          else
            some ((-3), M19)
        else
          (kO 1 M16 v0).bind fun _ =>
          (f_Mo_dropWaiter v0 v1 x16 M16).bind fun (_, M25) =>
          some ((-10), M25)
set_option maxHeartbeats 4000000 in
set_option maxRecDepth 100000 in
theorem w_Mo_out_b80 {p : Program} {l : Launch} {e : Env} {s : State} {m : MethodId} {args : Array Value} {below : List Frame} {meth : Method} {c : Code} {D : va_G} {dA : Nat → ClassId} {M0 M' : mm} {r : Int32} (C : mm_C p s m args meth c b_Mo_out 6 (some .int) R_Mo D dA (mm_A M0)) : ∀ (n : Nat), ∀ (v0 : Nat) (v1 : Int32) (v5 : Int32) (M : mm) (H : Heap) (locs : List Loc) (ls : Array Slot), f_Mo_out_b80 n v0 v1 v5 M = some (r, M') → mm_W D dA (mm_A M0) M H → va_S (mm_A M0) s.heap H locs → lv_has ls 6 [(0, .ref v0), (1, .int v1), (5, .int v5)] → W p l e rm_Mo_out s m args below meth c H locs 0 0 (MQ below (mm_QI D dA M0 r M') args s 0 0 (mm_A M0)) (F0 m 80 ls []) := by
  obtain ⟨hx, hb, hr, hml, hown, hts, hlocks, hK, hA⟩ := id C
  intro n
  induction n with
  | zero =>
    intro v0 v1 v5 M H locs ls h hW hS hl
    unfold f_Mo_out_b80 at h
    cases h
  | succ n ih =>
    intro v0 v1 v5 M H locs ls h hW hS hl
    unfold f_Mo_out_b80 at h
    refine lv_iload hx hb d_Mo_out_80 (lv_at hl 2 rfl) ?_
    refine lv_bipush (v := 100) hx hb d_Mo_out_82 (by decide) ?_
    refine lv_iload_n hx hb d_Mo_out_84 rfl (lv_at hl 1 rfl) ?_
    refine lv_imul hx hb d_Mo_out_85 ?_
    refine lv_aload_n hx hb d_Mo_out_86 rfl (lv_at hl 0 rfl) ?_
    obtain ⟨x1, e1, h⟩ := ob h
    refine mr_gR C hW k_Mo_20 e1 d_Mo_out_87 ?_
    refine lv_iload_n hx hb d_Mo_out_90 rfl (lv_at hl 1 rfl) ?_
    obtain ⟨x2, e2, h⟩ := ob h
    refine mr_aI C hW e2 d_Mo_out_91 ?_
    refine lv_iadd hx hb d_Mo_out_92 ?_
    refine lv_icmp_ge (tgt := 118) hx hb d_Mo_out_93 (by decide) (fun c3 => ?_) (fun c3 => ?_)
    · have h := ifp h c3
      refine lv_aload_n hx hb d_Mo_out_118 rfl (lv_at hl 0 rfl) ?_
      refine lv_iload_n hx hb d_Mo_out_119 rfl (lv_at hl 1 rfl) ?_
      obtain ⟨_, e5, h⟩ := ob h
      obtain ⟨⟨x4, M4⟩, e4, h⟩ := ob h
      refine mr_ci C hW hS (va_runV (As := [.int v1]) (rest := []) ⟨hx, hb, hml, hown, hts⟩ (c_Mo_admit l D dA _ _ _ v0 v1 e4) (cwV 1 hts (mg_V q_297 q_298 q_299 q_300 q_267) rfl rfl rfl (by decide +kernel) ⟨Nat.le_of_ble_eq_true rfl, Nat.le_of_ble_eq_true rfl⟩) (mr_preV C hW (ci := 1) rfl e5) rfl rfl hl.1 rfl (lv_room (Nat.le_of_ble_eq_true rfl)) d_Mo_out_120 ⟨Nat.le_of_ble_eq_true rfl, Nat.le_of_ble_eq_true rfl⟩) (fun H locs hW hS => ?_)
      exact mr_iret C hW hS (Nat.le_of_ble_eq_true rfl) (Nat.le_of_ble_eq_true rfl) h d_Mo_out_123
    · have h := ifn h c3
      refine lv_aload_n hx hb d_Mo_out_96 rfl (lv_at hl 0 rfl) ?_
      obtain ⟨x6, e6, h⟩ := ob h
      refine mr_gR C hW k_Mo_23 e6 d_Mo_out_97 ?_
      refine lv_iload hx hb d_Mo_out_100 (lv_at hl 2 rfl) ?_
      refine lv_aload_n hx hb d_Mo_out_102 rfl (lv_at hl 0 rfl) ?_
      obtain ⟨x7, e7, h⟩ := ob h
      refine mr_gR C hW k_Mo_23 e7 d_Mo_out_103 ?_
      refine lv_iload hx hb d_Mo_out_106 (lv_at hl 2 rfl) ?_
      refine lv_iconst (v := 1) hx hb d_Mo_out_108 (by decide) ?_
      refine lv_iadd hx hb d_Mo_out_109 ?_
      obtain ⟨x8, e8, h⟩ := ob h
      refine mr_aI C hW e8 d_Mo_out_110 ?_
      obtain ⟨M9, e9, h⟩ := ob h
      refine mr_sI C hW hS e9 d_Mo_out_111 (fun H locs hW hS => ?_)
      refine lv_iinc (v := v5 + 1) (lv' := [(5, .int (v5 + 1)), (0, .ref v0), (1, .int v1)]) hx hb d_Mo_out_112 hl (k := 2) rfl rfl (by decide) rfl (fun ls hl => ?_)
      refine lv_goto (tgt := 80) hx hb d_Mo_out_115 (by decide) ?_
      exact ih _ _ _ _ _ _ _ h hW hS (lv_sub hl [1, 2, 0] rfl)
set_option maxHeartbeats 4000000 in
set_option maxRecDepth 100000 in
theorem c_Mo_out (l : Launch) (D : va_G) (dA : Nat → ClassId) (M0 M' : mm) (r : Int32) (v0 : Nat) (v1 : Int32) (v2 : Int32) (h : f_Mo_out v0 v1 v2 M0 = some (r, M')) : Met l y_Mo_out w_Mo_out rm_Mo_out (mm_Pre D dA M0 [.ref v0, .int v1, .int v2]) (mm_QI D dA M0 r M') 0 0 (mm_A M0) := by
  refine Met.ofW (cc := b_Mo_out) (maxL := 6) (ret := (some .int)) (by decide) rfl ?_
  intro p e s m args below meth c s₁ B hml hv
  obtain ⟨rfl, hW, hK⟩ := hv
  have C : mm_C p s m _ meth c b_Mo_out 6 (some .int) R_Mo D dA (mm_A M0) := ⟨B.exec, B.bytes, B.returns, hml, findClass_of_methodNamed B.named, fun w hw => atoms_spec (ws := w_Mo_out) B.pre w (List.mem_cons_of_mem _ hw), B.notSynchronized, hK, fun q hq => Or.inr (by rw [← hW.1]; exact hq)⟩
  have hS : va_S (mm_A M0) s.heap s.heap [] := va_S.rf
  obtain ⟨hx, hb, hr, hml, hown, hts, hlocks, hK, hA⟩ := id C
  have hl := lv_entry ([.ref v0, .int v1, .int v2]) (n := 6) (Nat.le_of_ble_eq_true rfl)
  rw [lg_entry_eq]
  generalize (lg_sl ([.ref v0, .int v1, .int v2]) ++ List.replicate (6 - (lg_sl ([.ref v0, .int v1, .int v2])).length) Slot.unset).toArray = ls at hl ⊢
  have hl : lv_has ls 6 [(0, .ref v0), (1, .int v1), (2, .int v2)] := hl
  unfold f_Mo_out at h
  refine lv_aload_n hx hb d_Mo_out_0 rfl (lv_at hl 0 rfl) ?_
  refine lv_iconst (v := 0) hx hb d_Mo_out_1 (by decide) ?_
  obtain ⟨M10, e10, h⟩ := ob h
  refine mr_put C hW hS kp_Mo_90 rfl rfl e10 d_Mo_out_2 (fun H locs hW hS => ?_)
  refine lv_aload_n hx hb d_Mo_out_5 rfl (lv_at hl 0 rfl) ?_
  refine lv_iload_n hx hb d_Mo_out_6 rfl (lv_at hl 1 rfl) ?_
  obtain ⟨_, e12, h⟩ := ob h
  obtain ⟨⟨x11, M11⟩, e11, h⟩ := ob h
  refine mr_ci C hW hS (va_runV (As := [.int v1]) (rest := []) ⟨hx, hb, hml, hown, hts⟩ (c_Mo_isPack l D dA _ _ _ v0 v1 e11) (cwV 1 hts (mg_V q_272 q_273 q_274 q_275 q_267) rfl rfl rfl (by decide +kernel) ⟨Nat.le_of_ble_eq_true rfl, Nat.le_of_ble_eq_true rfl⟩) (mr_preV C hW (ci := 1) rfl e12) rfl rfl hl.1 rfl (lv_room (Nat.le_of_ble_eq_true rfl)) d_Mo_out_7 ⟨Nat.le_of_ble_eq_true rfl, Nat.le_of_ble_eq_true rfl⟩) (fun H locs hW hS => ?_)
  refine lv_if_eq (tgt := 23) hx hb d_Mo_out_10 (by decide) (fun c13 => ?_) (fun c13 => ?_)
  · have h := ifp h c13
    refine lv_iconst (v := (-1)) hx hb d_Mo_out_23 (by decide) ?_
    exact mr_iret C hW hS (Nat.le_of_ble_eq_true rfl) (Nat.le_of_ble_eq_true rfl) h d_Mo_out_24
  · have h := ifn h c13
    refine lv_iload_n hx hb d_Mo_out_13 rfl (lv_at hl 2 rfl) ?_
    refine lv_iconst (v := 0) hx hb d_Mo_out_14 (by decide) ?_
    refine lv_bipush (v := 99) hx hb d_Mo_out_15 (by decide) ?_
    obtain ⟨⟨x14, M14⟩, e14, h⟩ := ob h
    refine mr_ci C hW hS (va_runS (As := [.int v2, .int 0, .int 99]) (rest := []) ⟨hx, hb, hml, hown, hts⟩ (c_Mo_in1 l D dA _ _ _ v2 0 99 e14) (cwS 3 hts (mg_S q_264 q_265 q_266 q_267) rfl rfl rfl (by decide +kernel) ⟨Nat.le_of_ble_eq_true rfl, Nat.le_of_ble_eq_true rfl⟩) (mr_pre C hW) rfl rfl hl.1 rfl (lv_room (Nat.le_of_ble_eq_true rfl)) d_Mo_out_17 ⟨Nat.le_of_ble_eq_true rfl, Nat.le_of_ble_eq_true rfl⟩) (fun H locs hW hS => ?_)
    refine lv_if_ne (tgt := 25) hx hb d_Mo_out_20 (by decide) (fun c15 => ?_) (fun c15 => ?_)
    · have h := ifn h c15
      refine lv_aload_n hx hb d_Mo_out_25 rfl (lv_at hl 0 rfl) ?_
      refine lv_iload_n hx hb d_Mo_out_26 rfl (lv_at hl 1 rfl) ?_
      refine lv_iload_n hx hb d_Mo_out_27 rfl (lv_at hl 2 rfl) ?_
      obtain ⟨_, e17, h⟩ := ob h
      obtain ⟨⟨x16, M16⟩, e16, h⟩ := ob h
      refine mr_ci C hW hS (va_runV (As := [.int v1, .int v2]) (rest := []) ⟨hx, hb, hml, hown, hts⟩ (c_Mo_placeWaiting l D dA _ _ _ v0 v1 v2 e16) (cwV 2 hts (mg_V q_305 q_306 q_307 q_308 q_267) rfl rfl rfl (by decide +kernel) ⟨Nat.le_of_ble_eq_true rfl, Nat.le_of_ble_eq_true rfl⟩) (mr_preV C hW (ci := 1) rfl e17) rfl rfl hl.1 rfl (lv_room (Nat.le_of_ble_eq_true rfl)) d_Mo_out_28 ⟨Nat.le_of_ble_eq_true rfl, Nat.le_of_ble_eq_true rfl⟩) (fun H locs hW hS => ?_)
      refine lv_istore_n (lv' := [(3, .int x16), (0, .ref v0), (1, .int v1), (2, .int v2)]) hx hb d_Mo_out_31 rfl hl (by decide) rfl (fun ls hl => ?_)
      refine lv_iload_n hx hb d_Mo_out_32 rfl (lv_at hl 0 rfl) ?_
      refine lv_if_lt (tgt := 45) hx hb d_Mo_out_33 (by decide) (fun c18 => ?_) (fun c18 => ?_)
      · have h := ifp h c18
        refine lv_aload_n hx hb d_Mo_out_45 rfl (lv_at hl 1 rfl) ?_
        refine lv_iload_n hx hb d_Mo_out_46 rfl (lv_at hl 2 rfl) ?_
        refine lv_iload_n hx hb d_Mo_out_47 rfl (lv_at hl 3 rfl) ?_
        obtain ⟨_, e20, h⟩ := ob h
        obtain ⟨⟨x19, M19⟩, e19, h⟩ := ob h
        refine mr_ci C hW hS (va_runV (As := [.int v1, .int v2]) (rest := []) ⟨hx, hb, hml, hown, hts⟩ (c_Mo_placeIn l D dA _ _ _ v0 v1 v2 e19) (cwV 2 hts (mg_V q_301 q_302 q_303 q_304 q_267) rfl rfl rfl (by decide +kernel) ⟨Nat.le_of_ble_eq_true rfl, Nat.le_of_ble_eq_true rfl⟩) (mr_preV C hW (ci := 1) rfl e20) rfl rfl hl.1 rfl (lv_room (Nat.le_of_ble_eq_true rfl)) d_Mo_out_48 ⟨Nat.le_of_ble_eq_true rfl, Nat.le_of_ble_eq_true rfl⟩) (fun H locs hW hS => ?_)
        refine lv_istore (lv' := [(4, .int x19), (3, .int x16), (0, .ref v0), (1, .int v1), (2, .int v2)]) hx hb d_Mo_out_51 hl (by decide) rfl (fun ls hl => ?_)
        refine lv_iload hx hb d_Mo_out_53 (lv_at hl 0 rfl) ?_
        refine lv_if_ge (tgt := 61) hx hb d_Mo_out_55 (by decide) (fun c21 => ?_) (fun c21 => ?_)
        · have h := ifp h c21
          refine lv_aload_n hx hb d_Mo_out_61 rfl (lv_at hl 2 rfl) ?_
          obtain ⟨x22, e22, h⟩ := ob h
          refine mr_gR C hW k_Mo_20 e22 d_Mo_out_62 ?_
          refine lv_iload_n hx hb d_Mo_out_65 rfl (lv_at hl 3 rfl) ?_
          refine lv_dup2_11 hx hb d_Mo_out_66 rfl rfl ?_
          obtain ⟨x23, e23, h⟩ := ob h
          refine mr_aI C hW e23 d_Mo_out_67 ?_
          refine lv_iconst (v := 1) hx hb d_Mo_out_68 (by decide) ?_
          refine lv_isub hx hb d_Mo_out_69 ?_
          obtain ⟨M24, e24, h⟩ := ob h
          refine mr_sI C hW hS e24 d_Mo_out_70 (fun H locs hW hS => ?_)
          refine lv_bipush (v := 100) hx hb d_Mo_out_71 (by decide) ?_
          refine lv_iload_n hx hb d_Mo_out_73 rfl (lv_at hl 3 rfl) ?_
          refine lv_imul hx hb d_Mo_out_74 ?_
          refine lv_iload hx hb d_Mo_out_75 (lv_at hl 0 rfl) ?_
          refine lv_iadd hx hb d_Mo_out_77 ?_
          refine lv_istore (lv' := [(5, .int ((100 * v1) + x19)), (4, .int x19), (3, .int x16), (0, .ref v0), (1, .int v1), (2, .int v2)]) hx hb d_Mo_out_78 hl (by decide) rfl (fun ls hl => ?_)
          exact w_Mo_out_b80 C FU _ _ _ _ _ _ _ h hW hS (lv_sub hl [3, 4, 0] rfl)
        · have h := ifn h c21
          refine lv_bipush (v := (-3)) hx hb d_Mo_out_58 (by decide) ?_
          exact mr_iret C hW hS (Nat.le_of_ble_eq_true rfl) (Nat.le_of_ble_eq_true rfl) h d_Mo_out_60
      · have h := ifn h c18
        refine lv_aload_n hx hb d_Mo_out_36 rfl (lv_at hl 1 rfl) ?_
        refine lv_iload_n hx hb d_Mo_out_37 rfl (lv_at hl 2 rfl) ?_
        refine lv_iload_n hx hb d_Mo_out_38 rfl (lv_at hl 0 rfl) ?_
        obtain ⟨_, e26, h⟩ := ob h
        obtain ⟨⟨u25, M25⟩, e25, h⟩ := ob h
        refine mr_cv C hW hS (va_runV (As := [.int v1, .int x16]) (rest := []) ⟨hx, hb, hml, hown, hts⟩ (c_Mo_dropWaiter l D dA _ _ _ v0 v1 x16 e25) (cwV 2 hts (mg_V q_289 q_290 q_291 q_292 q_267) rfl rfl rfl (by decide +kernel) ⟨Nat.le_of_ble_eq_true rfl, Nat.le_of_ble_eq_true rfl⟩) (mr_preV C hW (ci := 1) rfl e26) rfl rfl hl.1 rfl (lv_room (Nat.le_of_ble_eq_true rfl)) d_Mo_out_39 ⟨Nat.le_of_ble_eq_true rfl, Nat.le_of_ble_eq_true rfl⟩) (fun H locs hW hS => ?_)
        refine lv_bipush (v := (-10)) hx hb d_Mo_out_42 (by decide) ?_
        exact mr_iret C hW hS (Nat.le_of_ble_eq_true rfl) (Nat.le_of_ble_eq_true rfl) h d_Mo_out_44
    · have h := ifp h c15
      refine lv_iconst (v := (-1)) hx hb d_Mo_out_23 (by decide) ?_
      exact mr_iret C hW hS (Nat.le_of_ble_eq_true rfl) (Nat.le_of_ble_eq_true rfl) h d_Mo_out_24
def f_Mo_covers_b54 (k8 : Nat → Int32 → Int32 → Int32 → Int32 → mm → Option (Int32 × mm)) : Nat → Int32 → Int32 → Int32 → Int32 → mm → Option (Int32 × mm) := fun v0 v1 v2 v4 t0 M =>
    k8 v0 v1 v2 t0 (v4 + 1) M
def f_Mo_covers_b49 (k8 : Nat → Int32 → Int32 → Int32 → Int32 → mm → Option (Int32 × mm)) : Nat → Int32 → Int32 → Int32 → mm → Option (Int32 × mm) := fun v0 v1 v2 v4 M =>
    f_Mo_covers_b54 k8 v0 v1 v2 v4 1 M
def f_Mo_covers_b8 : Nat → Nat → Int32 → Int32 → Int32 → Int32 → mm → Option (Int32 × mm)
  | 0, _, _, _, _, _, _ => none
  | n + 1, v0, v1, v2, v3, v4, M =>
    (gR 1 14 M v0).bind fun x1 =>
    (aI M x1 v1).bind fun x2 =>
    if ((10 * v1) + x2) ≤ v4 then
      (kB v3).bind fun _ =>
      some (v3, M)
    else
      if v3 = 0 then
        (gR 1 15 M v0).bind fun x6 =>
        (aI M x6 v4).bind fun x7 =>
        (gR 1 16 M v0).bind fun x8 =>
        (aI M x8 v4).bind fun x9 =>
        (f_Mo_in1 v2 x7 x9 M).bind fun (x10, M10) =>
        if x10 = 0 then
          f_Mo_covers_b54 (f_Mo_covers_b8 n) v0 v1 v2 v4 0 M10
        else
          f_Mo_covers_b49 (f_Mo_covers_b8 n) v0 v1 v2 v4 M10
      else
        f_Mo_covers_b49 (f_Mo_covers_b8 n) v0 v1 v2 v4 M
def f_Mo_covers (v0 : Nat) (v1 : Int32) (v2 : Int32) (M : mm) : Option (Int32 × mm) :=
    f_Mo_covers_b8 FU v0 v1 v2 0 (10 * v1) M
set_option maxHeartbeats 4000000 in
set_option maxRecDepth 100000 in
theorem w_Mo_covers_b54 {p : Program} {l : Launch} {e : Env} {s : State} {m : MethodId} {args : Array Value} {below : List Frame} {meth : Method} {c : Code} {D : va_G} {dA : Nat → ClassId} {M0 M' : mm} {r : Int32} (C : mm_C p s m args meth c b_Mo_covers 5 (some .boolean) R_Mo D dA (mm_A M0)) {k8 : Nat → Int32 → Int32 → Int32 → Int32 → mm → Option (Int32 × mm)} (hk8 : ∀ (v0 : Nat) (v1 : Int32) (v2 : Int32) (v3 : Int32) (v4 : Int32) (M : mm) (H : Heap) (locs : List Loc) (ls : Array Slot), k8 v0 v1 v2 v3 v4 M = some (r, M') → mm_W D dA (mm_A M0) M H → va_S (mm_A M0) s.heap H locs → lv_has ls 5 [(0, .ref v0), (1, .int v1), (2, .int v2), (3, .int v3), (4, .int v4)] → W p l e rm_Mo_covers s m args below meth c H locs 0 0 (MQ below (mm_QI D dA M0 r M') args s 0 0 (mm_A M0)) (F0 m 8 ls [])) : ∀ (v0 : Nat) (v1 : Int32) (v2 : Int32) (v4 : Int32) (t0 : Int32) (M : mm) (H : Heap) (locs : List Loc) (ls : Array Slot), f_Mo_covers_b54 k8 v0 v1 v2 v4 t0 M = some (r, M') → mm_W D dA (mm_A M0) M H → va_S (mm_A M0) s.heap H locs → lv_has ls 5 [(0, .ref v0), (1, .int v1), (2, .int v2), (4, .int v4)] → W p l e rm_Mo_covers s m args below meth c H locs 0 0 (MQ below (mm_QI D dA M0 r M') args s 0 0 (mm_A M0)) (F0 m 54 ls [.int t0]) := by
  obtain ⟨hx, hb, hr, hml, hown, hts, hlocks, hK, hA⟩ := id C
  intro v0 v1 v2 v4 t0 M H locs ls h hW hS hl
  unfold f_Mo_covers_b54 at h
  refine lv_istore_n (lv' := [(3, .int t0), (0, .ref v0), (1, .int v1), (2, .int v2), (4, .int v4)]) hx hb d_Mo_covers_54 rfl hl (by decide) rfl (fun ls hl => ?_)
  refine lv_iinc (v := v4 + 1) (lv' := [(4, .int (v4 + 1)), (3, .int t0), (0, .ref v0), (1, .int v1), (2, .int v2)]) hx hb d_Mo_covers_55 hl (k := 4) rfl rfl (by decide) rfl (fun ls hl => ?_)
  refine lv_goto (tgt := 8) hx hb d_Mo_covers_58 (by decide) ?_
  exact hk8 _ _ _ _ _ _ _ _ _ h hW hS (lv_sub hl [2, 3, 4, 1, 0] rfl)
set_option maxHeartbeats 4000000 in
set_option maxRecDepth 100000 in
theorem w_Mo_covers_b49 {p : Program} {l : Launch} {e : Env} {s : State} {m : MethodId} {args : Array Value} {below : List Frame} {meth : Method} {c : Code} {D : va_G} {dA : Nat → ClassId} {M0 M' : mm} {r : Int32} (C : mm_C p s m args meth c b_Mo_covers 5 (some .boolean) R_Mo D dA (mm_A M0)) {k8 : Nat → Int32 → Int32 → Int32 → Int32 → mm → Option (Int32 × mm)} (hk8 : ∀ (v0 : Nat) (v1 : Int32) (v2 : Int32) (v3 : Int32) (v4 : Int32) (M : mm) (H : Heap) (locs : List Loc) (ls : Array Slot), k8 v0 v1 v2 v3 v4 M = some (r, M') → mm_W D dA (mm_A M0) M H → va_S (mm_A M0) s.heap H locs → lv_has ls 5 [(0, .ref v0), (1, .int v1), (2, .int v2), (3, .int v3), (4, .int v4)] → W p l e rm_Mo_covers s m args below meth c H locs 0 0 (MQ below (mm_QI D dA M0 r M') args s 0 0 (mm_A M0)) (F0 m 8 ls [])) : ∀ (v0 : Nat) (v1 : Int32) (v2 : Int32) (v4 : Int32) (M : mm) (H : Heap) (locs : List Loc) (ls : Array Slot), f_Mo_covers_b49 k8 v0 v1 v2 v4 M = some (r, M') → mm_W D dA (mm_A M0) M H → va_S (mm_A M0) s.heap H locs → lv_has ls 5 [(0, .ref v0), (1, .int v1), (2, .int v2), (4, .int v4)] → W p l e rm_Mo_covers s m args below meth c H locs 0 0 (MQ below (mm_QI D dA M0 r M') args s 0 0 (mm_A M0)) (F0 m 49 ls []) := by
  obtain ⟨hx, hb, hr, hml, hown, hts, hlocks, hK, hA⟩ := id C
  intro v0 v1 v2 v4 M H locs ls h hW hS hl
  unfold f_Mo_covers_b49 at h
  refine lv_iconst (v := 1) hx hb d_Mo_covers_49 (by decide) ?_
  refine lv_goto (tgt := 54) hx hb d_Mo_covers_50 (by decide) ?_
  exact w_Mo_covers_b54 C hk8 _ _ _ _ _ _ _ _ _ h hW hS (lv_sub hl [0, 1, 2, 3] rfl)
set_option maxHeartbeats 4000000 in
set_option maxRecDepth 100000 in
theorem w_Mo_covers_b8 {p : Program} {l : Launch} {e : Env} {s : State} {m : MethodId} {args : Array Value} {below : List Frame} {meth : Method} {c : Code} {D : va_G} {dA : Nat → ClassId} {M0 M' : mm} {r : Int32} (C : mm_C p s m args meth c b_Mo_covers 5 (some .boolean) R_Mo D dA (mm_A M0)) : ∀ (n : Nat), ∀ (v0 : Nat) (v1 : Int32) (v2 : Int32) (v3 : Int32) (v4 : Int32) (M : mm) (H : Heap) (locs : List Loc) (ls : Array Slot), f_Mo_covers_b8 n v0 v1 v2 v3 v4 M = some (r, M') → mm_W D dA (mm_A M0) M H → va_S (mm_A M0) s.heap H locs → lv_has ls 5 [(0, .ref v0), (1, .int v1), (2, .int v2), (3, .int v3), (4, .int v4)] → W p l e rm_Mo_covers s m args below meth c H locs 0 0 (MQ below (mm_QI D dA M0 r M') args s 0 0 (mm_A M0)) (F0 m 8 ls []) := by
  obtain ⟨hx, hb, hr, hml, hown, hts, hlocks, hK, hA⟩ := id C
  intro n
  induction n with
  | zero =>
    intro v0 v1 v2 v3 v4 M H locs ls h hW hS hl
    unfold f_Mo_covers_b8 at h
    cases h
  | succ n ih =>
    intro v0 v1 v2 v3 v4 M H locs ls h hW hS hl
    unfold f_Mo_covers_b8 at h
    refine lv_iload hx hb d_Mo_covers_8 (lv_at hl 4 rfl) ?_
    refine lv_bipush (v := 10) hx hb d_Mo_covers_10 (by decide) ?_
    refine lv_iload_n hx hb d_Mo_covers_12 rfl (lv_at hl 1 rfl) ?_
    refine lv_imul hx hb d_Mo_covers_13 ?_
    refine lv_aload_n hx hb d_Mo_covers_14 rfl (lv_at hl 0 rfl) ?_
    obtain ⟨x1, e1, h⟩ := ob h
    refine mr_gR C hW k_Mo_44 e1 d_Mo_covers_15 ?_
    refine lv_iload_n hx hb d_Mo_covers_18 rfl (lv_at hl 1 rfl) ?_
    obtain ⟨x2, e2, h⟩ := ob h
    refine mr_aI C hW e2 d_Mo_covers_19 ?_
    refine lv_iadd hx hb d_Mo_covers_20 ?_
    refine lv_icmp_ge (tgt := 61) hx hb d_Mo_covers_21 (by decide) (fun c3 => ?_) (fun c3 => ?_)
    · have h := ifp h c3
      refine lv_iload_n hx hb d_Mo_covers_61 rfl (lv_at hl 3 rfl) ?_
      obtain ⟨_, e4, h⟩ := ob h
      exact mr_zret C hW hS (Nat.le_of_ble_eq_true rfl) (Nat.le_of_ble_eq_true rfl) e4 h d_Mo_covers_62
    · have h := ifn h c3
      refine lv_iload_n hx hb d_Mo_covers_24 rfl (lv_at hl 3 rfl) ?_
      refine lv_if_ne (tgt := 49) hx hb d_Mo_covers_25 (by decide) (fun c5 => ?_) (fun c5 => ?_)
      · have h := ifn h c5
        exact w_Mo_covers_b49 C ih _ _ _ _ _ _ _ _ h hW hS (lv_sub hl [0, 1, 2, 4] rfl)
      · have h := ifp h c5
        refine lv_iload_n hx hb d_Mo_covers_28 rfl (lv_at hl 2 rfl) ?_
        refine lv_aload_n hx hb d_Mo_covers_29 rfl (lv_at hl 0 rfl) ?_
        obtain ⟨x6, e6, h⟩ := ob h
        refine mr_gR C hW k_Mo_47 e6 d_Mo_covers_30 ?_
        refine lv_iload hx hb d_Mo_covers_33 (lv_at hl 4 rfl) ?_
        obtain ⟨x7, e7, h⟩ := ob h
        refine mr_aI C hW e7 d_Mo_covers_35 ?_
        refine lv_aload_n hx hb d_Mo_covers_36 rfl (lv_at hl 0 rfl) ?_
        obtain ⟨x8, e8, h⟩ := ob h
        refine mr_gR C hW k_Mo_50 e8 d_Mo_covers_37 ?_
        refine lv_iload hx hb d_Mo_covers_40 (lv_at hl 4 rfl) ?_
        obtain ⟨x9, e9, h⟩ := ob h
        refine mr_aI C hW e9 d_Mo_covers_42 ?_
        obtain ⟨⟨x10, M10⟩, e10, h⟩ := ob h
        refine mr_ci C hW hS (va_runS (As := [.int v2, .int x7, .int x9]) (rest := []) ⟨hx, hb, hml, hown, hts⟩ (c_Mo_in1 l D dA _ _ _ v2 x7 x9 e10) (cwS 3 hts (mg_S q_264 q_265 q_266 q_267) rfl rfl rfl (by decide +kernel) ⟨Nat.le_of_ble_eq_true rfl, Nat.le_of_ble_eq_true rfl⟩) (mr_pre C hW) rfl rfl hl.1 rfl (lv_room (Nat.le_of_ble_eq_true rfl)) d_Mo_covers_43 ⟨Nat.le_of_ble_eq_true rfl, Nat.le_of_ble_eq_true rfl⟩) (fun H locs hW hS => ?_)
        refine lv_if_eq (tgt := 53) hx hb d_Mo_covers_46 (by decide) (fun c11 => ?_) (fun c11 => ?_)
        · have h := ifp h c11
          refine lv_iconst (v := 0) hx hb d_Mo_covers_53 (by decide) ?_
          exact w_Mo_covers_b54 C ih _ _ _ _ _ _ _ _ _ h hW hS (lv_sub hl [0, 1, 2, 4] rfl)
        · have h := ifn h c11
          exact w_Mo_covers_b49 C ih _ _ _ _ _ _ _ _ h hW hS (lv_sub hl [0, 1, 2, 4] rfl)
set_option maxHeartbeats 4000000 in
set_option maxRecDepth 100000 in
theorem c_Mo_covers (l : Launch) (D : va_G) (dA : Nat → ClassId) (M0 M' : mm) (r : Int32) (v0 : Nat) (v1 : Int32) (v2 : Int32) (h : f_Mo_covers v0 v1 v2 M0 = some (r, M')) : Met l y_Mo_covers w_Mo_covers rm_Mo_covers (mm_Pre D dA M0 [.ref v0, .int v1, .int v2]) (mm_QI D dA M0 r M') 0 0 (mm_A M0) := by
  refine Met.ofW (cc := b_Mo_covers) (maxL := 5) (ret := (some .boolean)) (by decide) rfl ?_
  intro p e s m args below meth c s₁ B hml hv
  obtain ⟨rfl, hW, hK⟩ := hv
  have C : mm_C p s m _ meth c b_Mo_covers 5 (some .boolean) R_Mo D dA (mm_A M0) := ⟨B.exec, B.bytes, B.returns, hml, findClass_of_methodNamed B.named, fun w hw => atoms_spec (ws := w_Mo_covers) B.pre w (List.mem_cons_of_mem _ hw), B.notSynchronized, hK, fun q hq => Or.inr (by rw [← hW.1]; exact hq)⟩
  have hS : va_S (mm_A M0) s.heap s.heap [] := va_S.rf
  obtain ⟨hx, hb, hr, hml, hown, hts, hlocks, hK, hA⟩ := id C
  have hl := lv_entry ([.ref v0, .int v1, .int v2]) (n := 5) (Nat.le_of_ble_eq_true rfl)
  rw [lg_entry_eq]
  generalize (lg_sl ([.ref v0, .int v1, .int v2]) ++ List.replicate (5 - (lg_sl ([.ref v0, .int v1, .int v2])).length) Slot.unset).toArray = ls at hl ⊢
  have hl : lv_has ls 5 [(0, .ref v0), (1, .int v1), (2, .int v2)] := hl
  unfold f_Mo_covers at h
  refine lv_iconst (v := 0) hx hb d_Mo_covers_0 (by decide) ?_
  refine lv_istore_n (lv' := [(3, .int 0), (0, .ref v0), (1, .int v1), (2, .int v2)]) hx hb d_Mo_covers_1 rfl hl (by decide) rfl (fun ls hl => ?_)
  refine lv_bipush (v := 10) hx hb d_Mo_covers_2 (by decide) ?_
  refine lv_iload_n hx hb d_Mo_covers_4 rfl (lv_at hl 2 rfl) ?_
  refine lv_imul hx hb d_Mo_covers_5 ?_
  refine lv_istore (lv' := [(4, .int (10 * v1)), (3, .int 0), (0, .ref v0), (1, .int v1), (2, .int v2)]) hx hb d_Mo_covers_6 hl (by decide) rfl (fun ls hl => ?_)
  exact w_Mo_covers_b8 C FU _ _ _ _ _ _ _ _ _ h hW hS (lv_sub hl [2, 3, 4, 1, 0] rfl)
def f_Mo_usagesOf_b42 (k5 : Nat → Int32 → Int32 → Int32 → Int32 → mm → Option (Int32 × mm)) : Nat → Int32 → Int32 → Int32 → Int32 → Int32 → mm → Option (Int32 × mm) := fun v0 v1 v2 v4 t0 t1 M =>
    k5 v0 v1 v2 (t1 + t0) (v4 + 1) M
def f_Mo_usagesOf_b41 (k5 : Nat → Int32 → Int32 → Int32 → Int32 → mm → Option (Int32 × mm)) : Nat → Int32 → Int32 → Int32 → Int32 → mm → Option (Int32 × mm) := fun v0 v1 v2 v4 t0 M =>
    f_Mo_usagesOf_b42 k5 v0 v1 v2 v4 0 t0 M
def f_Mo_usagesOf_b5 : Nat → Nat → Int32 → Int32 → Int32 → Int32 → mm → Option (Int32 × mm)
  | 0, _, _, _, _, _, _ => none
  | n + 1, v0, v1, v2, v3, v4, M =>
    (gI 1 25 M v0).bind fun x1 =>
    if x1 ≤ v4 then
      some (v3, M)
    else
      (gR 1 26 M v0).bind fun x3 =>
      (aI M x3 v4).bind fun x4 =>
      if x4 = v1 then
        (gR 1 28 M v0).bind fun x6 =>
        (aI M x6 v4).bind fun x7 =>
        if x7 = v2 then
          f_Mo_usagesOf_b42 (f_Mo_usagesOf_b5 n) v0 v1 v2 v4 1 v3 M
        else
          f_Mo_usagesOf_b41 (f_Mo_usagesOf_b5 n) v0 v1 v2 v4 v3 M
      else
        f_Mo_usagesOf_b41 (f_Mo_usagesOf_b5 n) v0 v1 v2 v4 v3 M
def f_Mo_usagesOf (v0 : Nat) (v1 : Int32) (v2 : Int32) (M : mm) : Option (Int32 × mm) :=
    f_Mo_usagesOf_b5 FU v0 v1 v2 0 0 M
set_option maxHeartbeats 4000000 in
set_option maxRecDepth 100000 in
theorem w_Mo_usagesOf_b42 {p : Program} {l : Launch} {e : Env} {s : State} {m : MethodId} {args : Array Value} {below : List Frame} {meth : Method} {c : Code} {D : va_G} {dA : Nat → ClassId} {M0 M' : mm} {r : Int32} (C : mm_C p s m args meth c b_Mo_usagesOf 5 (some .int) R_Mo D dA (mm_A M0)) {k5 : Nat → Int32 → Int32 → Int32 → Int32 → mm → Option (Int32 × mm)} (hk5 : ∀ (v0 : Nat) (v1 : Int32) (v2 : Int32) (v3 : Int32) (v4 : Int32) (M : mm) (H : Heap) (locs : List Loc) (ls : Array Slot), k5 v0 v1 v2 v3 v4 M = some (r, M') → mm_W D dA (mm_A M0) M H → va_S (mm_A M0) s.heap H locs → lv_has ls 5 [(0, .ref v0), (1, .int v1), (2, .int v2), (3, .int v3), (4, .int v4)] → W p l e rm_Mo_usagesOf s m args below meth c H locs 0 0 (MQ below (mm_QI D dA M0 r M') args s 0 0 (mm_A M0)) (F0 m 5 ls [])) : ∀ (v0 : Nat) (v1 : Int32) (v2 : Int32) (v4 : Int32) (t0 : Int32) (t1 : Int32) (M : mm) (H : Heap) (locs : List Loc) (ls : Array Slot), f_Mo_usagesOf_b42 k5 v0 v1 v2 v4 t0 t1 M = some (r, M') → mm_W D dA (mm_A M0) M H → va_S (mm_A M0) s.heap H locs → lv_has ls 5 [(0, .ref v0), (1, .int v1), (2, .int v2), (4, .int v4)] → W p l e rm_Mo_usagesOf s m args below meth c H locs 0 0 (MQ below (mm_QI D dA M0 r M') args s 0 0 (mm_A M0)) (F0 m 42 ls [.int t0, .int t1]) := by
  obtain ⟨hx, hb, hr, hml, hown, hts, hlocks, hK, hA⟩ := id C
  intro v0 v1 v2 v4 t0 t1 M H locs ls h hW hS hl
  unfold f_Mo_usagesOf_b42 at h
  refine lv_iadd hx hb d_Mo_usagesOf_42 ?_
  refine lv_istore_n (lv' := [(3, .int (t1 + t0)), (0, .ref v0), (1, .int v1), (2, .int v2), (4, .int v4)]) hx hb d_Mo_usagesOf_43 rfl hl (by decide) rfl (fun ls hl => ?_)
  refine lv_iinc (v := v4 + 1) (lv' := [(4, .int (v4 + 1)), (3, .int (t1 + t0)), (0, .ref v0), (1, .int v1), (2, .int v2)]) hx hb d_Mo_usagesOf_44 hl (k := 4) rfl rfl (by decide) rfl (fun ls hl => ?_)
  refine lv_goto (tgt := 5) hx hb d_Mo_usagesOf_47 (by decide) ?_
  exact hk5 _ _ _ _ _ _ _ _ _ h hW hS (lv_sub hl [2, 3, 4, 1, 0] rfl)
set_option maxHeartbeats 4000000 in
set_option maxRecDepth 100000 in
theorem w_Mo_usagesOf_b41 {p : Program} {l : Launch} {e : Env} {s : State} {m : MethodId} {args : Array Value} {below : List Frame} {meth : Method} {c : Code} {D : va_G} {dA : Nat → ClassId} {M0 M' : mm} {r : Int32} (C : mm_C p s m args meth c b_Mo_usagesOf 5 (some .int) R_Mo D dA (mm_A M0)) {k5 : Nat → Int32 → Int32 → Int32 → Int32 → mm → Option (Int32 × mm)} (hk5 : ∀ (v0 : Nat) (v1 : Int32) (v2 : Int32) (v3 : Int32) (v4 : Int32) (M : mm) (H : Heap) (locs : List Loc) (ls : Array Slot), k5 v0 v1 v2 v3 v4 M = some (r, M') → mm_W D dA (mm_A M0) M H → va_S (mm_A M0) s.heap H locs → lv_has ls 5 [(0, .ref v0), (1, .int v1), (2, .int v2), (3, .int v3), (4, .int v4)] → W p l e rm_Mo_usagesOf s m args below meth c H locs 0 0 (MQ below (mm_QI D dA M0 r M') args s 0 0 (mm_A M0)) (F0 m 5 ls [])) : ∀ (v0 : Nat) (v1 : Int32) (v2 : Int32) (v4 : Int32) (t0 : Int32) (M : mm) (H : Heap) (locs : List Loc) (ls : Array Slot), f_Mo_usagesOf_b41 k5 v0 v1 v2 v4 t0 M = some (r, M') → mm_W D dA (mm_A M0) M H → va_S (mm_A M0) s.heap H locs → lv_has ls 5 [(0, .ref v0), (1, .int v1), (2, .int v2), (4, .int v4)] → W p l e rm_Mo_usagesOf s m args below meth c H locs 0 0 (MQ below (mm_QI D dA M0 r M') args s 0 0 (mm_A M0)) (F0 m 41 ls [.int t0]) := by
  obtain ⟨hx, hb, hr, hml, hown, hts, hlocks, hK, hA⟩ := id C
  intro v0 v1 v2 v4 t0 M H locs ls h hW hS hl
  unfold f_Mo_usagesOf_b41 at h
  refine lv_iconst (v := 0) hx hb d_Mo_usagesOf_41 (by decide) ?_
  exact w_Mo_usagesOf_b42 C hk5 _ _ _ _ _ _ _ _ _ _ h hW hS (lv_sub hl [0, 1, 2, 3] rfl)
set_option maxHeartbeats 4000000 in
set_option maxRecDepth 100000 in
theorem w_Mo_usagesOf_b5 {p : Program} {l : Launch} {e : Env} {s : State} {m : MethodId} {args : Array Value} {below : List Frame} {meth : Method} {c : Code} {D : va_G} {dA : Nat → ClassId} {M0 M' : mm} {r : Int32} (C : mm_C p s m args meth c b_Mo_usagesOf 5 (some .int) R_Mo D dA (mm_A M0)) : ∀ (n : Nat), ∀ (v0 : Nat) (v1 : Int32) (v2 : Int32) (v3 : Int32) (v4 : Int32) (M : mm) (H : Heap) (locs : List Loc) (ls : Array Slot), f_Mo_usagesOf_b5 n v0 v1 v2 v3 v4 M = some (r, M') → mm_W D dA (mm_A M0) M H → va_S (mm_A M0) s.heap H locs → lv_has ls 5 [(0, .ref v0), (1, .int v1), (2, .int v2), (3, .int v3), (4, .int v4)] → W p l e rm_Mo_usagesOf s m args below meth c H locs 0 0 (MQ below (mm_QI D dA M0 r M') args s 0 0 (mm_A M0)) (F0 m 5 ls []) := by
  obtain ⟨hx, hb, hr, hml, hown, hts, hlocks, hK, hA⟩ := id C
  intro n
  induction n with
  | zero =>
    intro v0 v1 v2 v3 v4 M H locs ls h hW hS hl
    unfold f_Mo_usagesOf_b5 at h
    cases h
  | succ n ih =>
    intro v0 v1 v2 v3 v4 M H locs ls h hW hS hl
    unfold f_Mo_usagesOf_b5 at h
    refine lv_iload hx hb d_Mo_usagesOf_5 (lv_at hl 4 rfl) ?_
    refine lv_aload_n hx hb d_Mo_usagesOf_7 rfl (lv_at hl 0 rfl) ?_
    obtain ⟨x1, e1, h⟩ := ob h
    refine mr_gI C hW k_Mo_142 e1 d_Mo_usagesOf_8 ?_
    refine lv_icmp_ge (tgt := 50) hx hb d_Mo_usagesOf_11 (by decide) (fun c2 => ?_) (fun c2 => ?_)
    · have h := ifp h c2
      refine lv_iload_n hx hb d_Mo_usagesOf_50 rfl (lv_at hl 3 rfl) ?_
      exact mr_iret C hW hS (Nat.le_of_ble_eq_true rfl) (Nat.le_of_ble_eq_true rfl) h d_Mo_usagesOf_51
    · have h := ifn h c2
      refine lv_iload_n hx hb d_Mo_usagesOf_14 rfl (lv_at hl 3 rfl) ?_
      refine lv_aload_n hx hb d_Mo_usagesOf_15 rfl (lv_at hl 0 rfl) ?_
      obtain ⟨x3, e3, h⟩ := ob h
      refine mr_gR C hW k_Mo_75 e3 d_Mo_usagesOf_16 ?_
      refine lv_iload hx hb d_Mo_usagesOf_19 (lv_at hl 4 rfl) ?_
      obtain ⟨x4, e4, h⟩ := ob h
      refine mr_aI C hW e4 d_Mo_usagesOf_21 ?_
      refine lv_iload_n hx hb d_Mo_usagesOf_22 rfl (lv_at hl 1 rfl) ?_
      refine lv_icmp_ne (tgt := 41) hx hb d_Mo_usagesOf_23 (by decide) (fun c5 => ?_) (fun c5 => ?_)
      · have h := ifn h c5
        exact w_Mo_usagesOf_b41 C ih _ _ _ _ _ _ _ _ _ h hW hS (lv_sub hl [0, 1, 2, 4] rfl)
      · have h := ifp h c5
        refine lv_aload_n hx hb d_Mo_usagesOf_26 rfl (lv_at hl 0 rfl) ?_
        obtain ⟨x6, e6, h⟩ := ob h
        refine mr_gR C hW k_Mo_81 e6 d_Mo_usagesOf_27 ?_
        refine lv_iload hx hb d_Mo_usagesOf_30 (lv_at hl 4 rfl) ?_
        obtain ⟨x7, e7, h⟩ := ob h
        refine mr_aI C hW e7 d_Mo_usagesOf_32 ?_
        refine lv_iload_n hx hb d_Mo_usagesOf_33 rfl (lv_at hl 2 rfl) ?_
        refine lv_icmp_ne (tgt := 41) hx hb d_Mo_usagesOf_34 (by decide) (fun c8 => ?_) (fun c8 => ?_)
        · have h := ifn h c8
          exact w_Mo_usagesOf_b41 C ih _ _ _ _ _ _ _ _ _ h hW hS (lv_sub hl [0, 1, 2, 4] rfl)
        · have h := ifp h c8
          refine lv_iconst (v := 1) hx hb d_Mo_usagesOf_37 (by decide) ?_
          refine lv_goto (tgt := 42) hx hb d_Mo_usagesOf_38 (by decide) ?_
          exact w_Mo_usagesOf_b42 C ih _ _ _ _ _ _ _ _ _ _ h hW hS (lv_sub hl [0, 1, 2, 4] rfl)
set_option maxHeartbeats 4000000 in
set_option maxRecDepth 100000 in
theorem c_Mo_usagesOf (l : Launch) (D : va_G) (dA : Nat → ClassId) (M0 M' : mm) (r : Int32) (v0 : Nat) (v1 : Int32) (v2 : Int32) (h : f_Mo_usagesOf v0 v1 v2 M0 = some (r, M')) : Met l y_Mo_usagesOf w_Mo_usagesOf rm_Mo_usagesOf (mm_Pre D dA M0 [.ref v0, .int v1, .int v2]) (mm_QI D dA M0 r M') 0 0 (mm_A M0) := by
  refine Met.ofW (cc := b_Mo_usagesOf) (maxL := 5) (ret := (some .int)) (by decide) rfl ?_
  intro p e s m args below meth c s₁ B hml hv
  obtain ⟨rfl, hW, hK⟩ := hv
  have C : mm_C p s m _ meth c b_Mo_usagesOf 5 (some .int) R_Mo D dA (mm_A M0) := ⟨B.exec, B.bytes, B.returns, hml, findClass_of_methodNamed B.named, fun w hw => atoms_spec (ws := w_Mo_usagesOf) B.pre w (List.mem_cons_of_mem _ hw), B.notSynchronized, hK, fun q hq => Or.inr (by rw [← hW.1]; exact hq)⟩
  have hS : va_S (mm_A M0) s.heap s.heap [] := va_S.rf
  obtain ⟨hx, hb, hr, hml, hown, hts, hlocks, hK, hA⟩ := id C
  have hl := lv_entry ([.ref v0, .int v1, .int v2]) (n := 5) (Nat.le_of_ble_eq_true rfl)
  rw [lg_entry_eq]
  generalize (lg_sl ([.ref v0, .int v1, .int v2]) ++ List.replicate (5 - (lg_sl ([.ref v0, .int v1, .int v2])).length) Slot.unset).toArray = ls at hl ⊢
  have hl : lv_has ls 5 [(0, .ref v0), (1, .int v1), (2, .int v2)] := hl
  unfold f_Mo_usagesOf at h
  refine lv_iconst (v := 0) hx hb d_Mo_usagesOf_0 (by decide) ?_
  refine lv_istore_n (lv' := [(3, .int 0), (0, .ref v0), (1, .int v1), (2, .int v2)]) hx hb d_Mo_usagesOf_1 rfl hl (by decide) rfl (fun ls hl => ?_)
  refine lv_iconst (v := 0) hx hb d_Mo_usagesOf_2 (by decide) ?_
  refine lv_istore (lv' := [(4, .int 0), (3, .int 0), (0, .ref v0), (1, .int v1), (2, .int v2)]) hx hb d_Mo_usagesOf_3 hl (by decide) rfl (fun ls hl => ?_)
  exact w_Mo_usagesOf_b5 C FU _ _ _ _ _ _ _ _ _ h hW hS (lv_sub hl [2, 3, 4, 1, 0] rfl)
