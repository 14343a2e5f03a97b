theorem d_X_init_0 : decode b_X_init 0 = .ok (.aload_n 0, 1) := by decide +kernel
theorem d_X_init_1 : decode b_X_init 1 = .ok (.invokespecial 3, 3) := by decide +kernel
theorem d_X_init_4 : decode b_X_init 4 = .ok (.aload_n 0, 1) := by decide +kernel
theorem d_X_init_5 : decode b_X_init 5 = .ok (.bipush 20, 2) := by decide +kernel
theorem d_X_init_7 : decode b_X_init 7 = .ok (.anewarray 9, 3) := by decide +kernel
theorem d_X_init_10 : decode b_X_init 10 = .ok (.putfield 11, 3) := by decide +kernel
theorem d_X_init_13 : decode b_X_init 13 = .ok (.aload_n 0, 1) := by decide +kernel
theorem d_X_init_14 : decode b_X_init 14 = .ok (.iconst 0, 1) := by decide +kernel
theorem d_X_init_15 : decode b_X_init 15 = .ok (.putfield 15, 3) := by decide +kernel
theorem d_X_init_18 : decode b_X_init 18 = .ok (.aload_n 0, 1) := by decide +kernel
theorem d_X_init_19 : decode b_X_init 19 = .ok (.sipush 200, 3) := by decide +kernel
theorem d_X_init_22 : decode b_X_init 22 = .ok (.anewarray 19, 3) := by decide +kernel
theorem d_X_init_25 : decode b_X_init 25 = .ok (.putfield 21, 3) := by decide +kernel
theorem d_X_init_28 : decode b_X_init 28 = .ok (.aload_n 0, 1) := by decide +kernel
theorem d_X_init_29 : decode b_X_init 29 = .ok (.iconst 0, 1) := by decide +kernel
theorem d_X_init_30 : decode b_X_init 30 = .ok (.putfield 25, 3) := by decide +kernel
theorem d_X_init_33 : decode b_X_init 33 = .ok (.aload_n 0, 1) := by decide +kernel
theorem d_X_init_34 : decode b_X_init 34 = .ok (.bipush 100, 2) := by decide +kernel
theorem d_X_init_36 : decode b_X_init 36 = .ok (.anewarray 28, 3) := by decide +kernel
theorem d_X_init_39 : decode b_X_init 39 = .ok (.putfield 30, 3) := by decide +kernel
theorem d_X_init_42 : decode b_X_init 42 = .ok (.aload_n 0, 1) := by decide +kernel
theorem d_X_init_43 : decode b_X_init 43 = .ok (.iconst 0, 1) := by decide +kernel
theorem d_X_init_44 : decode b_X_init 44 = .ok (.putfield 34, 3) := by decide +kernel
theorem d_X_init_47 : decode b_X_init 47 = .ok (.aload_n 0, 1) := by decide +kernel
theorem d_X_init_48 : decode b_X_init 48 = .ok (.bipush 100, 2) := by decide +kernel
theorem d_X_init_50 : decode b_X_init 50 = .ok (.newarray .int, 2) := by decide +kernel
theorem d_X_init_52 : decode b_X_init 52 = .ok (.putfield 37, 3) := by decide +kernel
theorem d_X_init_55 : decode b_X_init 55 = .ok (.aload_n 0, 1) := by decide +kernel
theorem d_X_init_56 : decode b_X_init 56 = .ok (.new 41, 3) := by decide +kernel
theorem d_X_init_59 : decode b_X_init 59 = .ok (.dup, 1) := by decide +kernel
theorem d_X_init_60 : decode b_X_init 60 = .ok (.invokespecial 43, 3) := by decide +kernel
theorem d_X_init_63 : decode b_X_init 63 = .ok (.putfield 44, 3) := by decide +kernel
theorem d_X_init_66 : decode b_X_init 66 = .ok (.aload_n 0, 1) := by decide +kernel
theorem d_X_init_67 : decode b_X_init 67 = .ok (.new 48, 3) := by decide +kernel
theorem d_X_init_70 : decode b_X_init 70 = .ok (.dup, 1) := by decide +kernel
theorem d_X_init_71 : decode b_X_init 71 = .ok (.invokespecial 50, 3) := by decide +kernel
theorem d_X_init_74 : decode b_X_init 74 = .ok (.putfield 51, 3) := by decide +kernel
theorem d_X_init_77 : decode b_X_init 77 = .ok (.aload_n 0, 1) := by decide +kernel
theorem d_X_init_78 : decode b_X_init 78 = .ok (.iconst (-1), 1) := by decide +kernel
theorem d_X_init_79 : decode b_X_init 79 = .ok (.putfield 55, 3) := by decide +kernel
theorem d_X_init_82 : decode b_X_init 82 = .ok (.return_, 1) := by decide +kernel
theorem d_X_pack_0 : decode b_X_pack 0 = .ok (.aload_n 0, 1) := by decide +kernel
theorem d_X_pack_1 : decode b_X_pack 1 = .ok (.getfield 15, 3) := by decide +kernel
theorem d_X_pack_4 : decode b_X_pack 4 = .ok (.bipush 20, 2) := by decide +kernel
theorem d_X_pack_6 : decode b_X_pack 6 = .ok (.if_icmp .lt 6, 3) := by decide +kernel
theorem d_X_pack_9 : decode b_X_pack 9 = .ok (.bipush (-4), 2) := by decide +kernel
theorem d_X_pack_11 : decode b_X_pack 11 = .ok (.ireturn, 1) := by decide +kernel
theorem d_X_pack_12 : decode b_X_pack 12 = .ok (.aload_n 0, 1) := by decide +kernel
theorem d_X_pack_13 : decode b_X_pack 13 = .ok (.getfield 11, 3) := by decide +kernel
theorem d_X_pack_16 : decode b_X_pack 16 = .ok (.aload_n 0, 1) := by decide +kernel
theorem d_X_pack_17 : decode b_X_pack 17 = .ok (.getfield 15, 3) := by decide +kernel
theorem d_X_pack_20 : decode b_X_pack 20 = .ok (.new 9, 3) := by decide +kernel
theorem d_X_pack_23 : decode b_X_pack 23 = .ok (.dup, 1) := by decide +kernel
theorem d_X_pack_24 : decode b_X_pack 24 = .ok (.aload_n 0, 1) := by decide +kernel
theorem d_X_pack_25 : decode b_X_pack 25 = .ok (.getfield 15, 3) := by decide +kernel
theorem d_X_pack_28 : decode b_X_pack 28 = .ok (.iload_n 1, 1) := by decide +kernel
theorem d_X_pack_29 : decode b_X_pack 29 = .ok (.invokespecial 58, 3) := by decide +kernel
theorem d_X_pack_32 : decode b_X_pack 32 = .ok (.aastore, 1) := by decide +kernel
theorem d_X_pack_33 : decode b_X_pack 33 = .ok (.aload_n 0, 1) := by decide +kernel
theorem d_X_pack_34 : decode b_X_pack 34 = .ok (.dup, 1) := by decide +kernel
theorem d_X_pack_35 : decode b_X_pack 35 = .ok (.getfield 15, 3) := by decide +kernel
theorem d_X_pack_38 : decode b_X_pack 38 = .ok (.iconst 1, 1) := by decide +kernel
theorem d_X_pack_39 : decode b_X_pack 39 = .ok (.iadd, 1) := by decide +kernel
theorem d_X_pack_40 : decode b_X_pack 40 = .ok (.putfield 15, 3) := by decide +kernel
theorem d_X_pack_43 : decode b_X_pack 43 = .ok (.aload_n 0, 1) := by decide +kernel
theorem d_X_pack_44 : decode b_X_pack 44 = .ok (.getfield 15, 3) := by decide +kernel
theorem d_X_pack_47 : decode b_X_pack 47 = .ok (.iconst 1, 1) := by decide +kernel
theorem d_X_pack_48 : decode b_X_pack 48 = .ok (.isub, 1) := by decide +kernel
theorem d_X_pack_49 : decode b_X_pack 49 = .ok (.ireturn, 1) := by decide +kernel
theorem d_X_findPack_0 : decode b_X_findPack 0 = .ok (.iload_n 1, 1) := by decide +kernel
theorem d_X_findPack_1 : decode b_X_findPack 1 = .ok (.ifCond .lt 11, 3) := by decide +kernel
theorem d_X_findPack_4 : decode b_X_findPack 4 = .ok (.iload_n 1, 1) := by decide +kernel
theorem d_X_findPack_5 : decode b_X_findPack 5 = .ok (.aload_n 0, 1) := by decide +kernel
theorem d_X_findPack_6 : decode b_X_findPack 6 = .ok (.getfield 15, 3) := by decide +kernel
theorem d_X_findPack_9 : decode b_X_findPack 9 = .ok (.if_icmp .lt 7, 3) := by decide +kernel
theorem d_X_findPack_12 : decode b_X_findPack 12 = .ok (.aconst_null, 1) := by decide +kernel
theorem d_X_findPack_13 : decode b_X_findPack 13 = .ok (.goto 9, 3) := by decide +kernel
theorem d_X_findPack_16 : decode b_X_findPack 16 = .ok (.aload_n 0, 1) := by decide +kernel
theorem d_X_findPack_17 : decode b_X_findPack 17 = .ok (.getfield 11, 3) := by decide +kernel
theorem d_X_findPack_20 : decode b_X_findPack 20 = .ok (.iload_n 1, 1) := by decide +kernel
theorem d_X_findPack_21 : decode b_X_findPack 21 = .ok (.aaload, 1) := by decide +kernel
theorem d_X_findPack_22 : decode b_X_findPack 22 = .ok (.areturn, 1) := by decide +kernel
theorem d_X_findNamed_0 : decode b_X_findNamed 0 = .ok (.iconst 0, 1) := by decide +kernel
theorem d_X_findNamed_1 : decode b_X_findNamed 1 = .ok (.istore_n 3, 1) := by decide +kernel
theorem d_X_findNamed_2 : decode b_X_findNamed 2 = .ok (.iload_n 3, 1) := by decide +kernel
theorem d_X_findNamed_3 : decode b_X_findNamed 3 = .ok (.aload_n 0, 1) := by decide +kernel
theorem d_X_findNamed_4 : decode b_X_findNamed 4 = .ok (.getfield 25, 3) := by decide +kernel
theorem d_X_findNamed_7 : decode b_X_findNamed 7 = .ok (.if_icmp .ge 46, 3) := by decide +kernel
theorem d_X_findNamed_10 : decode b_X_findNamed 10 = .ok (.aload_n 0, 1) := by decide +kernel
theorem d_X_findNamed_11 : decode b_X_findNamed 11 = .ok (.getfield 21, 3) := by decide +kernel
theorem d_X_findNamed_14 : decode b_X_findNamed 14 = .ok (.iload_n 3, 1) := by decide +kernel
theorem d_X_findNamed_15 : decode b_X_findNamed 15 = .ok (.aaload, 1) := by decide +kernel
theorem d_X_findNamed_16 : decode b_X_findNamed 16 = .ok (.astore 4, 2) := by decide +kernel
theorem d_X_findNamed_18 : decode b_X_findNamed 18 = .ok (.aload 4, 2) := by decide +kernel
theorem d_X_findNamed_20 : decode b_X_findNamed 20 = .ok (.ifnull 27, 3) := by decide +kernel
theorem d_X_findNamed_23 : decode b_X_findNamed 23 = .ok (.aload 4, 2) := by decide +kernel
theorem d_X_findNamed_25 : decode b_X_findNamed 25 = .ok (.getfield 175, 3) := by decide +kernel
theorem d_X_findNamed_28 : decode b_X_findNamed 28 = .ok (.getfield 179, 3) := by decide +kernel
theorem d_X_findNamed_31 : decode b_X_findNamed 31 = .ok (.iload_n 1, 1) := by decide +kernel
theorem d_X_findNamed_32 : decode b_X_findNamed 32 = .ok (.if_icmp .ne 15, 3) := by decide +kernel
theorem d_X_findNamed_35 : decode b_X_findNamed 35 = .ok (.aload 4, 2) := by decide +kernel
theorem d_X_findNamed_37 : decode b_X_findNamed 37 = .ok (.getfield 166, 3) := by decide +kernel
theorem d_X_findNamed_40 : decode b_X_findNamed 40 = .ok (.iload_n 2, 1) := by decide +kernel
theorem d_X_findNamed_41 : decode b_X_findNamed 41 = .ok (.if_icmp .ne 6, 3) := by decide +kernel
theorem d_X_findNamed_44 : decode b_X_findNamed 44 = .ok (.aload 4, 2) := by decide +kernel
theorem d_X_findNamed_46 : decode b_X_findNamed 46 = .ok (.areturn, 1) := by decide +kernel
theorem d_X_findNamed_47 : decode b_X_findNamed 47 = .ok (.iinc 3 1, 3) := by decide +kernel
theorem d_X_findNamed_50 : decode b_X_findNamed 50 = .ok (.goto (-48), 3) := by decide +kernel
theorem d_X_findNamed_53 : decode b_X_findNamed 53 = .ok (.aconst_null, 1) := by decide +kernel
theorem d_X_findNamed_54 : decode b_X_findNamed 54 = .ok (.areturn, 1) := by decide +kernel
theorem d_X_title_0 : decode b_X_title 0 = .ok (.aload_n 0, 1) := by decide +kernel
theorem d_X_title_1 : decode b_X_title 1 = .ok (.iload_n 1, 1) := by decide +kernel
theorem d_X_title_2 : decode b_X_title 2 = .ok (.invokevirtual 61, 3) := by decide +kernel
theorem d_X_title_5 : decode b_X_title 5 = .ok (.astore_n 3, 1) := by decide +kernel
theorem d_X_title_6 : decode b_X_title 6 = .ok (.aload_n 3, 1) := by decide +kernel
theorem d_X_title_7 : decode b_X_title 7 = .ok (.ifnonnull 5, 3) := by decide +kernel
theorem d_X_title_10 : decode b_X_title 10 = .ok (.iconst (-1), 1) := by decide +kernel
theorem d_X_title_11 : decode b_X_title 11 = .ok (.ireturn, 1) := by decide +kernel
theorem d_X_title_12 : decode b_X_title 12 = .ok (.aload_n 0, 1) := by decide +kernel
theorem d_X_title_13 : decode b_X_title 13 = .ok (.iload_n 1, 1) := by decide +kernel
theorem d_X_title_14 : decode b_X_title 14 = .ok (.iload_n 2, 1) := by decide +kernel
theorem d_X_title_15 : decode b_X_title 15 = .ok (.invokevirtual 65, 3) := by decide +kernel
theorem d_X_title_18 : decode b_X_title 18 = .ok (.ifnull 6, 3) := by decide +kernel
theorem d_X_title_21 : decode b_X_title 21 = .ok (.bipush (-3), 2) := by decide +kernel
theorem d_X_title_23 : decode b_X_title 23 = .ok (.ireturn, 1) := by decide +kernel
theorem d_X_title_24 : decode b_X_title 24 = .ok (.aload_n 0, 1) := by decide +kernel
theorem d_X_title_25 : decode b_X_title 25 = .ok (.getfield 25, 3) := by decide +kernel
theorem d_X_title_28 : decode b_X_title 28 = .ok (.sipush 200, 3) := by decide +kernel
theorem d_X_title_31 : decode b_X_title 31 = .ok (.if_icmp .lt 6, 3) := by decide +kernel
theorem d_X_title_34 : decode b_X_title 34 = .ok (.bipush (-4), 2) := by decide +kernel
theorem d_X_title_36 : decode b_X_title 36 = .ok (.ireturn, 1) := by decide +kernel
theorem d_X_title_37 : decode b_X_title 37 = .ok (.aload_n 0, 1) := by decide +kernel
theorem d_X_title_38 : decode b_X_title 38 = .ok (.getfield 21, 3) := by decide +kernel
theorem d_X_title_41 : decode b_X_title 41 = .ok (.aload_n 0, 1) := by decide +kernel
theorem d_X_title_42 : decode b_X_title 42 = .ok (.getfield 25, 3) := by decide +kernel
theorem d_X_title_45 : decode b_X_title 45 = .ok (.new 19, 3) := by decide +kernel
theorem d_X_title_48 : decode b_X_title 48 = .ok (.dup, 1) := by decide +kernel
theorem d_X_title_49 : decode b_X_title 49 = .ok (.aload_n 3, 1) := by decide +kernel
theorem d_X_title_50 : decode b_X_title 50 = .ok (.iload_n 2, 1) := by decide +kernel
theorem d_X_title_51 : decode b_X_title 51 = .ok (.invokespecial 69, 3) := by decide +kernel
theorem d_X_title_54 : decode b_X_title 54 = .ok (.aastore, 1) := by decide +kernel
theorem d_X_title_55 : decode b_X_title 55 = .ok (.aload_n 0, 1) := by decide +kernel
theorem d_X_title_56 : decode b_X_title 56 = .ok (.dup, 1) := by decide +kernel
theorem d_X_title_57 : decode b_X_title 57 = .ok (.getfield 25, 3) := by decide +kernel
theorem d_X_title_60 : decode b_X_title 60 = .ok (.iconst 1, 1) := by decide +kernel
theorem d_X_title_61 : decode b_X_title 61 = .ok (.iadd, 1) := by decide +kernel
theorem d_X_title_62 : decode b_X_title 62 = .ok (.putfield 25, 3) := by decide +kernel
theorem d_X_title_65 : decode b_X_title 65 = .ok (.aload_n 0, 1) := by decide +kernel
theorem d_X_title_66 : decode b_X_title 66 = .ok (.getfield 25, 3) := by decide +kernel
theorem d_X_title_69 : decode b_X_title 69 = .ok (.iconst 1, 1) := by decide +kernel
theorem d_X_title_70 : decode b_X_title 70 = .ok (.isub, 1) := by decide +kernel
theorem d_X_title_71 : decode b_X_title 71 = .ok (.ireturn, 1) := by decide +kernel
theorem d_X_findTitle_0 : decode b_X_findTitle 0 = .ok (.iload_n 1, 1) := by decide +kernel
theorem d_X_findTitle_1 : decode b_X_findTitle 1 = .ok (.ifCond .lt 11, 3) := by decide +kernel
theorem d_X_findTitle_4 : decode b_X_findTitle 4 = .ok (.iload_n 1, 1) := by decide +kernel
theorem d_X_findTitle_5 : decode b_X_findTitle 5 = .ok (.aload_n 0, 1) := by decide +kernel
theorem d_X_findTitle_6 : decode b_X_findTitle 6 = .ok (.getfield 25, 3) := by decide +kernel
theorem d_X_findTitle_9 : decode b_X_findTitle 9 = .ok (.if_icmp .lt 7, 3) := by decide +kernel
theorem d_X_findTitle_12 : decode b_X_findTitle 12 = .ok (.aconst_null, 1) := by decide +kernel
theorem d_X_findTitle_13 : decode b_X_findTitle 13 = .ok (.goto 9, 3) := by decide +kernel
theorem d_X_findTitle_16 : decode b_X_findTitle 16 = .ok (.aload_n 0, 1) := by decide +kernel
theorem d_X_findTitle_17 : decode b_X_findTitle 17 = .ok (.getfield 21, 3) := by decide +kernel
theorem d_X_findTitle_20 : decode b_X_findTitle 20 = .ok (.iload_n 1, 1) := by decide +kernel
theorem d_X_findTitle_21 : decode b_X_findTitle 21 = .ok (.aaload, 1) := by decide +kernel
theorem d_X_findTitle_22 : decode b_X_findTitle 22 = .ok (.areturn, 1) := by decide +kernel
theorem d_X_isDay_0 : decode b_X_isDay 0 = .ok (.iload_n 0, 1) := by decide +kernel
theorem d_X_isDay_1 : decode b_X_isDay 1 = .ok (.ifCond .lt 13, 3) := by decide +kernel
theorem d_X_isDay_4 : decode b_X_isDay 4 = .ok (.iload_n 0, 1) := by decide +kernel
theorem d_X_isDay_5 : decode b_X_isDay 5 = .ok (.ldc 238, 2) := by decide +kernel
theorem d_X_isDay_7 : decode b_X_isDay 7 = .ok (.if_icmp .gt 7, 3) := by decide +kernel
theorem d_X_isDay_10 : decode b_X_isDay 10 = .ok (.iconst 1, 1) := by decide +kernel
theorem d_X_isDay_11 : decode b_X_isDay 11 = .ok (.goto 4, 3) := by decide +kernel
theorem d_X_isDay_14 : decode b_X_isDay 14 = .ok (.iconst 0, 1) := by decide +kernel
theorem d_X_isDay_15 : decode b_X_isDay 15 = .ok (.ireturn, 1) := by decide +kernel
theorem d_X_cover_0 : decode b_X_cover 0 = .ok (.aload_n 0, 1) := by decide +kernel
theorem d_X_cover_1 : decode b_X_cover 1 = .ok (.iload_n 1, 1) := by decide +kernel
theorem d_X_cover_2 : decode b_X_cover 2 = .ok (.invokevirtual 72, 3) := by decide +kernel
theorem d_X_cover_5 : decode b_X_cover 5 = .ok (.astore 4, 2) := by decide +kernel
theorem d_X_cover_7 : decode b_X_cover 7 = .ok (.aload 4, 2) := by decide +kernel
theorem d_X_cover_9 : decode b_X_cover 9 = .ok (.ifnonnull 5, 3) := by decide +kernel
theorem d_X_cover_12 : decode b_X_cover 12 = .ok (.iconst (-1), 1) := by decide +kernel
theorem d_X_cover_13 : decode b_X_cover 13 = .ok (.ireturn, 1) := by decide +kernel
theorem d_X_cover_14 : decode b_X_cover 14 = .ok (.iload_n 2, 1) := by decide +kernel
theorem d_X_cover_15 : decode b_X_cover 15 = .ok (.invokestatic 76, 3) := by decide +kernel
theorem d_X_cover_18 : decode b_X_cover 18 = .ok (.ifCond .eq 15, 3) := by decide +kernel
theorem d_X_cover_21 : decode b_X_cover 21 = .ok (.iload_n 3, 1) := by decide +kernel
theorem d_X_cover_22 : decode b_X_cover 22 = .ok (.invokestatic 76, 3) := by decide +kernel
theorem d_X_cover_25 : decode b_X_cover 25 = .ok (.ifCond .eq 8, 3) := by decide +kernel
theorem d_X_cover_28 : decode b_X_cover 28 = .ok (.iload_n 2, 1) := by decide +kernel
theorem d_X_cover_29 : decode b_X_cover 29 = .ok (.iload_n 3, 1) := by decide +kernel
theorem d_X_cover_30 : decode b_X_cover 30 = .ok (.if_icmp .le 6, 3) := by decide +kernel
theorem d_X_cover_33 : decode b_X_cover 33 = .ok (.bipush (-2), 2) := by decide +kernel
theorem d_X_cover_35 : decode b_X_cover 35 = .ok (.ireturn, 1) := by decide +kernel
theorem d_X_cover_36 : decode b_X_cover 36 = .ok (.aload 4, 2) := by decide +kernel
theorem d_X_cover_38 : decode b_X_cover 38 = .ok (.iload_n 2, 1) := by decide +kernel
theorem d_X_cover_39 : decode b_X_cover 39 = .ok (.iload_n 3, 1) := by decide +kernel
theorem d_X_cover_40 : decode b_X_cover 40 = .ok (.invokevirtual 80, 3) := by decide +kernel
theorem d_X_cover_43 : decode b_X_cover 43 = .ok (.ifCond .eq 6, 3) := by decide +kernel
theorem d_X_cover_46 : decode b_X_cover 46 = .ok (.bipush (-3), 2) := by decide +kernel
theorem d_X_cover_48 : decode b_X_cover 48 = .ok (.ireturn, 1) := by decide +kernel
theorem d_X_cover_49 : decode b_X_cover 49 = .ok (.aload 4, 2) := by decide +kernel
theorem d_X_cover_51 : decode b_X_cover 51 = .ok (.getfield 84, 3) := by decide +kernel
theorem d_X_cover_54 : decode b_X_cover 54 = .ok (.bipush 10, 2) := by decide +kernel
theorem d_X_cover_56 : decode b_X_cover 56 = .ok (.if_icmp .lt 6, 3) := by decide +kernel
theorem d_X_cover_59 : decode b_X_cover 59 = .ok (.bipush (-4), 2) := by decide +kernel
theorem d_X_cover_61 : decode b_X_cover 61 = .ok (.ireturn, 1) := by decide +kernel
theorem d_X_cover_62 : decode b_X_cover 62 = .ok (.aload 4, 2) := by decide +kernel
theorem d_X_cover_64 : decode b_X_cover 64 = .ok (.iload_n 2, 1) := by decide +kernel
theorem d_X_cover_65 : decode b_X_cover 65 = .ok (.iload_n 3, 1) := by decide +kernel
theorem d_X_cover_66 : decode b_X_cover 66 = .ok (.invokevirtual 87, 3) := by decide +kernel
theorem d_X_cover_69 : decode b_X_cover 69 = .ok (.aload 4, 2) := by decide +kernel
theorem d_X_cover_71 : decode b_X_cover 71 = .ok (.getfield 84, 3) := by decide +kernel
theorem d_X_cover_74 : decode b_X_cover 74 = .ok (.ireturn, 1) := by decide +kernel
theorem d_X_embargo_0 : decode b_X_embargo 0 = .ok (.aload_n 0, 1) := by decide +kernel
theorem d_X_embargo_1 : decode b_X_embargo 1 = .ok (.iload_n 1, 1) := by decide +kernel
theorem d_X_embargo_2 : decode b_X_embargo 2 = .ok (.invokevirtual 72, 3) := by decide +kernel
theorem d_X_embargo_5 : decode b_X_embargo 5 = .ok (.astore 4, 2) := by decide +kernel
theorem d_X_embargo_7 : decode b_X_embargo 7 = .ok (.aload 4, 2) := by decide +kernel
theorem d_X_embargo_9 : decode b_X_embargo 9 = .ok (.ifnonnull 5, 3) := by decide +kernel
theorem d_X_embargo_12 : decode b_X_embargo 12 = .ok (.iconst (-1), 1) := by decide +kernel
theorem d_X_embargo_13 : decode b_X_embargo 13 = .ok (.ireturn, 1) := by decide +kernel
theorem d_X_embargo_14 : decode b_X_embargo 14 = .ok (.iload_n 2, 1) := by decide +kernel
theorem d_X_embargo_15 : decode b_X_embargo 15 = .ok (.ifCond .lt 16, 3) := by decide +kernel
theorem d_X_embargo_18 : decode b_X_embargo 18 = .ok (.iload_n 2, 1) := by decide +kernel
theorem d_X_embargo_19 : decode b_X_embargo 19 = .ok (.bipush 120, 2) := by decide +kernel
theorem d_X_embargo_21 : decode b_X_embargo 21 = .ok (.if_icmp .gt 10, 3) := by decide +kernel
theorem d_X_embargo_24 : decode b_X_embargo 24 = .ok (.iload_n 3, 1) := by decide +kernel
theorem d_X_embargo_25 : decode b_X_embargo 25 = .ok (.invokestatic 76, 3) := by decide +kernel
theorem d_X_embargo_28 : decode b_X_embargo 28 = .ok (.ifCond .ne 6, 3) := by decide +kernel
theorem d_X_embargo_31 : decode b_X_embargo 31 = .ok (.bipush (-2), 2) := by decide +kernel
theorem d_X_embargo_33 : decode b_X_embargo 33 = .ok (.ireturn, 1) := by decide +kernel
theorem d_X_embargo_34 : decode b_X_embargo 34 = .ok (.aload 4, 2) := by decide +kernel
theorem d_X_embargo_36 : decode b_X_embargo 36 = .ok (.iload_n 2, 1) := by decide +kernel
theorem d_X_embargo_37 : decode b_X_embargo 37 = .ok (.putfield 91, 3) := by decide +kernel
theorem d_X_embargo_40 : decode b_X_embargo 40 = .ok (.iconst 0, 1) := by decide +kernel
theorem d_X_embargo_41 : decode b_X_embargo 41 = .ok (.aload 4, 2) := by decide +kernel
theorem d_X_embargo_43 : decode b_X_embargo 43 = .ok (.iload_n 3, 1) := by decide +kernel
theorem d_X_embargo_44 : decode b_X_embargo 44 = .ok (.invokevirtual 94, 3) := by decide +kernel
theorem d_X_embargo_47 : decode b_X_embargo 47 = .ok (.iconst 1, 1) := by decide +kernel
theorem d_X_embargo_48 : decode b_X_embargo 48 = .ok (.iadd, 1) := by decide +kernel
theorem d_X_embargo_49 : decode b_X_embargo 49 = .ok (.bipush 30, 2) := by decide +kernel
theorem d_X_embargo_51 : decode b_X_embargo 51 = .ok (.imul, 1) := by decide +kernel
theorem d_X_embargo_52 : decode b_X_embargo 52 = .ok (.invokestatic 98, 3) := by decide +kernel
theorem d_X_embargo_55 : decode b_X_embargo 55 = .ok (.ireturn, 1) := by decide +kernel
theorem d_X_isValueOf_0 : decode b_X_isValueOf 0 = .ok (.iload_n 0, 1) := by decide +kernel
theorem d_X_isValueOf_1 : decode b_X_isValueOf 1 = .ok (.tableswitch 81 0 3 #[31, 47, 49, 65], 31) := by decide +kernel
theorem d_X_isValueOf_32 : decode b_X_isValueOf 32 = .ok (.iload_n 1, 1) := by decide +kernel
theorem d_X_isValueOf_33 : decode b_X_isValueOf 33 = .ok (.ifCond .lt 13, 3) := by decide +kernel
theorem d_X_isValueOf_36 : decode b_X_isValueOf 36 = .ok (.iload_n 1, 1) := by decide +kernel
theorem d_X_isValueOf_37 : decode b_X_isValueOf 37 = .ok (.bipush 9, 2) := by decide +kernel
theorem d_X_isValueOf_39 : decode b_X_isValueOf 39 = .ok (.if_icmp .gt 7, 3) := by decide +kernel
theorem d_X_isValueOf_42 : decode b_X_isValueOf 42 = .ok (.iconst 1, 1) := by decide +kernel
theorem d_X_isValueOf_43 : decode b_X_isValueOf 43 = .ok (.goto 4, 3) := by decide +kernel
theorem d_X_isValueOf_46 : decode b_X_isValueOf 46 = .ok (.iconst 0, 1) := by decide +kernel
theorem d_X_isValueOf_47 : decode b_X_isValueOf 47 = .ok (.ireturn, 1) := by decide +kernel
theorem d_X_isValueOf_48 : decode b_X_isValueOf 48 = .ok (.iconst 1, 1) := by decide +kernel
theorem d_X_isValueOf_49 : decode b_X_isValueOf 49 = .ok (.ireturn, 1) := by decide +kernel
theorem d_X_isValueOf_50 : decode b_X_isValueOf 50 = .ok (.iload_n 1, 1) := by decide +kernel
theorem d_X_isValueOf_51 : decode b_X_isValueOf 51 = .ok (.ifCond .lt 13, 3) := by decide +kernel
theorem d_X_isValueOf_54 : decode b_X_isValueOf 54 = .ok (.iload_n 1, 1) := by decide +kernel
theorem d_X_isValueOf_55 : decode b_X_isValueOf 55 = .ok (.bipush 127, 2) := by decide +kernel
theorem d_X_isValueOf_57 : decode b_X_isValueOf 57 = .ok (.if_icmp .gt 7, 3) := by decide +kernel
theorem d_X_isValueOf_60 : decode b_X_isValueOf 60 = .ok (.iconst 1, 1) := by decide +kernel
theorem d_X_isValueOf_61 : decode b_X_isValueOf 61 = .ok (.goto 4, 3) := by decide +kernel
theorem d_X_isValueOf_64 : decode b_X_isValueOf 64 = .ok (.iconst 0, 1) := by decide +kernel
theorem d_X_isValueOf_65 : decode b_X_isValueOf 65 = .ok (.ireturn, 1) := by decide +kernel
theorem d_X_isValueOf_66 : decode b_X_isValueOf 66 = .ok (.iload_n 1, 1) := by decide +kernel
theorem d_X_isValueOf_67 : decode b_X_isValueOf 67 = .ok (.ifCond .lt 13, 3) := by decide +kernel
theorem d_X_isValueOf_70 : decode b_X_isValueOf 70 = .ok (.iload_n 1, 1) := by decide +kernel
theorem d_X_isValueOf_71 : decode b_X_isValueOf 71 = .ok (.ldc 239, 2) := by decide +kernel
theorem d_X_isValueOf_73 : decode b_X_isValueOf 73 = .ok (.if_icmp .gt 7, 3) := by decide +kernel
theorem d_X_isValueOf_76 : decode b_X_isValueOf 76 = .ok (.iconst 1, 1) := by decide +kernel
theorem d_X_isValueOf_77 : decode b_X_isValueOf 77 = .ok (.goto 4, 3) := by decide +kernel
theorem d_X_isValueOf_80 : decode b_X_isValueOf 80 = .ok (.iconst 0, 1) := by decide +kernel
theorem d_X_isValueOf_81 : decode b_X_isValueOf 81 = .ok (.ireturn, 1) := by decide +kernel
theorem d_X_isValueOf_82 : decode b_X_isValueOf 82 = .ok (.iconst 0, 1) := by decide +kernel
theorem d_X_isValueOf_83 : decode b_X_isValueOf 83 = .ok (.ireturn, 1) := by decide +kernel
theorem d_X_rule_0 : decode b_X_rule 0 = .ok (.aload_n 0, 1) := by decide +kernel
theorem d_X_rule_1 : decode b_X_rule 1 = .ok (.iload_n 1, 1) := by decide +kernel
theorem d_X_rule_2 : decode b_X_rule 2 = .ok (.invokevirtual 61, 3) := by decide +kernel
theorem d_X_rule_5 : decode b_X_rule 5 = .ok (.ifnonnull 5, 3) := by decide +kernel
theorem d_X_rule_8 : decode b_X_rule 8 = .ok (.iconst (-1), 1) := by decide +kernel
theorem d_X_rule_9 : decode b_X_rule 9 = .ok (.ireturn, 1) := by decide +kernel
theorem d_X_rule_10 : decode b_X_rule 10 = .ok (.iload_n 3, 1) := by decide +kernel
theorem d_X_rule_11 : decode b_X_rule 11 = .ok (.iconst 1, 1) := by decide +kernel
theorem d_X_rule_12 : decode b_X_rule 12 = .ok (.if_icmp .eq 8, 3) := by decide +kernel
theorem d_X_rule_15 : decode b_X_rule 15 = .ok (.iload_n 3, 1) := by decide +kernel
theorem d_X_rule_16 : decode b_X_rule 16 = .ok (.iconst 2, 1) := by decide +kernel
theorem d_X_rule_17 : decode b_X_rule 17 = .ok (.if_icmp .ne 12, 3) := by decide +kernel
theorem d_X_rule_20 : decode b_X_rule 20 = .ok (.iload_n 2, 1) := by decide +kernel
theorem d_X_rule_21 : decode b_X_rule 21 = .ok (.iload 4, 2) := by decide +kernel
theorem d_X_rule_23 : decode b_X_rule 23 = .ok (.invokestatic 104, 3) := by decide +kernel
theorem d_X_rule_26 : decode b_X_rule 26 = .ok (.ifCond .ne 6, 3) := by decide +kernel
theorem d_X_rule_29 : decode b_X_rule 29 = .ok (.bipush (-2), 2) := by decide +kernel
theorem d_X_rule_31 : decode b_X_rule 31 = .ok (.ireturn, 1) := by decide +kernel
theorem d_X_rule_32 : decode b_X_rule 32 = .ok (.aload_n 0, 1) := by decide +kernel
theorem d_X_rule_33 : decode b_X_rule 33 = .ok (.getfield 34, 3) := by decide +kernel
theorem d_X_rule_36 : decode b_X_rule 36 = .ok (.bipush 100, 2) := by decide +kernel
theorem d_X_rule_38 : decode b_X_rule 38 = .ok (.if_icmp .lt 6, 3) := by decide +kernel
theorem d_X_rule_41 : decode b_X_rule 41 = .ok (.bipush (-4), 2) := by decide +kernel
theorem d_X_rule_43 : decode b_X_rule 43 = .ok (.ireturn, 1) := by decide +kernel
theorem d_X_rule_44 : decode b_X_rule 44 = .ok (.aload_n 0, 1) := by decide +kernel
theorem d_X_rule_45 : decode b_X_rule 45 = .ok (.getfield 30, 3) := by decide +kernel
theorem d_X_rule_48 : decode b_X_rule 48 = .ok (.aload_n 0, 1) := by decide +kernel
theorem d_X_rule_49 : decode b_X_rule 49 = .ok (.getfield 34, 3) := by decide +kernel
theorem d_X_rule_52 : decode b_X_rule 52 = .ok (.new 28, 3) := by decide +kernel
theorem d_X_rule_55 : decode b_X_rule 55 = .ok (.dup, 1) := by decide +kernel
theorem d_X_rule_56 : decode b_X_rule 56 = .ok (.iload_n 1, 1) := by decide +kernel
theorem d_X_rule_57 : decode b_X_rule 57 = .ok (.iload_n 2, 1) := by decide +kernel
theorem d_X_rule_58 : decode b_X_rule 58 = .ok (.iload_n 3, 1) := by decide +kernel
theorem d_X_rule_59 : decode b_X_rule 59 = .ok (.iload 4, 2) := by decide +kernel
theorem d_X_rule_61 : decode b_X_rule 61 = .ok (.invokespecial 107, 3) := by decide +kernel
theorem d_X_rule_64 : decode b_X_rule 64 = .ok (.aastore, 1) := by decide +kernel
theorem d_X_rule_65 : decode b_X_rule 65 = .ok (.aload_n 0, 1) := by decide +kernel
theorem d_X_rule_66 : decode b_X_rule 66 = .ok (.dup, 1) := by decide +kernel
theorem d_X_rule_67 : decode b_X_rule 67 = .ok (.getfield 34, 3) := by decide +kernel
theorem d_X_rule_70 : decode b_X_rule 70 = .ok (.iconst 1, 1) := by decide +kernel
theorem d_X_rule_71 : decode b_X_rule 71 = .ok (.iadd, 1) := by decide +kernel
theorem d_X_rule_72 : decode b_X_rule 72 = .ok (.putfield 34, 3) := by decide +kernel
theorem d_X_rule_75 : decode b_X_rule 75 = .ok (.aload_n 0, 1) := by decide +kernel
theorem d_X_rule_76 : decode b_X_rule 76 = .ok (.getfield 34, 3) := by decide +kernel
theorem d_X_rule_79 : decode b_X_rule 79 = .ok (.iconst 1, 1) := by decide +kernel
theorem d_X_rule_80 : decode b_X_rule 80 = .ok (.isub, 1) := by decide +kernel
theorem d_X_rule_81 : decode b_X_rule 81 = .ok (.ireturn, 1) := by decide +kernel
def f_X_init (v0 : Nat) (M : mm) : Option (Unit × mm) :=
    (nQ 2 20 M).bind fun (x1, M1) =>
    (pF 0 0 (.ref x1) M1 v0).bind fun M2 =>
    (pF 0 1 (.int 0) M2 v0).bind fun M3 =>
    (nQ 3 200 M3).bind fun (x4, M4) =>
    (pF 0 2 (.ref x4) M4 v0).bind fun M5 =>
    (pF 0 3 (.int 0) M5 v0).bind fun M6 =>
    (nQ 4 100 M6).bind fun (x7, M7) =>
    (pF 0 4 (.ref x7) M7 v0).bind fun M8 =>
    (pF 0 5 (.int 0) M8 v0).bind fun M9 =>
    (nA 100 M9).bind fun (x10, M10) =>
    (pF 0 6 (.ref x10) M10 v0).bind fun M11 =>
    (nO 7 [.null, .null, .null, .int 0] M11).bind fun (x12, M12) =>
    (f_Usages_init x12 M12).bind fun (_, M13) =>
    (pF 0 7 (.ref x12) M13 v0).bind fun M14 =>
    (nO 3 [.null, .null, .int 0] M14).bind fun (x15, M15) =>
    (f_Notices_init x15 M15).bind fun (_, M16) =>
    (pF 0 8 (.ref x15) M16 v0).bind fun M17 =>
    (pF 0 9 (.int ((-1))) M17 v0).bind fun M18 =>
    some ((), M18)
set_option maxHeartbeats 4000000 in
set_option maxRecDepth 100000 in
theorem c_X_init (l : Launch) (D : va_G) (dA : Nat → ClassId) (M0 M' : mm) (r : Unit) (v0 : Nat) (h : f_X_init v0 M0 = some (r, M')) : Met l y_X_init w_X_init rm_X_init (mm_Pre D dA M0 [.ref v0]) (mm_QV D dA M0 r M') 11 2163 (mm_A M0) := by
  refine Met.ofW (cc := b_X_init) (maxL := 1) (ret := none) (by decide) rfl ?_
  intro p e s m args below meth c s₁ B hml hv
  obtain ⟨rfl, hW, hK⟩ := hv
  have C : mm_C p s m _ meth c b_X_init 1 none R_X D dA (mm_A M0) := ⟨B.exec, B.bytes, B.returns, hml, findClass_of_methodNamed B.named, fun w hw => atoms_spec (ws := w_X_init) B.pre w (List.mem_cons_of_mem _ hw), B.notSynchronized, hK, fun q hq => Or.inr (by rw [← hW.1]; exact hq)⟩
  have hini : meth.name = "<init>" := (name_of_methodNamed B.named B.method).1
  have hS : va_S (mm_A M0) s.heap s.heap [] := va_S.rf
  obtain ⟨hx, hb, hr, hml, hown, hts, hlocks, hK, hA⟩ := id C
  have hl := lv_entry ([.ref v0]) (n := 1) (Nat.le_of_ble_eq_true rfl)
  rw [lg_entry_eq]
  generalize (lg_sl ([.ref v0]) ++ List.replicate (1 - (lg_sl ([.ref v0])).length) Slot.unset).toArray = ls at hl ⊢
  have hl : lv_has ls 1 [(0, .ref v0)] := hl
  unfold f_X_init at h
  refine lv_aload_n hx hb d_X_init_0 rfl (lv_at hl 0 rfl) ?_
  refine W.objInit hx hb hown (hts _ q_12) (hts _ q_1) (hts _ q_2) rfl (by rw [hml]; exact hl.1) rfl d_X_init_1 (Nat.le_of_ble_eq_true rfl) (Nat.le_of_ble_eq_true rfl) ?_
  refine W.eq (g2 := F0 m 4 ls []) rfl ?_
  refine lv_aload_n hx hb d_X_init_4 rfl (lv_at hl 0 rfl) ?_
  refine lv_bipush (v := 20) hx hb d_X_init_5 (by decide) ?_
  obtain ⟨⟨x1, M1⟩, e1, h⟩ := ob h
  refine mr_nQ C hW hS (t0 := 2) rfl q_13 (by decide) (by decide) (by decide) (by decide) (Nat.le_of_ble_eq_true rfl) (Nat.le_of_ble_eq_true rfl) e1 d_X_init_7 (fun H hW hS => ?_)
  obtain ⟨M2, e2, h⟩ := ob h
  refine mr_putF C hW hS kp_X_11 hini rfl rfl e2 d_X_init_10 (fun H locs hW hS => ?_)
  refine lv_aload_n hx hb d_X_init_13 rfl (lv_at hl 0 rfl) ?_
  refine lv_iconst (v := 0) hx hb d_X_init_14 (by decide) ?_
  obtain ⟨M3, e3, h⟩ := ob h
  refine mr_put C hW hS kp_X_15 rfl rfl e3 d_X_init_15 (fun H locs hW hS => ?_)
  refine lv_aload_n hx hb d_X_init_18 rfl (lv_at hl 0 rfl) ?_
  refine lv_sipush (v := 200) hx hb d_X_init_19 (by decide) ?_
  obtain ⟨⟨x4, M4⟩, e4, h⟩ := ob h
  refine mr_nQ C hW hS (t0 := 3) rfl q_16 (by decide) (by decide) (by decide) (by decide) (Nat.le_of_ble_eq_true rfl) (Nat.le_of_ble_eq_true rfl) e4 d_X_init_22 (fun H hW hS => ?_)
  obtain ⟨M5, e5, h⟩ := ob h
  refine mr_putF C hW hS kp_X_21 hini rfl rfl e5 d_X_init_25 (fun H locs hW hS => ?_)
  refine lv_aload_n hx hb d_X_init_28 rfl (lv_at hl 0 rfl) ?_
  refine lv_iconst (v := 0) hx hb d_X_init_29 (by decide) ?_
  obtain ⟨M6, e6, h⟩ := ob h
  refine mr_put C hW hS kp_X_25 rfl rfl e6 d_X_init_30 (fun H locs hW hS => ?_)
  refine lv_aload_n hx hb d_X_init_33 rfl (lv_at hl 0 rfl) ?_
  refine lv_bipush (v := 100) hx hb d_X_init_34 (by decide) ?_
  obtain ⟨⟨x7, M7⟩, e7, h⟩ := ob h
  refine mr_nQ C hW hS (t0 := 4) rfl q_19 (by decide) (by decide) (by decide) (by decide) (Nat.le_of_ble_eq_true rfl) (Nat.le_of_ble_eq_true rfl) e7 d_X_init_36 (fun H hW hS => ?_)
  obtain ⟨M8, e8, h⟩ := ob h
  refine mr_putF C hW hS kp_X_30 hini rfl rfl e8 d_X_init_39 (fun H locs hW hS => ?_)
  refine lv_aload_n hx hb d_X_init_42 rfl (lv_at hl 0 rfl) ?_
  refine lv_iconst (v := 0) hx hb d_X_init_43 (by decide) ?_
  obtain ⟨M9, e9, h⟩ := ob h
  refine mr_put C hW hS kp_X_34 rfl rfl e9 d_X_init_44 (fun H locs hW hS => ?_)
  refine lv_aload_n hx hb d_X_init_47 rfl (lv_at hl 0 rfl) ?_
  refine lv_bipush (v := 100) hx hb d_X_init_48 (by decide) ?_
  obtain ⟨⟨x10, M10⟩, e10, h⟩ := ob h
  refine mr_nA C hW hS q_3 (by decide) (by decide) (by decide) (Nat.le_of_ble_eq_true rfl) (Nat.le_of_ble_eq_true rfl) e10 d_X_init_50 (fun H hW hS => ?_)
  obtain ⟨M11, e11, h⟩ := ob h
  refine mr_putF C hW hS kp_X_37 hini rfl rfl e11 d_X_init_52 (fun H locs hW hS => ?_)
  refine lv_aload_n hx hb d_X_init_55 rfl (lv_at hl 0 rfl) ?_
  obtain ⟨⟨x12, M12⟩, e12, h⟩ := ob h
  refine mr_nO C hW hS (ci := 7) rfl i_Usages t_Usages_ok ⟨q_23, q_24, q_25⟩ z_Usages (Nat.le_of_ble_eq_true rfl) (Nat.le_of_ble_eq_true rfl) e12 d_X_init_56 (fun H hW hS => ?_)
  refine lv_dup hx hb d_X_init_59 rfl ?_
  obtain ⟨⟨u13, M13⟩, e13, h⟩ := ob h
  refine mr_cv C hW hS (va_runIN (As := []) (rest := [.ref x12, .ref v0]) ⟨hx, hb, hml, hown, hts⟩ (c_Usages_init l D dA _ _ _ x12 e13) ⟨va_cnB 0 hts (mg_in q_26) rfl rfl rfl (hK.2.1 _ qn_X_43) (hts _ q_25) (by decide +kernel) ⟨Nat.le_of_ble_eq_true rfl, Nat.le_of_ble_eq_true rfl⟩, rfl, hts _ q_27⟩ (mr_pre C hW) rfl rfl hl.1 rfl (lv_room (Nat.le_of_ble_eq_true rfl)) d_X_init_60 ⟨Nat.le_of_ble_eq_true rfl, Nat.le_of_ble_eq_true rfl⟩) (fun H locs hW hS => ?_)
  obtain ⟨M14, e14, h⟩ := ob h
  refine mr_putF C hW hS kp_X_44 hini rfl rfl e14 d_X_init_63 (fun H locs hW hS => ?_)
  refine lv_aload_n hx hb d_X_init_66 rfl (lv_at hl 0 rfl) ?_
  obtain ⟨⟨x15, M15⟩, e15, h⟩ := ob h
  refine mr_nO C hW hS (ci := 3) rfl i_Notices t_Notices_ok ⟨q_29, q_30, q_31⟩ z_Notices (Nat.le_of_ble_eq_true rfl) (Nat.le_of_ble_eq_true rfl) e15 d_X_init_67 (fun H hW hS => ?_)
  refine lv_dup hx hb d_X_init_70 rfl ?_
  obtain ⟨⟨u16, M16⟩, e16, h⟩ := ob h
  refine mr_cv C hW hS (va_runIN (As := []) (rest := [.ref x15, .ref v0]) ⟨hx, hb, hml, hown, hts⟩ (c_Notices_init l D dA _ _ _ x15 e16) ⟨va_cnB 0 hts (mg_in q_32) rfl rfl rfl (hK.2.1 _ qn_X_50) (hts _ q_31) (by decide +kernel) ⟨Nat.le_of_ble_eq_true rfl, Nat.le_of_ble_eq_true rfl⟩, rfl, hts _ q_33⟩ (mr_pre C hW) rfl rfl hl.1 rfl (lv_room (Nat.le_of_ble_eq_true rfl)) d_X_init_71 ⟨Nat.le_of_ble_eq_true rfl, Nat.le_of_ble_eq_true rfl⟩) (fun H locs hW hS => ?_)
  obtain ⟨M17, e17, h⟩ := ob h
  refine mr_putF C hW hS kp_X_51 hini rfl rfl e17 d_X_init_74 (fun H locs hW hS => ?_)
  refine lv_aload_n hx hb d_X_init_77 rfl (lv_at hl 0 rfl) ?_
  refine lv_iconst (v := (-1)) hx hb d_X_init_78 (by decide) ?_
  obtain ⟨M18, e18, h⟩ := ob h
  refine mr_put C hW hS kp_X_55 rfl rfl e18 d_X_init_79 (fun H locs hW hS => ?_)
  exact mr_vret C hW hS (Nat.le_of_ble_eq_true rfl) (Nat.le_of_ble_eq_true rfl) h d_X_init_82
def f_X_pack (v0 : Nat) (v1 : Int32) (M : mm) : Option (Int32 × mm) :=
    (gI 0 1 M v0).bind fun x1 =>
    if x1 < 20 then
      (gR 0 0 M v0).bind fun x3 =>
      (gI 0 1 M v0).bind fun x4 =>
      (nO 4 [.int 0, .int 0, .null, .null, .int 0, .int 0] M).bind fun (x5, M5) =>
      (gI 0 1 M5 v0).bind fun x6 =>
      (f_Pack_init x5 x6 v1 M5).bind fun (_, M7) =>
      (sR 2 4 x5 M7 x3 x4).bind fun M8 =>
      (gI 0 1 M8 v0).bind fun x9 =>
      (pF 0 1 (.int (x9 + 1)) M8 v0).bind fun M10 =>
      (gI 0 1 M10 v0).bind fun x11 =>
      some (x11 - 1, M10)
    else
      some ((-4), M)
set_option maxHeartbeats 4000000 in
set_option maxRecDepth 100000 in
theorem c_X_pack (l : Launch) (D : va_G) (dA : Nat → ClassId) (M0 M' : mm) (r : Int32) (v0 : Nat) (v1 : Int32) (h : f_X_pack v0 v1 M0 = some (r, M')) : Met l y_X_pack w_X_pack rm_X_pack (mm_Pre D dA M0 [.ref v0, .int v1]) (mm_QI D dA M0 r M') 5 210 (mm_A M0) := by
  refine Met.ofW (cc := b_X_pack) (maxL := 2) (ret := (some .int)) (by decide) rfl ?_
  intro p e s m args below meth c s₁ B hml hv
  obtain ⟨rfl, hW, hK⟩ := hv
  have C : mm_C p s m _ meth c b_X_pack 2 (some .int) R_X D dA (mm_A M0) := ⟨B.exec, B.bytes, B.returns, hml, findClass_of_methodNamed B.named, fun w hw => atoms_spec (ws := w_X_pack) B.pre w (List.mem_cons_of_mem _ hw), B.notSynchronized, hK, fun q hq => Or.inr (by rw [← hW.1]; exact hq)⟩
  have hS : va_S (mm_A M0) s.heap s.heap [] := va_S.rf
  obtain ⟨hx, hb, hr, hml, hown, hts, hlocks, hK, hA⟩ := id C
  have hl := lv_entry ([.ref v0, .int v1]) (n := 2) (Nat.le_of_ble_eq_true rfl)
  rw [lg_entry_eq]
  generalize (lg_sl ([.ref v0, .int v1]) ++ List.replicate (2 - (lg_sl ([.ref v0, .int v1])).length) Slot.unset).toArray = ls at hl ⊢
  have hl : lv_has ls 2 [(0, .ref v0), (1, .int v1)] := hl
  unfold f_X_pack at h
  refine lv_aload_n hx hb d_X_pack_0 rfl (lv_at hl 0 rfl) ?_
  obtain ⟨x1, e1, h⟩ := ob h
  refine mr_gI C hW k_X_15 e1 d_X_pack_1 ?_
  refine lv_bipush (v := 20) hx hb d_X_pack_4 (by decide) ?_
  refine lv_icmp_lt (tgt := 12) hx hb d_X_pack_6 (by decide) (fun c2 => ?_) (fun c2 => ?_)
  · have h := ifp h c2
    refine lv_aload_n hx hb d_X_pack_12 rfl (lv_at hl 0 rfl) ?_
    obtain ⟨x3, e3, h⟩ := ob h
    refine mr_gR C hW k_X_11 e3 d_X_pack_13 ?_
    refine lv_aload_n hx hb d_X_pack_16 rfl (lv_at hl 0 rfl) ?_
    obtain ⟨x4, e4, h⟩ := ob h
    refine mr_gI C hW k_X_15 e4 d_X_pack_17 ?_
    obtain ⟨⟨x5, M5⟩, e5, h⟩ := ob h
    refine mr_nO C hW hS (ci := 4) rfl i_Pack t_Pack_ok ⟨q_13, q_51, q_52⟩ z_Pack (Nat.le_of_ble_eq_true rfl) (Nat.le_of_ble_eq_true rfl) e5 d_X_pack_20 (fun H hW hS => ?_)
    refine lv_dup hx hb d_X_pack_23 rfl ?_
    refine lv_aload_n hx hb d_X_pack_24 rfl (lv_at hl 0 rfl) ?_
    obtain ⟨x6, e6, h⟩ := ob h
    refine mr_gI C hW k_X_15 e6 d_X_pack_25 ?_
    refine lv_iload_n hx hb d_X_pack_28 rfl (lv_at hl 1 rfl) ?_
    obtain ⟨⟨u7, M7⟩, e7, h⟩ := ob h
    refine mr_cv C hW hS (va_runI (As := [.int x6, .int v1]) (rest := [.ref x5, .int x4, .ref x3]) ⟨hx, hb, hml, hown, hts⟩ (c_Pack_init l D dA _ _ _ x5 x6 v1 e7) (cwI 2 hts (mg_in q_53) rfl rfl rfl (hts _ q_52) (hts _ q_54) (hts _ q_55) rfl (by decide +kernel) ⟨Nat.le_of_ble_eq_true rfl, Nat.le_of_ble_eq_true rfl⟩) (mr_pre C hW) rfl rfl hl.1 rfl (lv_room (Nat.le_of_ble_eq_true rfl)) d_X_pack_29 ⟨Nat.le_of_ble_eq_true rfl, Nat.le_of_ble_eq_true rfl⟩) (fun H locs hW hS => ?_)
    obtain ⟨M8, e8, h⟩ := ob h
    refine mr_sR C hW hS (t0 := 2) (ci := 4) rfl rfl e8 d_X_pack_32 (fun H locs hW hS => ?_)
    refine lv_aload_n hx hb d_X_pack_33 rfl (lv_at hl 0 rfl) ?_
    refine lv_dup hx hb d_X_pack_34 rfl ?_
    obtain ⟨x9, e9, h⟩ := ob h
    refine mr_gI C hW k_X_15 e9 d_X_pack_35 ?_
    refine lv_iconst (v := 1) hx hb d_X_pack_38 (by decide) ?_
    refine lv_iadd hx hb d_X_pack_39 ?_
    obtain ⟨M10, e10, h⟩ := ob h
    refine mr_put C hW hS kp_X_15 rfl rfl e10 d_X_pack_40 (fun H locs hW hS => ?_)
    refine lv_aload_n hx hb d_X_pack_43 rfl (lv_at hl 0 rfl) ?_
    obtain ⟨x11, e11, h⟩ := ob h
    refine mr_gI C hW k_X_15 e11 d_X_pack_44 ?_
    refine lv_iconst (v := 1) hx hb d_X_pack_47 (by decide) ?_
    refine lv_isub hx hb d_X_pack_48 ?_
    exact mr_iret C hW hS (Nat.le_of_ble_eq_true rfl) (Nat.le_of_ble_eq_true rfl) h d_X_pack_49
  · have h := ifn h c2
    refine lv_bipush (v := (-4)) hx hb d_X_pack_9 (by decide) ?_
    exact mr_iret C hW hS (Nat.le_of_ble_eq_true rfl) (Nat.le_of_ble_eq_true rfl) h d_X_pack_11
def f_X_findPack (v0 : Nat) (v1 : Int32) (M : mm) : Option (Option Nat × mm) :=
    if v1 < 0 then
      some (none, M)
    else
      (gI 0 1 M v0).bind fun x2 =>
      if v1 < x2 then
        (gR 0 0 M v0).bind fun x4 =>
        (aR 2 M x4 v1).bind fun x5 =>
        some ((some x5), M)
      else
        some (none, M)
set_option maxHeartbeats 4000000 in
set_option maxRecDepth 100000 in
theorem c_X_findPack (l : Launch) (D : va_G) (dA : Nat → ClassId) (M0 M' : mm) (r : Option Nat) (v0 : Nat) (v1 : Int32) (h : f_X_findPack v0 v1 M0 = some (r, M')) : Met l y_X_findPack w_X_findPack rm_X_findPack (mm_Pre D dA M0 [.ref v0, .int v1]) (mm_QQ D dA M0 r M') 0 0 (mm_A M0) := by
  refine Met.ofW (cc := b_X_findPack) (maxL := 2) (ret := (some (.object "LicenceRows2$Pack"))) (by decide) rfl ?_
  intro p e s m args below meth c s₁ B hml hv
  obtain ⟨rfl, hW, hK⟩ := hv
  have C : mm_C p s m _ meth c b_X_findPack 2 (some (.object "LicenceRows2$Pack")) R_X D dA (mm_A M0) := ⟨B.exec, B.bytes, B.returns, hml, findClass_of_methodNamed B.named, fun w hw => atoms_spec (ws := w_X_findPack) B.pre w (List.mem_cons_of_mem _ hw), B.notSynchronized, hK, fun q hq => Or.inr (by rw [← hW.1]; exact hq)⟩
  have hS : va_S (mm_A M0) s.heap s.heap [] := va_S.rf
  obtain ⟨hx, hb, hr, hml, hown, hts, hlocks, hK, hA⟩ := id C
  have hl := lv_entry ([.ref v0, .int v1]) (n := 2) (Nat.le_of_ble_eq_true rfl)
  rw [lg_entry_eq]
  generalize (lg_sl ([.ref v0, .int v1]) ++ List.replicate (2 - (lg_sl ([.ref v0, .int v1])).length) Slot.unset).toArray = ls at hl ⊢
  have hl : lv_has ls 2 [(0, .ref v0), (1, .int v1)] := hl
  unfold f_X_findPack at h
  refine lv_iload_n hx hb d_X_findPack_0 rfl (lv_at hl 1 rfl) ?_
  refine lv_if_lt (tgt := 12) hx hb d_X_findPack_1 (by decide) (fun c1 => ?_) (fun c1 => ?_)
  · have h := ifp h c1
    refine lv_null hx hb d_X_findPack_12 ?_
    refine lv_goto (tgt := 22) hx hb d_X_findPack_13 (by decide) ?_
    exact mr_aret (v := none) C hW hS (Nat.le_of_ble_eq_true rfl) (Nat.le_of_ble_eq_true rfl) h d_X_findPack_22
  · have h := ifn h c1
    refine lv_iload_n hx hb d_X_findPack_4 rfl (lv_at hl 1 rfl) ?_
    refine lv_aload_n hx hb d_X_findPack_5 rfl (lv_at hl 0 rfl) ?_
    obtain ⟨x2, e2, h⟩ := ob h
    refine mr_gI C hW k_X_15 e2 d_X_findPack_6 ?_
    refine lv_icmp_lt (tgt := 16) hx hb d_X_findPack_9 (by decide) (fun c3 => ?_) (fun c3 => ?_)
    · have h := ifp h c3
      refine lv_aload_n hx hb d_X_findPack_16 rfl (lv_at hl 0 rfl) ?_
      obtain ⟨x4, e4, h⟩ := ob h
      refine mr_gR C hW k_X_11 e4 d_X_findPack_17 ?_
      refine lv_iload_n hx hb d_X_findPack_20 rfl (lv_at hl 1 rfl) ?_
      obtain ⟨x5, e5, h⟩ := ob h
      refine mr_aR C hW (t0 := 2) rfl e5 d_X_findPack_21 ?_
      exact mr_aret (v := (some x5)) C hW hS (Nat.le_of_ble_eq_true rfl) (Nat.le_of_ble_eq_true rfl) h d_X_findPack_22
    · have h := ifn h c3
      refine lv_null hx hb d_X_findPack_12 ?_
      refine lv_goto (tgt := 22) hx hb d_X_findPack_13 (by decide) ?_
      exact mr_aret (v := none) C hW hS (Nat.le_of_ble_eq_true rfl) (Nat.le_of_ble_eq_true rfl) h d_X_findPack_22
def f_X_findNamed_b2 : Nat → Nat → Int32 → Int32 → Int32 → mm → Option (Option Nat × mm)
  | 0, _, _, _, _, _ => none
  | n + 1, v0, v1, v2, v3, M =>
    (gI 0 3 M v0).bind fun x1 =>
    if x1 ≤ v3 then
      some (none, M)
    else
      (gR 0 2 M v0).bind fun x3 =>
      (aR 3 M x3 v3).bind fun x4 =>
      (gR 6 0 M x4).bind fun x5 =>
      (gI 4 0 M x5).bind fun x6 =>
      if x6 = v1 then
        (gI 6 1 M x4).bind fun x8 =>
        if x8 = v2 then
          some ((some x4), M)
        else
          f_X_findNamed_b2 n v0 v1 v2 (v3 + 1) M
      else
        f_X_findNamed_b2 n v0 v1 v2 (v3 + 1) M
def f_X_findNamed (v0 : Nat) (v1 : Int32) (v2 : Int32) (M : mm) : Option (Option Nat × mm) :=
    f_X_findNamed_b2 FU v0 v1 v2 0 M
set_option maxHeartbeats 4000000 in
set_option maxRecDepth 100000 in
theorem w_X_findNamed_b2 {p : Program} {l : Launch} {e : Env} {s : State} {m : MethodId} {args : Array Value} {below : List Frame} {meth : Method} {c : Code} {D : va_G} {dA : Nat → ClassId} {M0 M' : mm} {r : Option Nat} (C : mm_C p s m args meth c b_X_findNamed 5 (some (.object "LicenceRows2$Title")) R_X D dA (mm_A M0)) : ∀ (n : Nat), ∀ (v0 : Nat) (v1 : Int32) (v2 : Int32) (v3 : Int32) (M : mm) (H : Heap) (locs : List Loc) (ls : Array Slot), f_X_findNamed_b2 n v0 v1 v2 v3 M = some (r, M') → mm_W D dA (mm_A M0) M H → va_S (mm_A M0) s.heap H locs → lv_has ls 5 [(0, .ref v0), (1, .int v1), (2, .int v2), (3, .int v3)] → W p l e rm_X_findNamed s m args below meth c H locs 0 0 (MQ below (mm_QQ D dA M0 r M') args s 0 0 (mm_A M0)) (F0 m 2 ls []) := by
  obtain ⟨hx, hb, hr, hml, hown, hts, hlocks, hK, hA⟩ := id C
  intro n
  induction n with
  | zero =>
    intro v0 v1 v2 v3 M H locs ls h hW hS hl
    unfold f_X_findNamed_b2 at h
    cases h
  | succ n ih =>
    intro v0 v1 v2 v3 M H locs ls h hW hS hl
    unfold f_X_findNamed_b2 at h
    refine lv_iload_n hx hb d_X_findNamed_2 rfl (lv_at hl 3 rfl) ?_
    refine lv_aload_n hx hb d_X_findNamed_3 rfl (lv_at hl 0 rfl) ?_
    obtain ⟨x1, e1, h⟩ := ob h
    refine mr_gI C hW k_X_25 e1 d_X_findNamed_4 ?_
    refine lv_icmp_ge (tgt := 53) hx hb d_X_findNamed_7 (by decide) (fun c2 => ?_) (fun c2 => ?_)
    · have h := ifp h c2
      refine lv_null hx hb d_X_findNamed_53 ?_
      exact mr_aret (v := none) C hW hS (Nat.le_of_ble_eq_true rfl) (Nat.le_of_ble_eq_true rfl) h d_X_findNamed_54
    · have h := ifn h c2
      refine lv_aload_n hx hb d_X_findNamed_10 rfl (lv_at hl 0 rfl) ?_
      obtain ⟨x3, e3, h⟩ := ob h
      refine mr_gR C hW k_X_21 e3 d_X_findNamed_11 ?_
      refine lv_iload_n hx hb d_X_findNamed_14 rfl (lv_at hl 3 rfl) ?_
      obtain ⟨x4, e4, h⟩ := ob h
      refine mr_aR C hW (t0 := 3) rfl e4 d_X_findNamed_15 ?_
      refine lv_astore (lv' := [(4, .ref x4), (0, .ref v0), (1, .int v1), (2, .int v2), (3, .int v3)]) hx hb d_X_findNamed_16 hl (by decide) rfl (fun ls hl => ?_)
      refine lv_aload hx hb d_X_findNamed_18 (lv_at hl 0 rfl) ?_
      refine lv_ifnull hx hb d_X_findNamed_20 ?_
      refine lv_aload hx hb d_X_findNamed_23 (lv_at hl 0 rfl) ?_
      obtain ⟨x5, e5, h⟩ := ob h
      refine mr_gR C hW k_X_175 e5 d_X_findNamed_25 ?_
      obtain ⟨x6, e6, h⟩ := ob h
      refine mr_gI C hW k_X_179 e6 d_X_findNamed_28 ?_
      refine lv_iload_n hx hb d_X_findNamed_31 rfl (lv_at hl 2 rfl) ?_
      refine lv_icmp_ne (tgt := 47) hx hb d_X_findNamed_32 (by decide) (fun c7 => ?_) (fun c7 => ?_)
      · have h := ifn h c7
        refine lv_iinc (v := v3 + 1) (lv' := [(3, .int (v3 + 1)), (4, .ref x4), (0, .ref v0), (1, .int v1), (2, .int v2)]) hx hb d_X_findNamed_47 hl (k := 4) rfl rfl (by decide) rfl (fun ls hl => ?_)
        refine lv_goto (tgt := 2) hx hb d_X_findNamed_50 (by decide) ?_
        exact ih _ _ _ _ _ _ _ _ h hW hS (lv_sub hl [2, 3, 4, 0] rfl)
      · have h := ifp h c7
        refine lv_aload hx hb d_X_findNamed_35 (lv_at hl 0 rfl) ?_
        obtain ⟨x8, e8, h⟩ := ob h
        refine mr_gI C hW k_X_166 e8 d_X_findNamed_37 ?_
        refine lv_iload_n hx hb d_X_findNamed_40 rfl (lv_at hl 3 rfl) ?_
        refine lv_icmp_ne (tgt := 47) hx hb d_X_findNamed_41 (by decide) (fun c9 => ?_) (fun c9 => ?_)
        · have h := ifn h c9
          refine lv_iinc (v := v3 + 1) (lv' := [(3, .int (v3 + 1)), (4, .ref x4), (0, .ref v0), (1, .int v1), (2, .int v2)]) hx hb d_X_findNamed_47 hl (k := 4) rfl rfl (by decide) rfl (fun ls hl => ?_)
          refine lv_goto (tgt := 2) hx hb d_X_findNamed_50 (by decide) ?_
          exact ih _ _ _ _ _ _ _ _ h hW hS (lv_sub hl [2, 3, 4, 0] rfl)
        · have h := ifp h c9
          refine lv_aload hx hb d_X_findNamed_44 (lv_at hl 0 rfl) ?_
          exact mr_aret (v := (some x4)) C hW hS (Nat.le_of_ble_eq_true rfl) (Nat.le_of_ble_eq_true rfl) h d_X_findNamed_46
set_option maxHeartbeats 4000000 in
set_option maxRecDepth 100000 in
theorem c_X_findNamed (l : Launch) (D : va_G) (dA : Nat → ClassId) (M0 M' : mm) (r : Option Nat) (v0 : Nat) (v1 : Int32) (v2 : Int32) (h : f_X_findNamed v0 v1 v2 M0 = some (r, M')) : Met l y_X_findNamed w_X_findNamed rm_X_findNamed (mm_Pre D dA M0 [.ref v0, .int v1, .int v2]) (mm_QQ D dA M0 r M') 0 0 (mm_A M0) := by
  refine Met.ofW (cc := b_X_findNamed) (maxL := 5) (ret := (some (.object "LicenceRows2$Title"))) (by decide) rfl ?_
  intro p e s m args below meth c s₁ B hml hv
  obtain ⟨rfl, hW, hK⟩ := hv
  have C : mm_C p s m _ meth c b_X_findNamed 5 (some (.object "LicenceRows2$Title")) R_X D dA (mm_A M0) := ⟨B.exec, B.bytes, B.returns, hml, findClass_of_methodNamed B.named, fun w hw => atoms_spec (ws := w_X_findNamed) B.pre w (List.mem_cons_of_mem _ hw), B.notSynchronized, hK, fun q hq => Or.inr (by rw [← hW.1]; exact hq)⟩
  have hS : va_S (mm_A M0) s.heap s.heap [] := va_S.rf
  obtain ⟨hx, hb, hr, hml, hown, hts, hlocks, hK, hA⟩ := id C
  have hl := lv_entry ([.ref v0, .int v1, .int v2]) (n := 5) (Nat.le_of_ble_eq_true rfl)
  rw [lg_entry_eq]
  generalize (lg_sl ([.ref v0, .int v1, .int v2]) ++ List.replicate (5 - (lg_sl ([.ref v0, .int v1, .int v2])).length) Slot.unset).toArray = ls at hl ⊢
  have hl : lv_has ls 5 [(0, .ref v0), (1, .int v1), (2, .int v2)] := hl
  unfold f_X_findNamed at h
  refine lv_iconst (v := 0) hx hb d_X_findNamed_0 (by decide) ?_
  refine lv_istore_n (lv' := [(3, .int 0), (0, .ref v0), (1, .int v1), (2, .int v2)]) hx hb d_X_findNamed_1 rfl hl (by decide) rfl (fun ls hl => ?_)
  exact w_X_findNamed_b2 C FU _ _ _ _ _ _ _ _ h hW hS (lv_sub hl [1, 2, 3, 0] rfl)
def f_X_title (v0 : Nat) (v1 : Int32) (v2 : Int32) (M : mm) : Option (Int32 × mm) :=
    (kO 0 M v0).bind fun _ =>
    (f_X_findPack v0 v1 M).bind fun (x1, M1) =>
    qm x1 (
      some ((-1), M1)
      ) fun x3 =>
    (kO 0 M1 v0).bind fun _ =>
    (f_X_findNamed v0 v1 v2 M1).bind fun (x4, M4) =>
    qm x4 (
      (gI 0 3 M4 v0).bind fun x7 =>
      if x7 < 200 then
        (gR 0 2 M4 v0).bind fun x9 =>
        (gI 0 3 M4 v0).bind fun x10 =>
        (nO 6 [.null, .int 0, .int 0, .int 0, .null, .null, .int 0] M4).bind fun (x11, M11) =>
        (f_Title_init x11 x3 v2 M11).bind fun (_, M12) =>
        (sR 3 6 x11 M12 x9 x10).bind fun M13 =>
        (gI 0 3 M13 v0).bind fun x14 =>
        (pF 0 3 (.int (x14 + 1)) M13 v0).bind fun M15 =>
        (gI 0 3 M15 v0).bind fun x16 =>
        some (x16 - 1, M15)
      else
        some ((-4), M4)
      ) fun x6 =>
    some ((-3), M4)
set_option maxHeartbeats 4000000 in
set_option maxRecDepth 100000 in
theorem c_X_title (l : Launch) (D : va_G) (dA : Nat → ClassId) (M0 M' : mm) (r : Int32) (v0 : Nat) (v1 : Int32) (v2 : Int32) (h : f_X_title v0 v1 v2 M0 = some (r, M')) : Met l y_X_title w_X_title rm_X_title (mm_Pre D dA M0 [.ref v0, .int v1, .int v2]) (mm_QI D dA M0 r M') 3 27 (mm_A M0) := by
  refine Met.ofW (cc := b_X_title) (maxL := 4) (ret := (some .int)) (by decide) rfl ?_
  intro p e s m args below meth c s₁ B hml hv
  obtain ⟨rfl, hW, hK⟩ := hv
  have C : mm_C p s m _ meth c b_X_title 4 (some .int) R_X D dA (mm_A M0) := ⟨B.exec, B.bytes, B.returns, hml, findClass_of_methodNamed B.named, fun w hw => atoms_spec (ws := w_X_title) B.pre w (List.mem_cons_of_mem _ hw), B.notSynchronized, hK, fun q hq => Or.inr (by rw [← hW.1]; exact hq)⟩
  have hS : va_S (mm_A M0) s.heap s.heap [] := va_S.rf
  obtain ⟨hx, hb, hr, hml, hown, hts, hlocks, hK, hA⟩ := id C
  have hl := lv_entry ([.ref v0, .int v1, .int v2]) (n := 4) (Nat.le_of_ble_eq_true rfl)
  rw [lg_entry_eq]
  generalize (lg_sl ([.ref v0, .int v1, .int v2]) ++ List.replicate (4 - (lg_sl ([.ref v0, .int v1, .int v2])).length) Slot.unset).toArray = ls at hl ⊢
  have hl : lv_has ls 4 [(0, .ref v0), (1, .int v1), (2, .int v2)] := hl
  unfold f_X_title at h
  refine lv_aload_n hx hb d_X_title_0 rfl (lv_at hl 0 rfl) ?_
  refine lv_iload_n hx hb d_X_title_1 rfl (lv_at hl 1 rfl) ?_
  obtain ⟨_, e2, h⟩ := ob h
  obtain ⟨⟨x1, M1⟩, e1, h⟩ := ob h
  refine mr_cq C hW hS (va_runV (As := [.int v1]) (rest := []) ⟨hx, hb, hml, hown, hts⟩ (c_X_findPack l D dA _ _ _ v0 v1 e1) (cwV 1 hts (mg_V q_67 q_68 q_69 q_70 q_71) rfl rfl rfl (by decide +kernel) ⟨Nat.le_of_ble_eq_true rfl, Nat.le_of_ble_eq_true rfl⟩) (mr_preV C hW (ci := 0) rfl e2) rfl rfl hl.1 rfl (lv_room (Nat.le_of_ble_eq_true rfl)) d_X_title_2 ⟨Nat.le_of_ble_eq_true rfl, Nat.le_of_ble_eq_true rfl⟩) (fun H locs hW hS => ?_)
  refine mr_astore_nq (lv' := [(3, va_rf x1), (0, .ref v0), (1, .int v1), (2, .int v2)]) hx hb d_X_title_5 rfl hl (by decide) rfl (fun ls hl => ?_)
  refine mr_aload_nq hx hb d_X_title_6 rfl (lv_at hl 0 rfl) ?_
  refine mr_ifnonnull (tgt := 12) hx hb d_X_title_7 (by decide) (fun x3 e3 => ?_) (fun e3 => ?_)
  · rw [e3] at h
    rw [e3] at hl
    have hl : lv_has ls 4 [(3, .ref x3), (0, .ref v0), (1, .int v1), (2, .int v2)] := hl
    refine lv_aload_n hx hb d_X_title_12 rfl (lv_at hl 1 rfl) ?_
    refine lv_iload_n hx hb d_X_title_13 rfl (lv_at hl 2 rfl) ?_
    refine lv_iload_n hx hb d_X_title_14 rfl (lv_at hl 3 rfl) ?_
    obtain ⟨_, e5, h⟩ := ob h
    obtain ⟨⟨x4, M4⟩, e4, h⟩ := ob h
    refine mr_cq C hW hS (va_runV (As := [.int v1, .int v2]) (rest := []) ⟨hx, hb, hml, hown, hts⟩ (c_X_findNamed l D dA _ _ _ v0 v1 v2 e4) (cwV 2 hts (mg_V q_72 q_73 q_74 q_75 q_71) rfl rfl rfl (by decide +kernel) ⟨Nat.le_of_ble_eq_true rfl, Nat.le_of_ble_eq_true rfl⟩) (mr_preV C hW (ci := 0) rfl e5) rfl rfl hl.1 rfl (lv_room (Nat.le_of_ble_eq_true rfl)) d_X_title_15 ⟨Nat.le_of_ble_eq_true rfl, Nat.le_of_ble_eq_true rfl⟩) (fun H locs hW hS => ?_)
    refine mr_ifnull (tgt := 24) hx hb d_X_title_18 (by decide) (fun e6 => ?_) (fun x6 e6 => ?_)
    · rw [e6] at h
      refine lv_aload_n hx hb d_X_title_24 rfl (lv_at hl 1 rfl) ?_
      obtain ⟨x7, e7, h⟩ := ob h
      refine mr_gI C hW k_X_25 e7 d_X_title_25 ?_
      refine lv_sipush (v := 200) hx hb d_X_title_28 (by decide) ?_
      refine lv_icmp_lt (tgt := 37) hx hb d_X_title_31 (by decide) (fun c8 => ?_) (fun c8 => ?_)
      · have h := ifp h c8
        refine lv_aload_n hx hb d_X_title_37 rfl (lv_at hl 1 rfl) ?_
        obtain ⟨x9, e9, h⟩ := ob h
        refine mr_gR C hW k_X_21 e9 d_X_title_38 ?_
        refine lv_aload_n hx hb d_X_title_41 rfl (lv_at hl 1 rfl) ?_
        obtain ⟨x10, e10, h⟩ := ob h
        refine mr_gI C hW k_X_25 e10 d_X_title_42 ?_
        obtain ⟨⟨x11, M11⟩, e11, h⟩ := ob h
        refine mr_nO C hW hS (ci := 6) rfl i_Title t_Title_ok ⟨q_16, q_76, q_77⟩ z_Title (Nat.le_of_ble_eq_true rfl) (Nat.le_of_ble_eq_true rfl) e11 d_X_title_45 (fun H hW hS => ?_)
        refine lv_dup hx hb d_X_title_48 rfl ?_
        refine lv_aload_n hx hb d_X_title_49 rfl (lv_at hl 0 rfl) ?_
        refine lv_iload_n hx hb d_X_title_50 rfl (lv_at hl 3 rfl) ?_
        obtain ⟨⟨u12, M12⟩, e12, h⟩ := ob h
        refine mr_cv C hW hS (va_runI (As := [.ref x3, .int v2]) (rest := [.ref x11, .int x10, .ref x9]) ⟨hx, hb, hml, hown, hts⟩ (c_Title_init l D dA _ _ _ x11 x3 v2 e12) (cwI 2 hts (mg_in q_78) rfl rfl rfl (hts _ q_77) (hts _ q_79) (hts _ q_80) rfl (by decide +kernel) ⟨Nat.le_of_ble_eq_true rfl, Nat.le_of_ble_eq_true rfl⟩) (mr_pre C hW) rfl rfl hl.1 rfl (lv_room (Nat.le_of_ble_eq_true rfl)) d_X_title_51 ⟨Nat.le_of_ble_eq_true rfl, Nat.le_of_ble_eq_true rfl⟩) (fun H locs hW hS => ?_)
        obtain ⟨M13, e13, h⟩ := ob h
        refine mr_sR C hW hS (t0 := 3) (ci := 6) rfl rfl e13 d_X_title_54 (fun H locs hW hS => ?_)
        refine lv_aload_n hx hb d_X_title_55 rfl (lv_at hl 1 rfl) ?_
        refine lv_dup hx hb d_X_title_56 rfl ?_
        obtain ⟨x14, e14, h⟩ := ob h
        refine mr_gI C hW k_X_25 e14 d_X_title_57 ?_
        refine lv_iconst (v := 1) hx hb d_X_title_60 (by decide) ?_
        refine lv_iadd hx hb d_X_title_61 ?_
        obtain ⟨M15, e15, h⟩ := ob h
        refine mr_put C hW hS kp_X_25 rfl rfl e15 d_X_title_62 (fun H locs hW hS => ?_)
        refine lv_aload_n hx hb d_X_title_65 rfl (lv_at hl 1 rfl) ?_
        obtain ⟨x16, e16, h⟩ := ob h
        refine mr_gI C hW k_X_25 e16 d_X_title_66 ?_
        refine lv_iconst (v := 1) hx hb d_X_title_69 (by decide) ?_
        refine lv_isub hx hb d_X_title_70 ?_
        exact mr_iret C hW hS (Nat.le_of_ble_eq_true rfl) (Nat.le_of_ble_eq_true rfl) h d_X_title_71
      · have h := ifn h c8
        refine lv_bipush (v := (-4)) hx hb d_X_title_34 (by decide) ?_
        exact mr_iret C hW hS (Nat.le_of_ble_eq_true rfl) (Nat.le_of_ble_eq_true rfl) h d_X_title_36
    · rw [e6] at h
      refine lv_bipush (v := (-3)) hx hb d_X_title_21 (by decide) ?_
      exact mr_iret C hW hS (Nat.le_of_ble_eq_true rfl) (Nat.le_of_ble_eq_true rfl) h d_X_title_23
  · rw [e3] at h
    refine lv_iconst (v := (-1)) hx hb d_X_title_10 (by decide) ?_
    exact mr_iret C hW hS (Nat.le_of_ble_eq_true rfl) (Nat.le_of_ble_eq_true rfl) h d_X_title_11
def f_X_findTitle (v0 : Nat) (v1 : Int32) (M : mm) : Option (Option Nat × mm) :=
    if v1 < 0 then
      some (none, M)
    else
      (gI 0 3 M v0).bind fun x2 =>
      if v1 < x2 then
        (gR 0 2 M v0).bind fun x4 =>
        (aR 3 M x4 v1).bind fun x5 =>
        some ((some x5), M)
      else
        some (none, M)
set_option maxHeartbeats 4000000 in
set_option maxRecDepth 100000 in
theorem c_X_findTitle (l : Launch) (D : va_G) (dA : Nat → ClassId) (M0 M' : mm) (r : Option Nat) (v0 : Nat) (v1 : Int32) (h : f_X_findTitle v0 v1 M0 = some (r, M')) : Met l y_X_findTitle w_X_findTitle rm_X_findTitle (mm_Pre D dA M0 [.ref v0, .int v1]) (mm_QQ D dA M0 r M') 0 0 (mm_A M0) := by
  refine Met.ofW (cc := b_X_findTitle) (maxL := 2) (ret := (some (.object "LicenceRows2$Title"))) (by decide) rfl ?_
  intro p e s m args below meth c s₁ B hml hv
  obtain ⟨rfl, hW, hK⟩ := hv
  have C : mm_C p s m _ meth c b_X_findTitle 2 (some (.object "LicenceRows2$Title")) R_X D dA (mm_A M0) := ⟨B.exec, B.bytes, B.returns, hml, findClass_of_methodNamed B.named, fun w hw => atoms_spec (ws := w_X_findTitle) B.pre w (List.mem_cons_of_mem _ hw), B.notSynchronized, hK, fun q hq => Or.inr (by rw [← hW.1]; exact hq)⟩
  have hS : va_S (mm_A M0) s.heap s.heap [] := va_S.rf
  obtain ⟨hx, hb, hr, hml, hown, hts, hlocks, hK, hA⟩ := id C
  have hl := lv_entry ([.ref v0, .int v1]) (n := 2) (Nat.le_of_ble_eq_true rfl)
  rw [lg_entry_eq]
  generalize (lg_sl ([.ref v0, .int v1]) ++ List.replicate (2 - (lg_sl ([.ref v0, .int v1])).length) Slot.unset).toArray = ls at hl ⊢
  have hl : lv_has ls 2 [(0, .ref v0), (1, .int v1)] := hl
  unfold f_X_findTitle at h
  refine lv_iload_n hx hb d_X_findTitle_0 rfl (lv_at hl 1 rfl) ?_
  refine lv_if_lt (tgt := 12) hx hb d_X_findTitle_1 (by decide) (fun c1 => ?_) (fun c1 => ?_)
  · have h := ifp h c1
    refine lv_null hx hb d_X_findTitle_12 ?_
    refine lv_goto (tgt := 22) hx hb d_X_findTitle_13 (by decide) ?_
    exact mr_aret (v := none) C hW hS (Nat.le_of_ble_eq_true rfl) (Nat.le_of_ble_eq_true rfl) h d_X_findTitle_22
  · have h := ifn h c1
    refine lv_iload_n hx hb d_X_findTitle_4 rfl (lv_at hl 1 rfl) ?_
    refine lv_aload_n hx hb d_X_findTitle_5 rfl (lv_at hl 0 rfl) ?_
    obtain ⟨x2, e2, h⟩ := ob h
    refine mr_gI C hW k_X_25 e2 d_X_findTitle_6 ?_
    refine lv_icmp_lt (tgt := 16) hx hb d_X_findTitle_9 (by decide) (fun c3 => ?_) (fun c3 => ?_)
    · have h := ifp h c3
      refine lv_aload_n hx hb d_X_findTitle_16 rfl (lv_at hl 0 rfl) ?_
      obtain ⟨x4, e4, h⟩ := ob h
      refine mr_gR C hW k_X_21 e4 d_X_findTitle_17 ?_
      refine lv_iload_n hx hb d_X_findTitle_20 rfl (lv_at hl 1 rfl) ?_
      obtain ⟨x5, e5, h⟩ := ob h
      refine mr_aR C hW (t0 := 3) rfl e5 d_X_findTitle_21 ?_
      exact mr_aret (v := (some x5)) C hW hS (Nat.le_of_ble_eq_true rfl) (Nat.le_of_ble_eq_true rfl) h d_X_findTitle_22
    · have h := ifn h c3
      refine lv_null hx hb d_X_findTitle_12 ?_
      refine lv_goto (tgt := 22) hx hb d_X_findTitle_13 (by decide) ?_
      exact mr_aret (v := none) C hW hS (Nat.le_of_ble_eq_true rfl) (Nat.le_of_ble_eq_true rfl) h d_X_findTitle_22
def f_X_isDay (v0 : Int32) (M : mm) : Option (Int32 × mm) :=
    if v0 < 0 then
      (kB 0).bind fun _ =>
      some (0, M)
    else
      if 200000 < v0 then
        (kB 0).bind fun _ =>
        some (0, M)
      else
        (kB 1).bind fun _ =>
        some (1, M)
set_option maxHeartbeats 4000000 in
set_option maxRecDepth 100000 in
theorem c_X_isDay (l : Launch) (D : va_G) (dA : Nat → ClassId) (M0 M' : mm) (r : Int32) (v0 : Int32) (h : f_X_isDay v0 M0 = some (r, M')) : Met l y_X_isDay w_X_isDay rm_X_isDay (mm_Pre D dA M0 [.int v0]) (mm_QI D dA M0 r M') 0 0 (mm_A M0) := by
  refine Met.ofW (cc := b_X_isDay) (maxL := 1) (ret := (some .boolean)) (by decide) rfl ?_
  intro p e s m args below meth c s₁ B hml hv
  obtain ⟨rfl, hW, hK⟩ := hv
  have C : mm_C p s m _ meth c b_X_isDay 1 (some .boolean) R_X D dA (mm_A M0) := ⟨B.exec, B.bytes, B.returns, hml, findClass_of_methodNamed B.named, fun w hw => atoms_spec (ws := w_X_isDay) B.pre w (List.mem_cons_of_mem _ hw), B.notSynchronized, hK, fun q hq => Or.inr (by rw [← hW.1]; exact hq)⟩
  have hS : va_S (mm_A M0) s.heap s.heap [] := va_S.rf
  obtain ⟨hx, hb, hr, hml, hown, hts, hlocks, hK, hA⟩ := id C
  have hl := lv_entry ([.int v0]) (n := 1) (Nat.le_of_ble_eq_true rfl)
  rw [lg_entry_eq]
  generalize (lg_sl ([.int v0]) ++ List.replicate (1 - (lg_sl ([.int v0])).length) Slot.unset).toArray = ls at hl ⊢
  have hl : lv_has ls 1 [(0, .int v0)] := hl
  unfold f_X_isDay at h
  refine lv_iload_n hx hb d_X_isDay_0 rfl (lv_at hl 0 rfl) ?_
  refine lv_if_lt (tgt := 14) hx hb d_X_isDay_1 (by decide) (fun c1 => ?_) (fun c1 => ?_)
  · have h := ifp h c1
    refine lv_iconst (v := 0) hx hb d_X_isDay_14 (by decide) ?_
    obtain ⟨_, e2, h⟩ := ob h
    exact mr_zret C hW hS (Nat.le_of_ble_eq_true rfl) (Nat.le_of_ble_eq_true rfl) e2 h d_X_isDay_15
  · have h := ifn h c1
    refine lv_iload_n hx hb d_X_isDay_4 rfl (lv_at hl 0 rfl) ?_
    refine lv_ldc (v := 200000) hx hb hown (hts _ q_81) d_X_isDay_5 ?_
    refine lv_icmp_gt (tgt := 14) hx hb d_X_isDay_7 (by decide) (fun c3 => ?_) (fun c3 => ?_)
    · have h := ifp h c3
      refine lv_iconst (v := 0) hx hb d_X_isDay_14 (by decide) ?_
      obtain ⟨_, e4, h⟩ := ob h
      exact mr_zret C hW hS (Nat.le_of_ble_eq_true rfl) (Nat.le_of_ble_eq_true rfl) e4 h d_X_isDay_15
    · have h := ifn h c3
      refine lv_iconst (v := 1) hx hb d_X_isDay_10 (by decide) ?_
      refine lv_goto (tgt := 15) hx hb d_X_isDay_11 (by decide) ?_
      obtain ⟨_, e5, h⟩ := ob h
      exact mr_zret C hW hS (Nat.le_of_ble_eq_true rfl) (Nat.le_of_ble_eq_true rfl) e5 h d_X_isDay_15
def f_X_cover (v0 : Nat) (v1 : Int32) (v2 : Int32) (v3 : Int32) (M : mm) : Option (Int32 × mm) :=
    (kO 0 M v0).bind fun _ =>
    (f_X_findTitle v0 v1 M).bind fun (x1, M1) =>
    qm x1 (
      some ((-1), M1)
      ) fun x3 =>
    (f_X_isDay v2 M1).bind fun (x4, M4) =>
    if x4 = 0 then
      some ((-2), M4)
    else
      (f_X_isDay v3 M4).bind fun (x6, M6) =>
      if x6 = 0 then
        some ((-2), M6)
      else
        if v2 ≤ v3 then
          (kO 6 M6 x3).bind fun _ =>
          (f_Title_meets x3 v2 v3 M6).bind fun (x9, M9) =>
          if x9 = 0 then
            (gI 6 6 M9 x3).bind fun x12 =>
            if x12 < 10 then
              (kO 6 M9 x3).bind fun _ =>
              (f_Title_addSpan x3 v2 v3 M9).bind fun (_, M14) =>
              (gI 6 6 M14 x3).bind fun x16 =>
              some (x16, M14)
            else
              some ((-4), M9)
          else
            some ((-3), M9)
        else
          some ((-2), M6)
set_option maxHeartbeats 4000000 in
set_option maxRecDepth 100000 in
theorem c_X_cover (l : Launch) (D : va_G) (dA : Nat → ClassId) (M0 M' : mm) (r : Int32) (v0 : Nat) (v1 : Int32) (v2 : Int32) (v3 : Int32) (h : f_X_cover v0 v1 v2 v3 M0 = some (r, M')) : Met l y_X_cover w_X_cover rm_X_cover (mm_Pre D dA M0 [.ref v0, .int v1, .int v2, .int v3]) (mm_QI D dA M0 r M') 0 0 (mm_A M0) := by
  refine Met.ofW (cc := b_X_cover) (maxL := 5) (ret := (some .int)) (by decide) rfl ?_
  intro p e s m args below meth c s₁ B hml hv
  obtain ⟨rfl, hW, hK⟩ := hv
  have C : mm_C p s m _ meth c b_X_cover 5 (some .int) R_X D dA (mm_A M0) := ⟨B.exec, B.bytes, B.returns, hml, findClass_of_methodNamed B.named, fun w hw => atoms_spec (ws := w_X_cover) B.pre w (List.mem_cons_of_mem _ hw), B.notSynchronized, hK, fun q hq => Or.inr (by rw [← hW.1]; exact hq)⟩
  have hS : va_S (mm_A M0) s.heap s.heap [] := va_S.rf
  obtain ⟨hx, hb, hr, hml, hown, hts, hlocks, hK, hA⟩ := id C
  have hl := lv_entry ([.ref v0, .int v1, .int v2, .int v3]) (n := 5) (Nat.le_of_ble_eq_true rfl)
  rw [lg_entry_eq]
  generalize (lg_sl ([.ref v0, .int v1, .int v2, .int v3]) ++ List.replicate (5 - (lg_sl ([.ref v0, .int v1, .int v2, .int v3])).length) Slot.unset).toArray = ls at hl ⊢
  have hl : lv_has ls 5 [(0, .ref v0), (1, .int v1), (2, .int v2), (3, .int v3)] := hl
  unfold f_X_cover at h
  refine lv_aload_n hx hb d_X_cover_0 rfl (lv_at hl 0 rfl) ?_
  refine lv_iload_n hx hb d_X_cover_1 rfl (lv_at hl 1 rfl) ?_
  obtain ⟨_, e2, h⟩ := ob h
  obtain ⟨⟨x1, M1⟩, e1, h⟩ := ob h
  refine mr_cq C hW hS (va_runV (As := [.int v1]) (rest := []) ⟨hx, hb, hml, hown, hts⟩ (c_X_findTitle l D dA _ _ _ v0 v1 e1) (cwV 1 hts (mg_V q_82 q_83 q_84 q_85 q_71) rfl rfl rfl (by decide +kernel) ⟨Nat.le_of_ble_eq_true rfl, Nat.le_of_ble_eq_true rfl⟩) (mr_preV C hW (ci := 0) rfl e2) rfl rfl hl.1 rfl (lv_room (Nat.le_of_ble_eq_true rfl)) d_X_cover_2 ⟨Nat.le_of_ble_eq_true rfl, Nat.le_of_ble_eq_true rfl⟩) (fun H locs hW hS => ?_)
  refine mr_astoreq (lv' := [(4, va_rf x1), (0, .ref v0), (1, .int v1), (2, .int v2), (3, .int v3)]) hx hb d_X_cover_5 hl (by decide) rfl (fun ls hl => ?_)
  refine mr_aloadq hx hb d_X_cover_7 (lv_at hl 0 rfl) ?_
  refine mr_ifnonnull (tgt := 14) hx hb d_X_cover_9 (by decide) (fun x3 e3 => ?_) (fun e3 => ?_)
  · rw [e3] at h
    rw [e3] at hl
    have hl : lv_has ls 5 [(4, .ref x3), (0, .ref v0), (1, .int v1), (2, .int v2), (3, .int v3)] := hl
    refine lv_iload_n hx hb d_X_cover_14 rfl (lv_at hl 3 rfl) ?_
    obtain ⟨⟨x4, M4⟩, e4, h⟩ := ob h
    refine mr_ci C hW hS (va_runS (As := [.int v2]) (rest := []) ⟨hx, hb, hml, hown, hts⟩ (c_X_isDay l D dA _ _ _ v2 e4) (cwS 1 hts (mg_S q_86 q_87 q_88 q_71) rfl rfl rfl (by decide +kernel) ⟨Nat.le_of_ble_eq_true rfl, Nat.le_of_ble_eq_true rfl⟩) (mr_pre C hW) rfl rfl hl.1 rfl (lv_room (Nat.le_of_ble_eq_true rfl)) d_X_cover_15 ⟨Nat.le_of_ble_eq_true rfl, Nat.le_of_ble_eq_true rfl⟩) (fun H locs hW hS => ?_)
    refine lv_if_eq (tgt := 33) hx hb d_X_cover_18 (by decide) (fun c5 => ?_) (fun c5 => ?_)
    · have h := ifp h c5
      refine lv_bipush (v := (-2)) hx hb d_X_cover_33 (by decide) ?_
      exact mr_iret C hW hS (Nat.le_of_ble_eq_true rfl) (Nat.le_of_ble_eq_true rfl) h d_X_cover_35
    · have h := ifn h c5
      refine lv_iload_n hx hb d_X_cover_21 rfl (lv_at hl 4 rfl) ?_
      obtain ⟨⟨x6, M6⟩, e6, h⟩ := ob h
      refine mr_ci C hW hS (va_runS (As := [.int v3]) (rest := []) ⟨hx, hb, hml, hown, hts⟩ (c_X_isDay l D dA _ _ _ v3 e6) (cwS 1 hts (mg_S q_86 q_87 q_88 q_71) rfl rfl rfl (by decide +kernel) ⟨Nat.le_of_ble_eq_true rfl, Nat.le_of_ble_eq_true rfl⟩) (mr_pre C hW) rfl rfl hl.1 rfl (lv_room (Nat.le_of_ble_eq_true rfl)) d_X_cover_22 ⟨Nat.le_of_ble_eq_true rfl, Nat.le_of_ble_eq_true rfl⟩) (fun H locs hW hS => ?_)
      refine lv_if_eq (tgt := 33) hx hb d_X_cover_25 (by decide) (fun c7 => ?_) (fun c7 => ?_)
      · have h := ifp h c7
        refine lv_bipush (v := (-2)) hx hb d_X_cover_33 (by decide) ?_
        exact mr_iret C hW hS (Nat.le_of_ble_eq_true rfl) (Nat.le_of_ble_eq_true rfl) h d_X_cover_35
      · have h := ifn h c7
        refine lv_iload_n hx hb d_X_cover_28 rfl (lv_at hl 3 rfl) ?_
        refine lv_iload_n hx hb d_X_cover_29 rfl (lv_at hl 4 rfl) ?_
        refine lv_icmp_le (tgt := 36) hx hb d_X_cover_30 (by decide) (fun c8 => ?_) (fun c8 => ?_)
        · have h := ifp h c8
          refine lv_aload hx hb d_X_cover_36 (lv_at hl 0 rfl) ?_
          refine lv_iload_n hx hb d_X_cover_38 rfl (lv_at hl 3 rfl) ?_
          refine lv_iload_n hx hb d_X_cover_39 rfl (lv_at hl 4 rfl) ?_
          obtain ⟨_, e10, h⟩ := ob h
          obtain ⟨⟨x9, M9⟩, e9, h⟩ := ob h
          refine mr_ci C hW hS (va_runV (As := [.int v2, .int v3]) (rest := []) ⟨hx, hb, hml, hown, hts⟩ (c_Title_meets l D dA _ _ _ x3 v2 v3 e9) (cwV 2 hts (mg_V q_89 q_90 q_91 q_92 q_77) rfl rfl rfl (by decide +kernel) ⟨Nat.le_of_ble_eq_true rfl, Nat.le_of_ble_eq_true rfl⟩) (mr_preV C hW (ci := 6) rfl e10) rfl rfl hl.1 rfl (lv_room (Nat.le_of_ble_eq_true rfl)) d_X_cover_40 ⟨Nat.le_of_ble_eq_true rfl, Nat.le_of_ble_eq_true rfl⟩) (fun H locs hW hS => ?_)
          refine lv_if_eq (tgt := 49) hx hb d_X_cover_43 (by decide) (fun c11 => ?_) (fun c11 => ?_)
          · have h := ifp h c11
            refine lv_aload hx hb d_X_cover_49 (lv_at hl 0 rfl) ?_
            obtain ⟨x12, e12, h⟩ := ob h
            refine mr_gI C hW k_X_84 e12 d_X_cover_51 ?_
            refine lv_bipush (v := 10) hx hb d_X_cover_54 (by decide) ?_
            refine lv_icmp_lt (tgt := 62) hx hb d_X_cover_56 (by decide) (fun c13 => ?_) (fun c13 => ?_)
            · have h := ifp h c13
              refine lv_aload hx hb d_X_cover_62 (lv_at hl 0 rfl) ?_
              refine lv_iload_n hx hb d_X_cover_64 rfl (lv_at hl 3 rfl) ?_
              refine lv_iload_n hx hb d_X_cover_65 rfl (lv_at hl 4 rfl) ?_
              obtain ⟨_, e15, h⟩ := ob h
              obtain ⟨⟨u14, M14⟩, e14, h⟩ := ob h
              refine mr_cv C hW hS (va_runV (As := [.int v2, .int v3]) (rest := []) ⟨hx, hb, hml, hown, hts⟩ (c_Title_addSpan l D dA _ _ _ x3 v2 v3 e14) (cwV 2 hts (mg_V q_94 q_95 q_96 q_97 q_77) rfl rfl rfl (by decide +kernel) ⟨Nat.le_of_ble_eq_true rfl, Nat.le_of_ble_eq_true rfl⟩) (mr_preV C hW (ci := 6) rfl e15) rfl rfl hl.1 rfl (lv_room (Nat.le_of_ble_eq_true rfl)) d_X_cover_66 ⟨Nat.le_of_ble_eq_true rfl, Nat.le_of_ble_eq_true rfl⟩) (fun H locs hW hS => ?_)
              refine lv_aload hx hb d_X_cover_69 (lv_at hl 0 rfl) ?_
              obtain ⟨x16, e16, h⟩ := ob h
              refine mr_gI C hW k_X_84 e16 d_X_cover_71 ?_
              exact mr_iret C hW hS (Nat.le_of_ble_eq_true rfl) (Nat.le_of_ble_eq_true rfl) h d_X_cover_74
            · have h := ifn h c13
              refine lv_bipush (v := (-4)) hx hb d_X_cover_59 (by decide) ?_
              exact mr_iret C hW hS (Nat.le_of_ble_eq_true rfl) (Nat.le_of_ble_eq_true rfl) h d_X_cover_61
          · have h := ifn h c11
            refine lv_bipush (v := (-3)) hx hb d_X_cover_46 (by decide) ?_
            exact mr_iret C hW hS (Nat.le_of_ble_eq_true rfl) (Nat.le_of_ble_eq_true rfl) h d_X_cover_48
        · have h := ifn h c8
          refine lv_bipush (v := (-2)) hx hb d_X_cover_33 (by decide) ?_
          exact mr_iret C hW hS (Nat.le_of_ble_eq_true rfl) (Nat.le_of_ble_eq_true rfl) h d_X_cover_35
  · rw [e3] at h
    refine lv_iconst (v := (-1)) hx hb d_X_cover_12 (by decide) ?_
    exact mr_iret C hW hS (Nat.le_of_ble_eq_true rfl) (Nat.le_of_ble_eq_true rfl) h d_X_cover_13
def f_X_embargo (v0 : Nat) (v1 : Int32) (v2 : Int32) (v3 : Int32) (M : mm) : Option (Int32 × mm) :=
    (kO 0 M v0).bind fun _ =>
    (f_X_findTitle v0 v1 M).bind fun (x1, M1) =>
    qm x1 (
      some ((-1), M1)
      ) fun x3 =>
    if v2 < 0 then
      some ((-2), M1)
    else
      if 120 < v2 then
        some ((-2), M1)
      else
        (f_X_isDay v3 M1).bind fun (x6, M6) =>
        if x6 = 0 then
          some ((-2), M6)
        else
          (pF 6 3 (.int v2) M6 x3).bind fun M8 =>
          (kO 6 M8 x3).bind fun _ =>
          (f_Title_lastFreeMonth x3 v3 M8).bind fun (x9, M9) =>
          some (if 0 < ((x9 + 1) * 30) then ((x9 + 1) * 30) else 0, M9)
set_option maxHeartbeats 4000000 in
set_option maxRecDepth 100000 in
theorem c_X_embargo (l : Launch) (D : va_G) (dA : Nat → ClassId) (M0 M' : mm) (r : Int32) (v0 : Nat) (v1 : Int32) (v2 : Int32) (v3 : Int32) (h : f_X_embargo v0 v1 v2 v3 M0 = some (r, M')) : Met l y_X_embargo w_X_embargo rm_X_embargo (mm_Pre D dA M0 [.ref v0, .int v1, .int v2, .int v3]) (mm_QI D dA M0 r M') 0 0 (mm_A M0) := by
  refine Met.ofW (cc := b_X_embargo) (maxL := 5) (ret := (some .int)) (by decide) rfl ?_
  intro p e s m args below meth c s₁ B hml hv
  obtain ⟨rfl, hW, hK⟩ := hv
  have C : mm_C p s m _ meth c b_X_embargo 5 (some .int) R_X D dA (mm_A M0) := ⟨B.exec, B.bytes, B.returns, hml, findClass_of_methodNamed B.named, fun w hw => atoms_spec (ws := w_X_embargo) B.pre w (List.mem_cons_of_mem _ hw), B.notSynchronized, hK, fun q hq => Or.inr (by rw [← hW.1]; exact hq)⟩
  have hS : va_S (mm_A M0) s.heap s.heap [] := va_S.rf
  obtain ⟨hx, hb, hr, hml, hown, hts, hlocks, hK, hA⟩ := id C
  have hl := lv_entry ([.ref v0, .int v1, .int v2, .int v3]) (n := 5) (Nat.le_of_ble_eq_true rfl)
  rw [lg_entry_eq]
  generalize (lg_sl ([.ref v0, .int v1, .int v2, .int v3]) ++ List.replicate (5 - (lg_sl ([.ref v0, .int v1, .int v2, .int v3])).length) Slot.unset).toArray = ls at hl ⊢
  have hl : lv_has ls 5 [(0, .ref v0), (1, .int v1), (2, .int v2), (3, .int v3)] := hl
  unfold f_X_embargo at h
  refine lv_aload_n hx hb d_X_embargo_0 rfl (lv_at hl 0 rfl) ?_
  refine lv_iload_n hx hb d_X_embargo_1 rfl (lv_at hl 1 rfl) ?_
  obtain ⟨_, e2, h⟩ := ob h
  obtain ⟨⟨x1, M1⟩, e1, h⟩ := ob h
  refine mr_cq C hW hS (va_runV (As := [.int v1]) (rest := []) ⟨hx, hb, hml, hown, hts⟩ (c_X_findTitle l D dA _ _ _ v0 v1 e1) (cwV 1 hts (mg_V q_82 q_83 q_84 q_85 q_71) rfl rfl rfl (by decide +kernel) ⟨Nat.le_of_ble_eq_true rfl, Nat.le_of_ble_eq_true rfl⟩) (mr_preV C hW (ci := 0) rfl e2) rfl rfl hl.1 rfl (lv_room (Nat.le_of_ble_eq_true rfl)) d_X_embargo_2 ⟨Nat.le_of_ble_eq_true rfl, Nat.le_of_ble_eq_true rfl⟩) (fun H locs hW hS => ?_)
  refine mr_astoreq (lv' := [(4, va_rf x1), (0, .ref v0), (1, .int v1), (2, .int v2), (3, .int v3)]) hx hb d_X_embargo_5 hl (by decide) rfl (fun ls hl => ?_)
  refine mr_aloadq hx hb d_X_embargo_7 (lv_at hl 0 rfl) ?_
  refine mr_ifnonnull (tgt := 14) hx hb d_X_embargo_9 (by decide) (fun x3 e3 => ?_) (fun e3 => ?_)
  · rw [e3] at h
    rw [e3] at hl
    have hl : lv_has ls 5 [(4, .ref x3), (0, .ref v0), (1, .int v1), (2, .int v2), (3, .int v3)] := hl
    refine lv_iload_n hx hb d_X_embargo_14 rfl (lv_at hl 3 rfl) ?_
    refine lv_if_lt (tgt := 31) hx hb d_X_embargo_15 (by decide) (fun c4 => ?_) (fun c4 => ?_)
    · have h := ifp h c4
      refine lv_bipush (v := (-2)) hx hb d_X_embargo_31 (by decide) ?_
      exact mr_iret C hW hS (Nat.le_of_ble_eq_true rfl) (Nat.le_of_ble_eq_true rfl) h d_X_embargo_33
    · have h := ifn h c4
      refine lv_iload_n hx hb d_X_embargo_18 rfl (lv_at hl 3 rfl) ?_
      refine lv_bipush (v := 120) hx hb d_X_embargo_19 (by decide) ?_
      refine lv_icmp_gt (tgt := 31) hx hb d_X_embargo_21 (by decide) (fun c5 => ?_) (fun c5 => ?_)
      · have h := ifp h c5
        refine lv_bipush (v := (-2)) hx hb d_X_embargo_31 (by decide) ?_
        exact mr_iret C hW hS (Nat.le_of_ble_eq_true rfl) (Nat.le_of_ble_eq_true rfl) h d_X_embargo_33
      · have h := ifn h c5
        refine lv_iload_n hx hb d_X_embargo_24 rfl (lv_at hl 4 rfl) ?_
        obtain ⟨⟨x6, M6⟩, e6, h⟩ := ob h
        refine mr_ci C hW hS (va_runS (As := [.int v3]) (rest := []) ⟨hx, hb, hml, hown, hts⟩ (c_X_isDay l D dA _ _ _ v3 e6) (cwS 1 hts (mg_S q_86 q_87 q_88 q_71) rfl rfl rfl (by decide +kernel) ⟨Nat.le_of_ble_eq_true rfl, Nat.le_of_ble_eq_true rfl⟩) (mr_pre C hW) rfl rfl hl.1 rfl (lv_room (Nat.le_of_ble_eq_true rfl)) d_X_embargo_25 ⟨Nat.le_of_ble_eq_true rfl, Nat.le_of_ble_eq_true rfl⟩) (fun H locs hW hS => ?_)
        refine lv_if_ne (tgt := 34) hx hb d_X_embargo_28 (by decide) (fun c7 => ?_) (fun c7 => ?_)
        · have h := ifn h c7
          refine lv_aload hx hb d_X_embargo_34 (lv_at hl 0 rfl) ?_
          refine lv_iload_n hx hb d_X_embargo_36 rfl (lv_at hl 3 rfl) ?_
          obtain ⟨M8, e8, h⟩ := ob h
          refine mr_put C hW hS kp_X_91 rfl rfl e8 d_X_embargo_37 (fun H locs hW hS => ?_)
          refine lv_iconst (v := 0) hx hb d_X_embargo_40 (by decide) ?_
          refine lv_aload hx hb d_X_embargo_41 (lv_at hl 0 rfl) ?_
          refine lv_iload_n hx hb d_X_embargo_43 rfl (lv_at hl 4 rfl) ?_
          obtain ⟨_, e10, h⟩ := ob h
          obtain ⟨⟨x9, M9⟩, e9, h⟩ := ob h
          refine mr_ci C hW hS (va_runV (As := [.int v3]) (rest := [.int 0]) ⟨hx, hb, hml, hown, hts⟩ (c_Title_lastFreeMonth l D dA _ _ _ x3 v3 e9) (cwV 1 hts (mg_V q_101 q_102 q_103 q_104 q_77) rfl rfl rfl (by decide +kernel) ⟨Nat.le_of_ble_eq_true rfl, Nat.le_of_ble_eq_true rfl⟩) (mr_preV C hW (ci := 6) rfl e10) rfl rfl hl.1 rfl (lv_room (Nat.le_of_ble_eq_true rfl)) d_X_embargo_44 ⟨Nat.le_of_ble_eq_true rfl, Nat.le_of_ble_eq_true rfl⟩) (fun H locs hW hS => ?_)
          refine lv_iconst (v := 1) hx hb d_X_embargo_47 (by decide) ?_
          refine lv_iadd hx hb d_X_embargo_48 ?_
          refine lv_bipush (v := 30) hx hb d_X_embargo_49 (by decide) ?_
          refine lv_imul hx hb d_X_embargo_51 ?_
          refine va_mmax hx hb (hml.trans hl.1.symm) hown (hts _ q_105) (hts _ q_106) (hts _ q_107) (hts _ q_108) (Nat.le_of_ble_eq_true rfl) (Nat.le_of_ble_eq_true rfl) (Nat.le_of_ble_eq_true rfl) (Nat.le_of_ble_eq_true rfl) d_X_embargo_52 ?_
          exact mr_iret C hW hS (Nat.le_of_ble_eq_true rfl) (Nat.le_of_ble_eq_true rfl) h d_X_embargo_55
        · have h := ifp h c7
          refine lv_bipush (v := (-2)) hx hb d_X_embargo_31 (by decide) ?_
          exact mr_iret C hW hS (Nat.le_of_ble_eq_true rfl) (Nat.le_of_ble_eq_true rfl) h d_X_embargo_33
  · rw [e3] at h
    refine lv_iconst (v := (-1)) hx hb d_X_embargo_12 (by decide) ?_
    exact mr_iret C hW hS (Nat.le_of_ble_eq_true rfl) (Nat.le_of_ble_eq_true rfl) h d_X_embargo_13
def f_X_isValueOf (v0 : Int32) (v1 : Int32) (M : mm) : Option (Int32 × mm) :=
    if v0 = 0 then
      if v1 < 0 then
        (kB 0).bind fun _ =>
        some (0, M)
      else
        if 9 < v1 then
          (kB 0).bind fun _ =>
          some (0, M)
        else
          (kB 1).bind fun _ =>
          some (1, M)
    else
    if v0 = 1 then
      (kB 1).bind fun _ =>
      some (1, M)
    else
    if v0 = 2 then
      if v1 < 0 then
        (kB 0).bind fun _ =>
        some (0, M)
      else
        if 127 < v1 then
          (kB 0).bind fun _ =>
          some (0, M)
        else
          (kB 1).bind fun _ =>
          some (1, M)
    else
    if v0 = 3 then
      if v1 < 0 then
        (kB 0).bind fun _ =>
        some (0, M)
      else
        if 1000000 < v1 then
          (kB 0).bind fun _ =>
          some (0, M)
        else
          (kB 1).bind fun _ =>
          some (1, M)
    else
    (kB 0).bind fun _ =>
    some (0, M)
set_option maxHeartbeats 4000000 in
set_option maxRecDepth 100000 in
theorem c_X_isValueOf (l : Launch) (D : va_G) (dA : Nat → ClassId) (M0 M' : mm) (r : Int32) (v0 : Int32) (v1 : Int32) (h : f_X_isValueOf v0 v1 M0 = some (r, M')) : Met l y_X_isValueOf w_X_isValueOf rm_X_isValueOf (mm_Pre D dA M0 [.int v0, .int v1]) (mm_QI D dA M0 r M') 0 0 (mm_A M0) := by
  refine Met.ofW (cc := b_X_isValueOf) (maxL := 2) (ret := (some .boolean)) (by decide) rfl ?_
  intro p e s m args below meth c s₁ B hml hv
  obtain ⟨rfl, hW, hK⟩ := hv
  have C : mm_C p s m _ meth c b_X_isValueOf 2 (some .boolean) R_X D dA (mm_A M0) := ⟨B.exec, B.bytes, B.returns, hml, findClass_of_methodNamed B.named, fun w hw => atoms_spec (ws := w_X_isValueOf) B.pre w (List.mem_cons_of_mem _ hw), B.notSynchronized, hK, fun q hq => Or.inr (by rw [← hW.1]; exact hq)⟩
  have hS : va_S (mm_A M0) s.heap s.heap [] := va_S.rf
  obtain ⟨hx, hb, hr, hml, hown, hts, hlocks, hK, hA⟩ := id C
  have hl := lv_entry ([.int v0, .int v1]) (n := 2) (Nat.le_of_ble_eq_true rfl)
  rw [lg_entry_eq]
  generalize (lg_sl ([.int v0, .int v1]) ++ List.replicate (2 - (lg_sl ([.int v0, .int v1])).length) Slot.unset).toArray = ls at hl ⊢
  have hl : lv_has ls 2 [(0, .int v0), (1, .int v1)] := hl
  unfold f_X_isValueOf at h
  refine lv_iload_n hx hb d_X_isValueOf_0 rfl (lv_at hl 0 rfl) ?_
  by_cases c1 : v0 = 0
  · have h := ifp h c1
    refine lv_tableIn (tgt := 32) hx hb d_X_isValueOf_1 (by rw [c1]; decide) (by rw [c1]; decide) (by rw [c1]; rfl) (by decide) ?_
    refine lv_iload_n hx hb d_X_isValueOf_32 rfl (lv_at hl 1 rfl) ?_
    refine lv_if_lt (tgt := 46) hx hb d_X_isValueOf_33 (by decide) (fun c2 => ?_) (fun c2 => ?_)
    · have h := ifp h c2
      refine lv_iconst (v := 0) hx hb d_X_isValueOf_46 (by decide) ?_
      obtain ⟨_, e3, h⟩ := ob h
      exact mr_zret C hW hS (Nat.le_of_ble_eq_true rfl) (Nat.le_of_ble_eq_true rfl) e3 h d_X_isValueOf_47
    · have h := ifn h c2
      refine lv_iload_n hx hb d_X_isValueOf_36 rfl (lv_at hl 1 rfl) ?_
      refine lv_bipush (v := 9) hx hb d_X_isValueOf_37 (by decide) ?_
      refine lv_icmp_gt (tgt := 46) hx hb d_X_isValueOf_39 (by decide) (fun c4 => ?_) (fun c4 => ?_)
      · have h := ifp h c4
        refine lv_iconst (v := 0) hx hb d_X_isValueOf_46 (by decide) ?_
        obtain ⟨_, e5, h⟩ := ob h
        exact mr_zret C hW hS (Nat.le_of_ble_eq_true rfl) (Nat.le_of_ble_eq_true rfl) e5 h d_X_isValueOf_47
      · have h := ifn h c4
        refine lv_iconst (v := 1) hx hb d_X_isValueOf_42 (by decide) ?_
        refine lv_goto (tgt := 47) hx hb d_X_isValueOf_43 (by decide) ?_
        obtain ⟨_, e6, h⟩ := ob h
        exact mr_zret C hW hS (Nat.le_of_ble_eq_true rfl) (Nat.le_of_ble_eq_true rfl) e6 h d_X_isValueOf_47
  have h := ifn h c1
  by_cases c7 : v0 = 1
  · have h := ifp h c7
    refine lv_tableIn (tgt := 48) hx hb d_X_isValueOf_1 (by rw [c7]; decide) (by rw [c7]; decide) (by rw [c7]; rfl) (by decide) ?_
    refine lv_iconst (v := 1) hx hb d_X_isValueOf_48 (by decide) ?_
    obtain ⟨_, e8, h⟩ := ob h
    exact mr_zret C hW hS (Nat.le_of_ble_eq_true rfl) (Nat.le_of_ble_eq_true rfl) e8 h d_X_isValueOf_49
  have h := ifn h c7
  by_cases c9 : v0 = 2
  · have h := ifp h c9
    refine lv_tableIn (tgt := 50) hx hb d_X_isValueOf_1 (by rw [c9]; decide) (by rw [c9]; decide) (by rw [c9]; rfl) (by decide) ?_
    refine lv_iload_n hx hb d_X_isValueOf_50 rfl (lv_at hl 1 rfl) ?_
    refine lv_if_lt (tgt := 64) hx hb d_X_isValueOf_51 (by decide) (fun c10 => ?_) (fun c10 => ?_)
    · have h := ifp h c10
      refine lv_iconst (v := 0) hx hb d_X_isValueOf_64 (by decide) ?_
      obtain ⟨_, e11, h⟩ := ob h
      exact mr_zret C hW hS (Nat.le_of_ble_eq_true rfl) (Nat.le_of_ble_eq_true rfl) e11 h d_X_isValueOf_65
    · have h := ifn h c10
      refine lv_iload_n hx hb d_X_isValueOf_54 rfl (lv_at hl 1 rfl) ?_
      refine lv_bipush (v := 127) hx hb d_X_isValueOf_55 (by decide) ?_
      refine lv_icmp_gt (tgt := 64) hx hb d_X_isValueOf_57 (by decide) (fun c12 => ?_) (fun c12 => ?_)
      · have h := ifp h c12
        refine lv_iconst (v := 0) hx hb d_X_isValueOf_64 (by decide) ?_
        obtain ⟨_, e13, h⟩ := ob h
        exact mr_zret C hW hS (Nat.le_of_ble_eq_true rfl) (Nat.le_of_ble_eq_true rfl) e13 h d_X_isValueOf_65
      · have h := ifn h c12
        refine lv_iconst (v := 1) hx hb d_X_isValueOf_60 (by decide) ?_
        refine lv_goto (tgt := 65) hx hb d_X_isValueOf_61 (by decide) ?_
        obtain ⟨_, e14, h⟩ := ob h
        exact mr_zret C hW hS (Nat.le_of_ble_eq_true rfl) (Nat.le_of_ble_eq_true rfl) e14 h d_X_isValueOf_65
  have h := ifn h c9
  by_cases c15 : v0 = 3
  · have h := ifp h c15
    refine lv_tableIn (tgt := 66) hx hb d_X_isValueOf_1 (by rw [c15]; decide) (by rw [c15]; decide) (by rw [c15]; rfl) (by decide) ?_
    refine lv_iload_n hx hb d_X_isValueOf_66 rfl (lv_at hl 1 rfl) ?_
    refine lv_if_lt (tgt := 80) hx hb d_X_isValueOf_67 (by decide) (fun c16 => ?_) (fun c16 => ?_)
    · have h := ifp h c16
      refine lv_iconst (v := 0) hx hb d_X_isValueOf_80 (by decide) ?_
      obtain ⟨_, e17, h⟩ := ob h
      exact mr_zret C hW hS (Nat.le_of_ble_eq_true rfl) (Nat.le_of_ble_eq_true rfl) e17 h d_X_isValueOf_81
    · have h := ifn h c16
      refine lv_iload_n hx hb d_X_isValueOf_70 rfl (lv_at hl 1 rfl) ?_
      refine lv_ldc (v := 1000000) hx hb hown (hts _ q_109) d_X_isValueOf_71 ?_
      refine lv_icmp_gt (tgt := 80) hx hb d_X_isValueOf_73 (by decide) (fun c18 => ?_) (fun c18 => ?_)
      · have h := ifp h c18
        refine lv_iconst (v := 0) hx hb d_X_isValueOf_80 (by decide) ?_
        obtain ⟨_, e19, h⟩ := ob h
        exact mr_zret C hW hS (Nat.le_of_ble_eq_true rfl) (Nat.le_of_ble_eq_true rfl) e19 h d_X_isValueOf_81
      · have h := ifn h c18
        refine lv_iconst (v := 1) hx hb d_X_isValueOf_76 (by decide) ?_
        refine lv_goto (tgt := 81) hx hb d_X_isValueOf_77 (by decide) ?_
        obtain ⟨_, e20, h⟩ := ob h
        exact mr_zret C hW hS (Nat.le_of_ble_eq_true rfl) (Nat.le_of_ble_eq_true rfl) e20 h d_X_isValueOf_81
  have h := ifn h c15
  refine lv_tableOut (tgt := 82) hx hb d_X_isValueOf_1 (by
    have t1 := lv_neT c1 (show (0 : Int32).toInt = 0 by decide)
    have t7 := lv_neT c7 (show (1 : Int32).toInt = 1 by decide)
    have t9 := lv_neT c9 (show (2 : Int32).toInt = 2 by decide)
    have t15 := lv_neT c15 (show (3 : Int32).toInt = 3 by decide)
    omega) (by decide) ?_
  refine lv_iconst (v := 0) hx hb d_X_isValueOf_82 (by decide) ?_
  obtain ⟨_, e21, h⟩ := ob h
  exact mr_zret C hW hS (Nat.le_of_ble_eq_true rfl) (Nat.le_of_ble_eq_true rfl) e21 h d_X_isValueOf_83
def f_X_rule_b20 : Nat → Int32 → Int32 → Int32 → Int32 → mm → Option (Int32 × mm) := fun v0 v1 v2 v3 v4 M =>
    (f_X_isValueOf v2 v4 M).bind fun (x1, M1) =>
    if x1 = 0 then
      some ((-2), M1)
    else
      (gI 0 5 M1 v0).bind fun x3 =>
      if x3 < 100 then
        (gR 0 4 M1 v0).bind fun x5 =>
        (gI 0 5 M1 v0).bind fun x6 =>
        (nO 5 [.int 0, .int 0, .int 0, .int 0, .int 0] M1).bind fun (x7, M7) =>
        (f_Rule_init x7 v1 v2 v3 v4 M7).bind fun (_, M8) =>
        (sR 4 5 x7 M8 x5 x6).bind fun M9 =>
        (gI 0 5 M9 v0).bind fun x10 =>
        (pF 0 5 (.int (x10 + 1)) M9 v0).bind fun M11 =>
        (gI 0 5 M11 v0).bind fun x12 =>
        some (x12 - 1, M11)
      else
        some ((-4), M1)
def f_X_rule (v0 : Nat) (v1 : Int32) (v2 : Int32) (v3 : Int32) (v4 : Int32) (M : mm) : Option (Int32 × mm) :=
    (kO 0 M v0).bind fun _ =>
    (f_X_findPack v0 v1 M).bind fun (x13, M13) =>
    qm x13 (
      some ((-1), M13)
      ) fun x15 =>
    if v3 = 1 then
      f_X_rule_b20 v0 v1 v2 v3 v4 M13
    else
      if v3 = 2 then
        f_X_rule_b20 v0 v1 v2 v3 v4 M13
      else
        some ((-2), M13)
set_option maxHeartbeats 4000000 in
set_option maxRecDepth 100000 in
theorem w_X_rule_b20 {p : Program} {l : Launch} {e : Env} {s : State} {m : MethodId} {args : Array Value} {below : List Frame} {meth : Method} {c : Code} {D : va_G} {dA : Nat → ClassId} {M0 M' : mm} {r : Int32} (C : mm_C p s m args meth c b_X_rule 5 (some .int) R_X D dA (mm_A M0)) : ∀ (v0 : Nat) (v1 : Int32) (v2 : Int32) (v3 : Int32) (v4 : Int32) (M : mm) (H : Heap) (locs : List Loc) (ls : Array Slot), f_X_rule_b20 v0 v1 v2 v3 v4 M = some (r, M') → mm_W D dA (mm_A M0) M H → va_S (mm_A M0) s.heap H locs → lv_has ls 5 [(0, .ref v0), (1, .int v1), (2, .int v2), (3, .int v3), (4, .int v4)] → W p l e rm_X_rule s m args below meth c H locs 0 0 (MQ below (mm_QI D dA M0 r M') args s 1 5 (mm_A M0)) (F0 m 20 ls []) := by
  obtain ⟨hx, hb, hr, hml, hown, hts, hlocks, hK, hA⟩ := id C
  intro v0 v1 v2 v3 v4 M H locs ls h hW hS hl
  unfold f_X_rule_b20 at h
  refine lv_iload_n hx hb d_X_rule_20 rfl (lv_at hl 2 rfl) ?_
  refine lv_iload hx hb d_X_rule_21 (lv_at hl 4 rfl) ?_
  obtain ⟨⟨x1, M1⟩, e1, h⟩ := ob h
  refine mr_ci C hW hS (va_runS (As := [.int v2, .int v4]) (rest := []) ⟨hx, hb, hml, hown, hts⟩ (c_X_isValueOf l D dA _ _ _ v2 v4 e1) (cwS 2 hts (mg_S q_116 q_117 q_118 q_71) rfl rfl rfl (by decide +kernel) ⟨Nat.le_of_ble_eq_true rfl, Nat.le_of_ble_eq_true rfl⟩) (mr_pre C hW) rfl rfl hl.1 rfl (lv_room (Nat.le_of_ble_eq_true rfl)) d_X_rule_23 ⟨Nat.le_of_ble_eq_true rfl, Nat.le_of_ble_eq_true rfl⟩) (fun H locs hW hS => ?_)
  refine lv_if_ne (tgt := 32) hx hb d_X_rule_26 (by decide) (fun c2 => ?_) (fun c2 => ?_)
  · have h := ifn h c2
    refine lv_aload_n hx hb d_X_rule_32 rfl (lv_at hl 0 rfl) ?_
    obtain ⟨x3, e3, h⟩ := ob h
    refine mr_gI C hW k_X_34 e3 d_X_rule_33 ?_
    refine lv_bipush (v := 100) hx hb d_X_rule_36 (by decide) ?_
    refine lv_icmp_lt (tgt := 44) hx hb d_X_rule_38 (by decide) (fun c4 => ?_) (fun c4 => ?_)
    · have h := ifp h c4
      refine lv_aload_n hx hb d_X_rule_44 rfl (lv_at hl 0 rfl) ?_
      obtain ⟨x5, e5, h⟩ := ob h
      refine mr_gR C hW k_X_30 e5 d_X_rule_45 ?_
      refine lv_aload_n hx hb d_X_rule_48 rfl (lv_at hl 0 rfl) ?_
      obtain ⟨x6, e6, h⟩ := ob h
      refine mr_gI C hW k_X_34 e6 d_X_rule_49 ?_
      obtain ⟨⟨x7, M7⟩, e7, h⟩ := ob h
      refine mr_nO C hW hS (ci := 5) rfl i_Rule t_Rule_ok ⟨q_19, q_119, q_120⟩ z_Rule (Nat.le_of_ble_eq_true rfl) (Nat.le_of_ble_eq_true rfl) e7 d_X_rule_52 (fun H hW hS => ?_)
      refine lv_dup hx hb d_X_rule_55 rfl ?_
      refine lv_iload_n hx hb d_X_rule_56 rfl (lv_at hl 1 rfl) ?_
      refine lv_iload_n hx hb d_X_rule_57 rfl (lv_at hl 2 rfl) ?_
      refine lv_iload_n hx hb d_X_rule_58 rfl (lv_at hl 3 rfl) ?_
      refine lv_iload hx hb d_X_rule_59 (lv_at hl 4 rfl) ?_
      obtain ⟨⟨u8, M8⟩, e8, h⟩ := ob h
      refine mr_cv C hW hS (va_runI (As := [.int v1, .int v2, .int v3, .int v4]) (rest := [.ref x7, .int x6, .ref x5]) ⟨hx, hb, hml, hown, hts⟩ (c_Rule_init l D dA _ _ _ x7 v1 v2 v3 v4 e8) (cwI 4 hts (mg_in q_121) rfl rfl rfl (hts _ q_120) (hts _ q_122) (hts _ q_123) rfl (by decide +kernel) ⟨Nat.le_of_ble_eq_true rfl, Nat.le_of_ble_eq_true rfl⟩) (mr_pre C hW) rfl rfl hl.1 rfl (lv_room (Nat.le_of_ble_eq_true rfl)) d_X_rule_61 ⟨Nat.le_of_ble_eq_true rfl, Nat.le_of_ble_eq_true rfl⟩) (fun H locs hW hS => ?_)
      obtain ⟨M9, e9, h⟩ := ob h
      refine mr_sR C hW hS (t0 := 4) (ci := 5) rfl rfl e9 d_X_rule_64 (fun H locs hW hS => ?_)
      refine lv_aload_n hx hb d_X_rule_65 rfl (lv_at hl 0 rfl) ?_
      refine lv_dup hx hb d_X_rule_66 rfl ?_
      obtain ⟨x10, e10, h⟩ := ob h
      refine mr_gI C hW k_X_34 e10 d_X_rule_67 ?_
      refine lv_iconst (v := 1) hx hb d_X_rule_70 (by decide) ?_
      refine lv_iadd hx hb d_X_rule_71 ?_
      obtain ⟨M11, e11, h⟩ := ob h
      refine mr_put C hW hS kp_X_34 rfl rfl e11 d_X_rule_72 (fun H locs hW hS => ?_)
      refine lv_aload_n hx hb d_X_rule_75 rfl (lv_at hl 0 rfl) ?_
      obtain ⟨x12, e12, h⟩ := ob h
      refine mr_gI C hW k_X_34 e12 d_X_rule_76 ?_
      refine lv_iconst (v := 1) hx hb d_X_rule_79 (by decide) ?_
      refine lv_isub hx hb d_X_rule_80 ?_
      exact mr_iret C hW hS (Nat.le_of_ble_eq_true rfl) (Nat.le_of_ble_eq_true rfl) h d_X_rule_81
    · have h := ifn h c4
      refine lv_bipush (v := (-4)) hx hb d_X_rule_41 (by decide) ?_
      exact mr_iret C hW hS (Nat.le_of_ble_eq_true rfl) (Nat.le_of_ble_eq_true rfl) h d_X_rule_43
  · have h := ifp h c2
    refine lv_bipush (v := (-2)) hx hb d_X_rule_29 (by decide) ?_
    exact mr_iret C hW hS (Nat.le_of_ble_eq_true rfl) (Nat.le_of_ble_eq_true rfl) h d_X_rule_31
set_option maxHeartbeats 4000000 in
set_option maxRecDepth 100000 in
theorem c_X_rule (l : Launch) (D : va_G) (dA : Nat → ClassId) (M0 M' : mm) (r : Int32) (v0 : Nat) (v1 : Int32) (v2 : Int32) (v3 : Int32) (v4 : Int32) (h : f_X_rule v0 v1 v2 v3 v4 M0 = some (r, M')) : Met l y_X_rule w_X_rule rm_X_rule (mm_Pre D dA M0 [.ref v0, .int v1, .int v2, .int v3, .int v4]) (mm_QI D dA M0 r M') 1 5 (mm_A M0) := by
  refine Met.ofW (cc := b_X_rule) (maxL := 5) (ret := (some .int)) (by decide) rfl ?_
  intro p e s m args below meth c s₁ B hml hv
  obtain ⟨rfl, hW, hK⟩ := hv
  have C : mm_C p s m _ meth c b_X_rule 5 (some .int) R_X D dA (mm_A M0) := ⟨B.exec, B.bytes, B.returns, hml, findClass_of_methodNamed B.named, fun w hw => atoms_spec (ws := w_X_rule) B.pre w (List.mem_cons_of_mem _ hw), B.notSynchronized, hK, fun q hq => Or.inr (by rw [← hW.1]; exact hq)⟩
  have hS : va_S (mm_A M0) s.heap s.heap [] := va_S.rf
  obtain ⟨hx, hb, hr, hml, hown, hts, hlocks, hK, hA⟩ := id C
  have hl := lv_entry ([.ref v0, .int v1, .int v2, .int v3, .int v4]) (n := 5) (Nat.le_of_ble_eq_true rfl)
  rw [lg_entry_eq]
  generalize (lg_sl ([.ref v0, .int v1, .int v2, .int v3, .int v4]) ++ List.replicate (5 - (lg_sl ([.ref v0, .int v1, .int v2, .int v3, .int v4])).length) Slot.unset).toArray = ls at hl ⊢
  have hl : lv_has ls 5 [(0, .ref v0), (1, .int v1), (2, .int v2), (3, .int v3), (4, .int v4)] := hl
  unfold f_X_rule at h
  refine lv_aload_n hx hb d_X_rule_0 rfl (lv_at hl 0 rfl) ?_
  refine lv_iload_n hx hb d_X_rule_1 rfl (lv_at hl 1 rfl) ?_
  obtain ⟨_, e14, h⟩ := ob h
  obtain ⟨⟨x13, M13⟩, e13, h⟩ := ob h
  refine mr_cq C hW hS (va_runV (As := [.int v1]) (rest := []) ⟨hx, hb, hml, hown, hts⟩ (c_X_findPack l D dA _ _ _ v0 v1 e13) (cwV 1 hts (mg_V q_67 q_68 q_69 q_70 q_71) rfl rfl rfl (by decide +kernel) ⟨Nat.le_of_ble_eq_true rfl, Nat.le_of_ble_eq_true rfl⟩) (mr_preV C hW (ci := 0) rfl e14) rfl rfl hl.1 rfl (lv_room (Nat.le_of_ble_eq_true rfl)) d_X_rule_2 ⟨Nat.le_of_ble_eq_true rfl, Nat.le_of_ble_eq_true rfl⟩) (fun H locs hW hS => ?_)
  refine mr_ifnonnull (tgt := 10) hx hb d_X_rule_5 (by decide) (fun x15 e15 => ?_) (fun e15 => ?_)
  · rw [e15] at h
    refine lv_iload_n hx hb d_X_rule_10 rfl (lv_at hl 3 rfl) ?_
    refine lv_iconst (v := 1) hx hb d_X_rule_11 (by decide) ?_
    refine lv_icmp_eq (tgt := 20) hx hb d_X_rule_12 (by decide) (fun c16 => ?_) (fun c16 => ?_)
    · have h := ifp h c16
      exact w_X_rule_b20 C _ _ _ _ _ _ _ _ _ h hW hS (lv_sub hl [0, 1, 2, 3, 4] rfl)
    · have h := ifn h c16
      refine lv_iload_n hx hb d_X_rule_15 rfl (lv_at hl 3 rfl) ?_
      refine lv_iconst (v := 2) hx hb d_X_rule_16 (by decide) ?_
      refine lv_icmp_ne (tgt := 29) hx hb d_X_rule_17 (by decide) (fun c17 => ?_) (fun c17 => ?_)
      · have h := ifn h c17
        refine lv_bipush (v := (-2)) hx hb d_X_rule_29 (by decide) ?_
        exact mr_iret C hW hS (Nat.le_of_ble_eq_true rfl) (Nat.le_of_ble_eq_true rfl) h d_X_rule_31
      · have h := ifp h c17
        exact w_X_rule_b20 C _ _ _ _ _ _ _ _ _ h hW hS (lv_sub hl [0, 1, 2, 3, 4] rfl)
  · rw [e15] at h
    refine lv_iconst (v := (-1)) hx hb d_X_rule_8 (by decide) ?_
    exact mr_iret C hW hS (Nat.le_of_ble_eq_true rfl) (Nat.le_of_ble_eq_true rfl) h d_X_rule_9
