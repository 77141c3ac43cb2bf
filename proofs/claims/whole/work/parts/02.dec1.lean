theorem dX0_init_0 : decode cX0_init 0 = .ok (.aload_n 0, 1) := by decide +kernel
theorem dX0_init_1 : decode cX0_init 1 = .ok (.invokespecial 1, 3) := by decide +kernel
theorem dX0_init_4 : decode cX0_init 4 = .ok (.aload_n 0, 1) := by decide +kernel
theorem dX0_init_5 : decode cX0_init 5 = .ok (.sipush 240, 3) := by decide +kernel
theorem dX0_init_8 : decode cX0_init 8 = .ok (.newarray .int, 2) := by decide +kernel
theorem dX0_init_10 : decode cX0_init 10 = .ok (.putfield 9, 3) := by decide +kernel
theorem dX0_init_13 : decode cX0_init 13 = .ok (.aload_n 0, 1) := by decide +kernel
theorem dX0_init_14 : decode cX0_init 14 = .ok (.bipush 16, 2) := by decide +kernel
theorem dX0_init_16 : decode cX0_init 16 = .ok (.newarray .int, 2) := by decide +kernel
theorem dX0_init_18 : decode cX0_init 18 = .ok (.putfield 13, 3) := by decide +kernel
theorem dX0_init_21 : decode cX0_init 21 = .ok (.aload_n 0, 1) := by decide +kernel
theorem dX0_init_22 : decode cX0_init 22 = .ok (.bipush 16, 2) := by decide +kernel
theorem dX0_init_24 : decode cX0_init 24 = .ok (.newarray .int, 2) := by decide +kernel
theorem dX0_init_26 : decode cX0_init 26 = .ok (.putfield 16, 3) := by decide +kernel
theorem dX0_init_29 : decode cX0_init 29 = .ok (.aload_n 0, 1) := by decide +kernel
theorem dX0_init_30 : decode cX0_init 30 = .ok (.iconst 0, 1) := by decide +kernel
theorem dX0_init_31 : decode cX0_init 31 = .ok (.putfield 19, 3) := by decide +kernel
theorem dX0_init_34 : decode cX0_init 34 = .ok (.aload_n 0, 1) := by decide +kernel
theorem dX0_init_35 : decode cX0_init 35 = .ok (.new 23, 3) := by decide +kernel
theorem dX0_init_38 : decode cX0_init 38 = .ok (.dup, 1) := by decide +kernel
theorem dX0_init_39 : decode cX0_init 39 = .ok (.sipush 512, 3) := by decide +kernel
theorem dX0_init_42 : decode cX0_init 42 = .ok (.invokespecial 27, 3) := by decide +kernel
theorem dX0_init_45 : decode cX0_init 45 = .ok (.putfield 30, 3) := by decide +kernel
theorem dX0_init_48 : decode cX0_init 48 = .ok (.aload_n 0, 1) := by decide +kernel
theorem dX0_init_49 : decode cX0_init 49 = .ok (.new 23, 3) := by decide +kernel
theorem dX0_init_52 : decode cX0_init 52 = .ok (.dup, 1) := by decide +kernel
theorem dX0_init_53 : decode cX0_init 53 = .ok (.bipush 48, 2) := by decide +kernel
theorem dX0_init_55 : decode cX0_init 55 = .ok (.invokespecial 27, 3) := by decide +kernel
theorem dX0_init_58 : decode cX0_init 58 = .ok (.putfield 34, 3) := by decide +kernel
theorem dX0_init_61 : decode cX0_init 61 = .ok (.aload_n 0, 1) := by decide +kernel
theorem dX0_init_62 : decode cX0_init 62 = .ok (.new 23, 3) := by decide +kernel
theorem dX0_init_65 : decode cX0_init 65 = .ok (.dup, 1) := by decide +kernel
theorem dX0_init_66 : decode cX0_init 66 = .ok (.bipush 32, 2) := by decide +kernel
theorem dX0_init_68 : decode cX0_init 68 = .ok (.invokespecial 27, 3) := by decide +kernel
theorem dX0_init_71 : decode cX0_init 71 = .ok (.putfield 37, 3) := by decide +kernel
theorem dX0_init_74 : decode cX0_init 74 = .ok (.aload_n 0, 1) := by decide +kernel
theorem dX0_init_75 : decode cX0_init 75 = .ok (.new 23, 3) := by decide +kernel
theorem dX0_init_78 : decode cX0_init 78 = .ok (.dup, 1) := by decide +kernel
theorem dX0_init_79 : decode cX0_init 79 = .ok (.bipush 16, 2) := by decide +kernel
theorem dX0_init_81 : decode cX0_init 81 = .ok (.invokespecial 27, 3) := by decide +kernel
theorem dX0_init_84 : decode cX0_init 84 = .ok (.putfield 40, 3) := by decide +kernel
theorem dX0_init_87 : decode cX0_init 87 = .ok (.return_, 1) := by decide +kernel
theorem dX0_keyLength_0 : decode cX0_keyLength 0 = .ok (.iload_n 0, 1) := by decide +kernel
theorem dX0_keyLength_1 : decode cX0_keyLength 1 = .ok (.ifCond .eq 8, 3) := by decide +kernel
theorem dX0_keyLength_4 : decode cX0_keyLength 4 = .ok (.bipush 32, 2) := by decide +kernel
theorem dX0_keyLength_6 : decode cX0_keyLength 6 = .ok (.goto 5, 3) := by decide +kernel
theorem dX0_keyLength_9 : decode cX0_keyLength 9 = .ok (.bipush 16, 2) := by decide +kernel
theorem dX0_keyLength_11 : decode cX0_keyLength 11 = .ok (.ireturn, 1) := by decide +kernel
theorem dX0_useKey_0 : decode cX0_useKey 0 = .ok (.aload_n 1, 1) := by decide +kernel
theorem dX0_useKey_1 : decode cX0_useKey 1 = .ok (.invokevirtual 43, 3) := by decide +kernel
theorem dX0_useKey_4 : decode cX0_useKey 4 = .ok (.bipush 32, 2) := by decide +kernel
theorem dX0_useKey_6 : decode cX0_useKey 6 = .ok (.if_icmp .ne 7, 3) := by decide +kernel
theorem dX0_useKey_9 : decode cX0_useKey 9 = .ok (.iconst 1, 1) := by decide +kernel
theorem dX0_useKey_10 : decode cX0_useKey 10 = .ok (.goto 4, 3) := by decide +kernel
theorem dX0_useKey_13 : decode cX0_useKey 13 = .ok (.iconst 0, 1) := by decide +kernel
theorem dX0_useKey_14 : decode cX0_useKey 14 = .ok (.invokestatic 47, 3) := by decide +kernel
theorem dX0_useKey_17 : decode cX0_useKey 17 = .ok (.istore_n 2, 1) := by decide +kernel
theorem dX0_useKey_18 : decode cX0_useKey 18 = .ok (.aload_n 0, 1) := by decide +kernel
theorem dX0_useKey_19 : decode cX0_useKey 19 = .ok (.iload_n 2, 1) := by decide +kernel
theorem dX0_useKey_20 : decode cX0_useKey 20 = .ok (.iconst 4, 1) := by decide +kernel
theorem dX0_useKey_21 : decode cX0_useKey 21 = .ok (.idiv, 1) := by decide +kernel
theorem dX0_useKey_22 : decode cX0_useKey 22 = .ok (.bipush 6, 2) := by decide +kernel
theorem dX0_useKey_24 : decode cX0_useKey 24 = .ok (.iadd, 1) := by decide +kernel
theorem dX0_useKey_25 : decode cX0_useKey 25 = .ok (.putfield 19, 3) := by decide +kernel
theorem dX0_useKey_28 : decode cX0_useKey 28 = .ok (.aload_n 1, 1) := by decide +kernel
theorem dX0_useKey_29 : decode cX0_useKey 29 = .ok (.aload_n 0, 1) := by decide +kernel
theorem dX0_useKey_30 : decode cX0_useKey 30 = .ok (.getfield 9, 3) := by decide +kernel
theorem dX0_useKey_33 : decode cX0_useKey 33 = .ok (.iload_n 2, 1) := by decide +kernel
theorem dX0_useKey_34 : decode cX0_useKey 34 = .ok (.invokevirtual 51, 3) := by decide +kernel
theorem dX0_useKey_37 : decode cX0_useKey 37 = .ok (.pop, 1) := by decide +kernel
theorem dX0_useKey_38 : decode cX0_useKey 38 = .ok (.iconst 1, 1) := by decide +kernel
theorem dX0_useKey_39 : decode cX0_useKey 39 = .ok (.istore_n 3, 1) := by decide +kernel
theorem dX0_useKey_40 : decode cX0_useKey 40 = .ok (.iload_n 2, 1) := by decide +kernel
theorem dX0_useKey_41 : decode cX0_useKey 41 = .ok (.istore 4, 2) := by decide +kernel
theorem dX0_useKey_43 : decode cX0_useKey 43 = .ok (.iload 4, 2) := by decide +kernel
theorem dX0_useKey_45 : decode cX0_useKey 45 = .ok (.bipush 16, 2) := by decide +kernel
theorem dX0_useKey_47 : decode cX0_useKey 47 = .ok (.aload_n 0, 1) := by decide +kernel
theorem dX0_useKey_48 : decode cX0_useKey 48 = .ok (.getfield 19, 3) := by decide +kernel
theorem dX0_useKey_51 : decode cX0_useKey 51 = .ok (.iconst 1, 1) := by decide +kernel
theorem dX0_useKey_52 : decode cX0_useKey 52 = .ok (.iadd, 1) := by decide +kernel
theorem dX0_useKey_53 : decode cX0_useKey 53 = .ok (.imul, 1) := by decide +kernel
theorem dX0_useKey_54 : decode cX0_useKey 54 = .ok (.if_icmp .ge 47, 3) := by decide +kernel
theorem dX0_useKey_57 : decode cX0_useKey 57 = .ok (.iload 4, 2) := by decide +kernel
theorem dX0_useKey_59 : decode cX0_useKey 59 = .ok (.iload_n 2, 1) := by decide +kernel
theorem dX0_useKey_60 : decode cX0_useKey 60 = .ok (.iconst 1, 1) := by decide +kernel
theorem dX0_useKey_61 : decode cX0_useKey 61 = .ok (.isub, 1) := by decide +kernel
theorem dX0_useKey_62 : decode cX0_useKey 62 = .ok (.iand, 1) := by decide +kernel
theorem dX0_useKey_63 : decode cX0_useKey 63 = .ok (.istore 5, 2) := by decide +kernel
theorem dX0_useKey_65 : decode cX0_useKey 65 = .ok (.aload_n 0, 1) := by decide +kernel
theorem dX0_useKey_66 : decode cX0_useKey 66 = .ok (.iload 4, 2) := by decide +kernel
theorem dX0_useKey_68 : decode cX0_useKey 68 = .ok (.iload_n 2, 1) := by decide +kernel
theorem dX0_useKey_69 : decode cX0_useKey 69 = .ok (.iload 5, 2) := by decide +kernel
theorem dX0_useKey_71 : decode cX0_useKey 71 = .ok (.invokevirtual 55, 3) := by decide +kernel
theorem dX0_useKey_74 : decode cX0_useKey 74 = .ok (.iload 5, 2) := by decide +kernel
theorem dX0_useKey_76 : decode cX0_useKey 76 = .ok (.ifCond .ne 19, 3) := by decide +kernel
theorem dX0_useKey_79 : decode cX0_useKey 79 = .ok (.aload_n 0, 1) := by decide +kernel
theorem dX0_useKey_80 : decode cX0_useKey 80 = .ok (.getfield 9, 3) := by decide +kernel
theorem dX0_useKey_83 : decode cX0_useKey 83 = .ok (.iload 4, 2) := by decide +kernel
theorem dX0_useKey_85 : decode cX0_useKey 85 = .ok (.dup2, 1) := by decide +kernel
theorem dX0_useKey_86 : decode cX0_useKey 86 = .ok (.iaload, 1) := by decide +kernel
theorem dX0_useKey_87 : decode cX0_useKey 87 = .ok (.iload_n 3, 1) := by decide +kernel
theorem dX0_useKey_88 : decode cX0_useKey 88 = .ok (.ixor, 1) := by decide +kernel
theorem dX0_useKey_89 : decode cX0_useKey 89 = .ok (.iastore, 1) := by decide +kernel
theorem dX0_useKey_90 : decode cX0_useKey 90 = .ok (.iload_n 3, 1) := by decide +kernel
theorem dX0_useKey_91 : decode cX0_useKey 91 = .ok (.invokestatic 59, 3) := by decide +kernel
theorem dX0_useKey_94 : decode cX0_useKey 94 = .ok (.istore_n 3, 1) := by decide +kernel
theorem dX0_useKey_95 : decode cX0_useKey 95 = .ok (.iinc 4 4, 3) := by decide +kernel
theorem dX0_useKey_98 : decode cX0_useKey 98 = .ok (.goto (-55), 3) := by decide +kernel
theorem dX0_useKey_101 : decode cX0_useKey 101 = .ok (.return_, 1) := by decide +kernel
theorem dX0_extendSchedule_0 : decode cX0_extendSchedule 0 = .ok (.iload_n 3, 1) := by decide +kernel
theorem dX0_extendSchedule_1 : decode cX0_extendSchedule 1 = .ok (.ifCond .eq 9, 3) := by decide +kernel
theorem dX0_extendSchedule_4 : decode cX0_extendSchedule 4 = .ok (.iload_n 3, 1) := by decide +kernel
theorem dX0_extendSchedule_5 : decode cX0_extendSchedule 5 = .ok (.bipush 16, 2) := by decide +kernel
theorem dX0_extendSchedule_7 : decode cX0_extendSchedule 7 = .ok (.if_icmp .ne 7, 3) := by decide +kernel
theorem dX0_extendSchedule_10 : decode cX0_extendSchedule 10 = .ok (.iconst 1, 1) := by decide +kernel
theorem dX0_extendSchedule_11 : decode cX0_extendSchedule 11 = .ok (.goto 4, 3) := by decide +kernel
theorem dX0_extendSchedule_14 : decode cX0_extendSchedule 14 = .ok (.iconst 0, 1) := by decide +kernel
theorem dX0_extendSchedule_15 : decode cX0_extendSchedule 15 = .ok (.istore 4, 2) := by decide +kernel
theorem dX0_extendSchedule_17 : decode cX0_extendSchedule 17 = .ok (.iconst 0, 1) := by decide +kernel
theorem dX0_extendSchedule_18 : decode cX0_extendSchedule 18 = .ok (.istore 5, 2) := by decide +kernel
theorem dX0_extendSchedule_20 : decode cX0_extendSchedule 20 = .ok (.iload 5, 2) := by decide +kernel
theorem dX0_extendSchedule_22 : decode cX0_extendSchedule 22 = .ok (.iconst 4, 1) := by decide +kernel
theorem dX0_extendSchedule_23 : decode cX0_extendSchedule 23 = .ok (.if_icmp .ge 76, 3) := by decide +kernel
theorem dX0_extendSchedule_26 : decode cX0_extendSchedule 26 = .ok (.aload_n 0, 1) := by decide +kernel
theorem dX0_extendSchedule_27 : decode cX0_extendSchedule 27 = .ok (.getfield 9, 3) := by decide +kernel
theorem dX0_extendSchedule_30 : decode cX0_extendSchedule 30 = .ok (.iload_n 1, 1) := by decide +kernel
theorem dX0_extendSchedule_31 : decode cX0_extendSchedule 31 = .ok (.iconst 4, 1) := by decide +kernel
theorem dX0_extendSchedule_32 : decode cX0_extendSchedule 32 = .ok (.isub, 1) := by decide +kernel
theorem dX0_extendSchedule_33 : decode cX0_extendSchedule 33 = .ok (.iload_n 3, 1) := by decide +kernel
theorem dX0_extendSchedule_34 : decode cX0_extendSchedule 34 = .ok (.ifCond .ne 12, 3) := by decide +kernel
theorem dX0_extendSchedule_37 : decode cX0_extendSchedule 37 = .ok (.iload 5, 2) := by decide +kernel
theorem dX0_extendSchedule_39 : decode cX0_extendSchedule 39 = .ok (.iconst 1, 1) := by decide +kernel
theorem dX0_extendSchedule_40 : decode cX0_extendSchedule 40 = .ok (.iadd, 1) := by decide +kernel
theorem dX0_extendSchedule_41 : decode cX0_extendSchedule 41 = .ok (.iconst 3, 1) := by decide +kernel
theorem dX0_extendSchedule_42 : decode cX0_extendSchedule 42 = .ok (.iand, 1) := by decide +kernel
theorem dX0_extendSchedule_43 : decode cX0_extendSchedule 43 = .ok (.goto 5, 3) := by decide +kernel
theorem dX0_extendSchedule_46 : decode cX0_extendSchedule 46 = .ok (.iload 5, 2) := by decide +kernel
theorem dX0_extendSchedule_48 : decode cX0_extendSchedule 48 = .ok (.iadd, 1) := by decide +kernel
theorem dX0_extendSchedule_49 : decode cX0_extendSchedule 49 = .ok (.iaload, 1) := by decide +kernel
theorem dX0_extendSchedule_50 : decode cX0_extendSchedule 50 = .ok (.istore 6, 2) := by decide +kernel
theorem dX0_extendSchedule_52 : decode cX0_extendSchedule 52 = .ok (.aload_n 0, 1) := by decide +kernel
theorem dX0_extendSchedule_53 : decode cX0_extendSchedule 53 = .ok (.getfield 9, 3) := by decide +kernel
theorem dX0_extendSchedule_56 : decode cX0_extendSchedule 56 = .ok (.iload_n 1, 1) := by decide +kernel
theorem dX0_extendSchedule_57 : decode cX0_extendSchedule 57 = .ok (.iload 5, 2) := by decide +kernel
theorem dX0_extendSchedule_59 : decode cX0_extendSchedule 59 = .ok (.iadd, 1) := by decide +kernel
theorem dX0_extendSchedule_60 : decode cX0_extendSchedule 60 = .ok (.aload_n 0, 1) := by decide +kernel
theorem dX0_extendSchedule_61 : decode cX0_extendSchedule 61 = .ok (.getfield 9, 3) := by decide +kernel
theorem dX0_extendSchedule_64 : decode cX0_extendSchedule 64 = .ok (.iload_n 1, 1) := by decide +kernel
theorem dX0_extendSchedule_65 : decode cX0_extendSchedule 65 = .ok (.iload_n 2, 1) := by decide +kernel
theorem dX0_extendSchedule_66 : decode cX0_extendSchedule 66 = .ok (.isub, 1) := by decide +kernel
theorem dX0_extendSchedule_67 : decode cX0_extendSchedule 67 = .ok (.iload 5, 2) := by decide +kernel
theorem dX0_extendSchedule_69 : decode cX0_extendSchedule 69 = .ok (.iadd, 1) := by decide +kernel
theorem dX0_extendSchedule_70 : decode cX0_extendSchedule 70 = .ok (.iaload, 1) := by decide +kernel
theorem dX0_extendSchedule_71 : decode cX0_extendSchedule 71 = .ok (.iload 4, 2) := by decide +kernel
theorem dX0_extendSchedule_73 : decode cX0_extendSchedule 73 = .ok (.ifCond .eq 16, 3) := by decide +kernel
theorem dX0_extendSchedule_76 : decode cX0_extendSchedule 76 = .ok (.getstatic 63, 3) := by decide +kernel
theorem dX0_extendSchedule_79 : decode cX0_extendSchedule 79 = .ok (.iload 6, 2) := by decide +kernel
theorem dX0_extendSchedule_81 : decode cX0_extendSchedule 81 = .ok (.sipush 255, 3) := by decide +kernel
theorem dX0_extendSchedule_84 : decode cX0_extendSchedule 84 = .ok (.iand, 1) := by decide +kernel
theorem dX0_extendSchedule_85 : decode cX0_extendSchedule 85 = .ok (.iaload, 1) := by decide +kernel
theorem dX0_extendSchedule_86 : decode cX0_extendSchedule 86 = .ok (.goto 5, 3) := by decide +kernel
theorem dX0_extendSchedule_89 : decode cX0_extendSchedule 89 = .ok (.iload 6, 2) := by decide +kernel
theorem dX0_extendSchedule_91 : decode cX0_extendSchedule 91 = .ok (.ixor, 1) := by decide +kernel
theorem dX0_extendSchedule_92 : decode cX0_extendSchedule 92 = .ok (.iastore, 1) := by decide +kernel
theorem dX0_extendSchedule_93 : decode cX0_extendSchedule 93 = .ok (.iinc 5 1, 3) := by decide +kernel
theorem dX0_extendSchedule_96 : decode cX0_extendSchedule 96 = .ok (.goto (-76), 3) := by decide +kernel
theorem dX0_extendSchedule_99 : decode cX0_extendSchedule 99 = .ok (.return_, 1) := by decide +kernel
theorem dX0_encrypt_0 : decode cX0_encrypt 0 = .ok (.aload_n 1, 1) := by decide +kernel
theorem dX0_encrypt_1 : decode cX0_encrypt 1 = .ok (.aload_n 0, 1) := by decide +kernel
theorem dX0_encrypt_2 : decode cX0_encrypt 2 = .ok (.getfield 13, 3) := by decide +kernel
theorem dX0_encrypt_5 : decode cX0_encrypt 5 = .ok (.bipush 16, 2) := by decide +kernel
theorem dX0_encrypt_7 : decode cX0_encrypt 7 = .ok (.invokevirtual 51, 3) := by decide +kernel
theorem dX0_encrypt_10 : decode cX0_encrypt 10 = .ok (.pop, 1) := by decide +kernel
theorem dX0_encrypt_11 : decode cX0_encrypt 11 = .ok (.aload_n 0, 1) := by decide +kernel
theorem dX0_encrypt_12 : decode cX0_encrypt 12 = .ok (.iconst 0, 1) := by decide +kernel
theorem dX0_encrypt_13 : decode cX0_encrypt 13 = .ok (.invokevirtual 66, 3) := by decide +kernel
theorem dX0_encrypt_16 : decode cX0_encrypt 16 = .ok (.iconst 1, 1) := by decide +kernel
theorem dX0_encrypt_17 : decode cX0_encrypt 17 = .ok (.istore_n 3, 1) := by decide +kernel
theorem dX0_encrypt_18 : decode cX0_encrypt 18 = .ok (.iload_n 3, 1) := by decide +kernel
theorem dX0_encrypt_19 : decode cX0_encrypt 19 = .ok (.aload_n 0, 1) := by decide +kernel
theorem dX0_encrypt_20 : decode cX0_encrypt 20 = .ok (.getfield 19, 3) := by decide +kernel
theorem dX0_encrypt_23 : decode cX0_encrypt 23 = .ok (.if_icmp .ge 22, 3) := by decide +kernel
theorem dX0_encrypt_26 : decode cX0_encrypt 26 = .ok (.aload_n 0, 1) := by decide +kernel
theorem dX0_encrypt_27 : decode cX0_encrypt 27 = .ok (.invokevirtual 69, 3) := by decide +kernel
theorem dX0_encrypt_30 : decode cX0_encrypt 30 = .ok (.aload_n 0, 1) := by decide +kernel
theorem dX0_encrypt_31 : decode cX0_encrypt 31 = .ok (.invokevirtual 72, 3) := by decide +kernel
theorem dX0_encrypt_34 : decode cX0_encrypt 34 = .ok (.aload_n 0, 1) := by decide +kernel
theorem dX0_encrypt_35 : decode cX0_encrypt 35 = .ok (.iload_n 3, 1) := by decide +kernel
theorem dX0_encrypt_36 : decode cX0_encrypt 36 = .ok (.invokevirtual 66, 3) := by decide +kernel
theorem dX0_encrypt_39 : decode cX0_encrypt 39 = .ok (.iinc 3 1, 3) := by decide +kernel
theorem dX0_encrypt_42 : decode cX0_encrypt 42 = .ok (.goto (-24), 3) := by decide +kernel
theorem dX0_encrypt_45 : decode cX0_encrypt 45 = .ok (.aload_n 0, 1) := by decide +kernel
theorem dX0_encrypt_46 : decode cX0_encrypt 46 = .ok (.invokevirtual 69, 3) := by decide +kernel
theorem dX0_encrypt_49 : decode cX0_encrypt 49 = .ok (.iconst 0, 1) := by decide +kernel
theorem dX0_encrypt_50 : decode cX0_encrypt 50 = .ok (.istore_n 3, 1) := by decide +kernel
theorem dX0_encrypt_51 : decode cX0_encrypt 51 = .ok (.iload_n 3, 1) := by decide +kernel
theorem dX0_encrypt_52 : decode cX0_encrypt 52 = .ok (.bipush 16, 2) := by decide +kernel
theorem dX0_encrypt_54 : decode cX0_encrypt 54 = .ok (.if_icmp .ge 21, 3) := by decide +kernel
theorem dX0_encrypt_57 : decode cX0_encrypt 57 = .ok (.aload_n 0, 1) := by decide +kernel
theorem dX0_encrypt_58 : decode cX0_encrypt 58 = .ok (.getfield 13, 3) := by decide +kernel
theorem dX0_encrypt_61 : decode cX0_encrypt 61 = .ok (.iload_n 3, 1) := by decide +kernel
theorem dX0_encrypt_62 : decode cX0_encrypt 62 = .ok (.aload_n 0, 1) := by decide +kernel
theorem dX0_encrypt_63 : decode cX0_encrypt 63 = .ok (.getfield 16, 3) := by decide +kernel
theorem dX0_encrypt_66 : decode cX0_encrypt 66 = .ok (.iload_n 3, 1) := by decide +kernel
theorem dX0_encrypt_67 : decode cX0_encrypt 67 = .ok (.iaload, 1) := by decide +kernel
theorem dX0_encrypt_68 : decode cX0_encrypt 68 = .ok (.iastore, 1) := by decide +kernel
theorem dX0_encrypt_69 : decode cX0_encrypt 69 = .ok (.iinc 3 1, 3) := by decide +kernel
theorem dX0_encrypt_72 : decode cX0_encrypt 72 = .ok (.goto (-21), 3) := by decide +kernel
theorem dX0_encrypt_75 : decode cX0_encrypt 75 = .ok (.aload_n 0, 1) := by decide +kernel
theorem dX0_encrypt_76 : decode cX0_encrypt 76 = .ok (.aload_n 0, 1) := by decide +kernel
theorem dX0_encrypt_77 : decode cX0_encrypt 77 = .ok (.getfield 19, 3) := by decide +kernel
theorem dX0_encrypt_80 : decode cX0_encrypt 80 = .ok (.invokevirtual 66, 3) := by decide +kernel
theorem dX0_encrypt_83 : decode cX0_encrypt 83 = .ok (.aload_n 2, 1) := by decide +kernel
theorem dX0_encrypt_84 : decode cX0_encrypt 84 = .ok (.invokevirtual 75, 3) := by decide +kernel
theorem dX0_encrypt_87 : decode cX0_encrypt 87 = .ok (.iconst 0, 1) := by decide +kernel
theorem dX0_encrypt_88 : decode cX0_encrypt 88 = .ok (.istore_n 3, 1) := by decide +kernel
theorem dX0_encrypt_89 : decode cX0_encrypt 89 = .ok (.iload_n 3, 1) := by decide +kernel
theorem dX0_encrypt_90 : decode cX0_encrypt 90 = .ok (.bipush 16, 2) := by decide +kernel
theorem dX0_encrypt_92 : decode cX0_encrypt 92 = .ok (.if_icmp .ge 19, 3) := by decide +kernel
theorem dX0_encrypt_95 : decode cX0_encrypt 95 = .ok (.aload_n 2, 1) := by decide +kernel
theorem dX0_encrypt_96 : decode cX0_encrypt 96 = .ok (.aload_n 0, 1) := by decide +kernel
theorem dX0_encrypt_97 : decode cX0_encrypt 97 = .ok (.getfield 13, 3) := by decide +kernel
theorem dX0_encrypt_100 : decode cX0_encrypt 100 = .ok (.iload_n 3, 1) := by decide +kernel
theorem dX0_encrypt_101 : decode cX0_encrypt 101 = .ok (.iaload, 1) := by decide +kernel
theorem dX0_encrypt_102 : decode cX0_encrypt 102 = .ok (.invokevirtual 78, 3) := by decide +kernel
theorem dX0_encrypt_105 : decode cX0_encrypt 105 = .ok (.iinc 3 1, 3) := by decide +kernel
theorem dX0_encrypt_108 : decode cX0_encrypt 108 = .ok (.goto (-19), 3) := by decide +kernel
theorem dX0_encrypt_111 : decode cX0_encrypt 111 = .ok (.return_, 1) := by decide +kernel
theorem dX0_addKey_0 : decode cX0_addKey 0 = .ok (.iconst 0, 1) := by decide +kernel
theorem dX0_addKey_1 : decode cX0_addKey 1 = .ok (.istore_n 2, 1) := by decide +kernel
theorem dX0_addKey_2 : decode cX0_addKey 2 = .ok (.iload_n 2, 1) := by decide +kernel
theorem dX0_addKey_3 : decode cX0_addKey 3 = .ok (.bipush 16, 2) := by decide +kernel
theorem dX0_addKey_5 : decode cX0_addKey 5 = .ok (.if_icmp .ge 29, 3) := by decide +kernel
theorem dX0_addKey_8 : decode cX0_addKey 8 = .ok (.aload_n 0, 1) := by decide +kernel
theorem dX0_addKey_9 : decode cX0_addKey 9 = .ok (.getfield 13, 3) := by decide +kernel
theorem dX0_addKey_12 : decode cX0_addKey 12 = .ok (.iload_n 2, 1) := by decide +kernel
theorem dX0_addKey_13 : decode cX0_addKey 13 = .ok (.dup2, 1) := by decide +kernel
theorem dX0_addKey_14 : decode cX0_addKey 14 = .ok (.iaload, 1) := by decide +kernel
theorem dX0_addKey_15 : decode cX0_addKey 15 = .ok (.aload_n 0, 1) := by decide +kernel
theorem dX0_addKey_16 : decode cX0_addKey 16 = .ok (.getfield 9, 3) := by decide +kernel
theorem dX0_addKey_19 : decode cX0_addKey 19 = .ok (.bipush 16, 2) := by decide +kernel
theorem dX0_addKey_21 : decode cX0_addKey 21 = .ok (.iload_n 1, 1) := by decide +kernel
theorem dX0_addKey_22 : decode cX0_addKey 22 = .ok (.imul, 1) := by decide +kernel
theorem dX0_addKey_23 : decode cX0_addKey 23 = .ok (.iload_n 2, 1) := by decide +kernel
theorem dX0_addKey_24 : decode cX0_addKey 24 = .ok (.iadd, 1) := by decide +kernel
theorem dX0_addKey_25 : decode cX0_addKey 25 = .ok (.iaload, 1) := by decide +kernel
theorem dX0_addKey_26 : decode cX0_addKey 26 = .ok (.ixor, 1) := by decide +kernel
theorem dX0_addKey_27 : decode cX0_addKey 27 = .ok (.iastore, 1) := by decide +kernel
theorem dX0_addKey_28 : decode cX0_addKey 28 = .ok (.iinc 2 1, 3) := by decide +kernel
theorem dX0_addKey_31 : decode cX0_addKey 31 = .ok (.goto (-29), 3) := by decide +kernel
theorem dX0_addKey_34 : decode cX0_addKey 34 = .ok (.return_, 1) := by decide +kernel
theorem dX0_replaceAndShift_0 : decode cX0_replaceAndShift 0 = .ok (.iconst 0, 1) := by decide +kernel
theorem dX0_replaceAndShift_1 : decode cX0_replaceAndShift 1 = .ok (.istore_n 1, 1) := by decide +kernel
theorem dX0_replaceAndShift_2 : decode cX0_replaceAndShift 2 = .ok (.iload_n 1, 1) := by decide +kernel
theorem dX0_replaceAndShift_3 : decode cX0_replaceAndShift 3 = .ok (.bipush 16, 2) := by decide +kernel
theorem dX0_replaceAndShift_5 : decode cX0_replaceAndShift 5 = .ok (.if_icmp .ge 34, 3) := by decide +kernel
theorem dX0_replaceAndShift_8 : decode cX0_replaceAndShift 8 = .ok (.aload_n 0, 1) := by decide +kernel
theorem dX0_replaceAndShift_9 : decode cX0_replaceAndShift 9 = .ok (.getfield 16, 3) := by decide +kernel
theorem dX0_replaceAndShift_12 : decode cX0_replaceAndShift 12 = .ok (.iload_n 1, 1) := by decide +kernel
theorem dX0_replaceAndShift_13 : decode cX0_replaceAndShift 13 = .ok (.getstatic 63, 3) := by decide +kernel
theorem dX0_replaceAndShift_16 : decode cX0_replaceAndShift 16 = .ok (.aload_n 0, 1) := by decide +kernel
theorem dX0_replaceAndShift_17 : decode cX0_replaceAndShift 17 = .ok (.getfield 13, 3) := by decide +kernel
theorem dX0_replaceAndShift_20 : decode cX0_replaceAndShift 20 = .ok (.iconst 5, 1) := by decide +kernel
theorem dX0_replaceAndShift_21 : decode cX0_replaceAndShift 21 = .ok (.iload_n 1, 1) := by decide +kernel
theorem dX0_replaceAndShift_22 : decode cX0_replaceAndShift 22 = .ok (.imul, 1) := by decide +kernel
theorem dX0_replaceAndShift_23 : decode cX0_replaceAndShift 23 = .ok (.bipush 15, 2) := by decide +kernel
theorem dX0_replaceAndShift_25 : decode cX0_replaceAndShift 25 = .ok (.iand, 1) := by decide +kernel
theorem dX0_replaceAndShift_26 : decode cX0_replaceAndShift 26 = .ok (.iaload, 1) := by decide +kernel
theorem dX0_replaceAndShift_27 : decode cX0_replaceAndShift 27 = .ok (.sipush 255, 3) := by decide +kernel
theorem dX0_replaceAndShift_30 : decode cX0_replaceAndShift 30 = .ok (.iand, 1) := by decide +kernel
theorem dX0_replaceAndShift_31 : decode cX0_replaceAndShift 31 = .ok (.iaload, 1) := by decide +kernel
theorem dX0_replaceAndShift_32 : decode cX0_replaceAndShift 32 = .ok (.iastore, 1) := by decide +kernel
theorem dX0_replaceAndShift_33 : decode cX0_replaceAndShift 33 = .ok (.iinc 1 1, 3) := by decide +kernel
theorem dX0_replaceAndShift_36 : decode cX0_replaceAndShift 36 = .ok (.goto (-34), 3) := by decide +kernel
theorem dX0_replaceAndShift_39 : decode cX0_replaceAndShift 39 = .ok (.return_, 1) := by decide +kernel
theorem dX0_mixColumns_0 : decode cX0_mixColumns 0 = .ok (.iconst 0, 1) := by decide +kernel
theorem dX0_mixColumns_1 : decode cX0_mixColumns 1 = .ok (.istore_n 1, 1) := by decide +kernel
theorem dX0_mixColumns_2 : decode cX0_mixColumns 2 = .ok (.iload_n 1, 1) := by decide +kernel
theorem dX0_mixColumns_3 : decode cX0_mixColumns 3 = .ok (.bipush 16, 2) := by decide +kernel
theorem dX0_mixColumns_5 : decode cX0_mixColumns 5 = .ok (.if_icmp .ge 80, 3) := by decide +kernel
theorem dX0_mixColumns_8 : decode cX0_mixColumns 8 = .ok (.iload_n 1, 1) := by decide +kernel
theorem dX0_mixColumns_9 : decode cX0_mixColumns 9 = .ok (.bipush 12, 2) := by decide +kernel
theorem dX0_mixColumns_11 : decode cX0_mixColumns 11 = .ok (.iand, 1) := by decide +kernel
theorem dX0_mixColumns_12 : decode cX0_mixColumns 12 = .ok (.istore_n 2, 1) := by decide +kernel
theorem dX0_mixColumns_13 : decode cX0_mixColumns 13 = .ok (.aload_n 0, 1) := by decide +kernel
theorem dX0_mixColumns_14 : decode cX0_mixColumns 14 = .ok (.getfield 16, 3) := by decide +kernel
theorem dX0_mixColumns_17 : decode cX0_mixColumns 17 = .ok (.iload_n 2, 1) := by decide +kernel
theorem dX0_mixColumns_18 : decode cX0_mixColumns 18 = .ok (.iload_n 1, 1) := by decide +kernel
theorem dX0_mixColumns_19 : decode cX0_mixColumns 19 = .ok (.iconst 1, 1) := by decide +kernel
theorem dX0_mixColumns_20 : decode cX0_mixColumns 20 = .ok (.iadd, 1) := by decide +kernel
theorem dX0_mixColumns_21 : decode cX0_mixColumns 21 = .ok (.iconst 3, 1) := by decide +kernel
theorem dX0_mixColumns_22 : decode cX0_mixColumns 22 = .ok (.iand, 1) := by decide +kernel
theorem dX0_mixColumns_23 : decode cX0_mixColumns 23 = .ok (.ior, 1) := by decide +kernel
theorem dX0_mixColumns_24 : decode cX0_mixColumns 24 = .ok (.iaload, 1) := by decide +kernel
theorem dX0_mixColumns_25 : decode cX0_mixColumns 25 = .ok (.istore_n 3, 1) := by decide +kernel
theorem dX0_mixColumns_26 : decode cX0_mixColumns 26 = .ok (.aload_n 0, 1) := by decide +kernel
theorem dX0_mixColumns_27 : decode cX0_mixColumns 27 = .ok (.getfield 16, 3) := by decide +kernel
theorem dX0_mixColumns_30 : decode cX0_mixColumns 30 = .ok (.iload_n 2, 1) := by decide +kernel
theorem dX0_mixColumns_31 : decode cX0_mixColumns 31 = .ok (.iload_n 1, 1) := by decide +kernel
theorem dX0_mixColumns_32 : decode cX0_mixColumns 32 = .ok (.iconst 2, 1) := by decide +kernel
theorem dX0_mixColumns_33 : decode cX0_mixColumns 33 = .ok (.iadd, 1) := by decide +kernel
theorem dX0_mixColumns_34 : decode cX0_mixColumns 34 = .ok (.iconst 3, 1) := by decide +kernel
theorem dX0_mixColumns_35 : decode cX0_mixColumns 35 = .ok (.iand, 1) := by decide +kernel
theorem dX0_mixColumns_36 : decode cX0_mixColumns 36 = .ok (.ior, 1) := by decide +kernel
theorem dX0_mixColumns_37 : decode cX0_mixColumns 37 = .ok (.iaload, 1) := by decide +kernel
theorem dX0_mixColumns_38 : decode cX0_mixColumns 38 = .ok (.istore 4, 2) := by decide +kernel
theorem dX0_mixColumns_40 : decode cX0_mixColumns 40 = .ok (.aload_n 0, 1) := by decide +kernel
theorem dX0_mixColumns_41 : decode cX0_mixColumns 41 = .ok (.getfield 16, 3) := by decide +kernel
theorem dX0_mixColumns_44 : decode cX0_mixColumns 44 = .ok (.iload_n 2, 1) := by decide +kernel
theorem dX0_mixColumns_45 : decode cX0_mixColumns 45 = .ok (.iload_n 1, 1) := by decide +kernel
theorem dX0_mixColumns_46 : decode cX0_mixColumns 46 = .ok (.iconst 3, 1) := by decide +kernel
theorem dX0_mixColumns_47 : decode cX0_mixColumns 47 = .ok (.iadd, 1) := by decide +kernel
theorem dX0_mixColumns_48 : decode cX0_mixColumns 48 = .ok (.iconst 3, 1) := by decide +kernel
theorem dX0_mixColumns_49 : decode cX0_mixColumns 49 = .ok (.iand, 1) := by decide +kernel
theorem dX0_mixColumns_50 : decode cX0_mixColumns 50 = .ok (.ior, 1) := by decide +kernel
theorem dX0_mixColumns_51 : decode cX0_mixColumns 51 = .ok (.iaload, 1) := by decide +kernel
theorem dX0_mixColumns_52 : decode cX0_mixColumns 52 = .ok (.istore 5, 2) := by decide +kernel
theorem dX0_mixColumns_54 : decode cX0_mixColumns 54 = .ok (.aload_n 0, 1) := by decide +kernel
theorem dX0_mixColumns_55 : decode cX0_mixColumns 55 = .ok (.getfield 13, 3) := by decide +kernel
theorem dX0_mixColumns_58 : decode cX0_mixColumns 58 = .ok (.iload_n 1, 1) := by decide +kernel
theorem dX0_mixColumns_59 : decode cX0_mixColumns 59 = .ok (.aload_n 0, 1) := by decide +kernel
theorem dX0_mixColumns_60 : decode cX0_mixColumns 60 = .ok (.getfield 16, 3) := by decide +kernel
theorem dX0_mixColumns_63 : decode cX0_mixColumns 63 = .ok (.iload_n 1, 1) := by decide +kernel
theorem dX0_mixColumns_64 : decode cX0_mixColumns 64 = .ok (.iaload, 1) := by decide +kernel
theorem dX0_mixColumns_65 : decode cX0_mixColumns 65 = .ok (.iload_n 3, 1) := by decide +kernel
theorem dX0_mixColumns_66 : decode cX0_mixColumns 66 = .ok (.ixor, 1) := by decide +kernel
theorem dX0_mixColumns_67 : decode cX0_mixColumns 67 = .ok (.invokestatic 59, 3) := by decide +kernel
theorem dX0_mixColumns_70 : decode cX0_mixColumns 70 = .ok (.iload_n 3, 1) := by decide +kernel
theorem dX0_mixColumns_71 : decode cX0_mixColumns 71 = .ok (.ixor, 1) := by decide +kernel
theorem dX0_mixColumns_72 : decode cX0_mixColumns 72 = .ok (.iload 4, 2) := by decide +kernel
theorem dX0_mixColumns_74 : decode cX0_mixColumns 74 = .ok (.ixor, 1) := by decide +kernel
theorem dX0_mixColumns_75 : decode cX0_mixColumns 75 = .ok (.iload 5, 2) := by decide +kernel
theorem dX0_mixColumns_77 : decode cX0_mixColumns 77 = .ok (.ixor, 1) := by decide +kernel
theorem dX0_mixColumns_78 : decode cX0_mixColumns 78 = .ok (.iastore, 1) := by decide +kernel
theorem dX0_mixColumns_79 : decode cX0_mixColumns 79 = .ok (.iinc 1 1, 3) := by decide +kernel
theorem dX0_mixColumns_82 : decode cX0_mixColumns 82 = .ok (.goto (-80), 3) := by decide +kernel
theorem dX0_mixColumns_85 : decode cX0_mixColumns 85 = .ok (.return_, 1) := by decide +kernel
theorem dX0_twice_0 : decode cX0_twice 0 = .ok (.iload_n 0, 1) := by decide +kernel
theorem dX0_twice_1 : decode cX0_twice 1 = .ok (.iconst 1, 1) := by decide +kernel
theorem dX0_twice_2 : decode cX0_twice 2 = .ok (.ishl, 1) := by decide +kernel
theorem dX0_twice_3 : decode cX0_twice 3 = .ok (.iload_n 0, 1) := by decide +kernel
theorem dX0_twice_4 : decode cX0_twice 4 = .ok (.bipush 7, 2) := by decide +kernel
theorem dX0_twice_6 : decode cX0_twice 6 = .ok (.ishr, 1) := by decide +kernel
theorem dX0_twice_7 : decode cX0_twice 7 = .ok (.sipush 283, 3) := by decide +kernel
theorem dX0_twice_10 : decode cX0_twice 10 = .ok (.imul, 1) := by decide +kernel
theorem dX0_twice_11 : decode cX0_twice 11 = .ok (.ixor, 1) := by decide +kernel
theorem dX0_twice_12 : decode cX0_twice 12 = .ok (.ireturn, 1) := by decide +kernel
theorem dX0_stretch_0 : decode cX0_stretch 0 = .ok (.aload_n 0, 1) := by decide +kernel
theorem dX0_stretch_1 : decode cX0_stretch 1 = .ok (.aload_n 2, 1) := by decide +kernel
theorem dX0_stretch_2 : decode cX0_stretch 2 = .ok (.iload_n 3, 1) := by decide +kernel
theorem dX0_stretch_3 : decode cX0_stretch 3 = .ok (.invokevirtual 81, 3) := by decide +kernel
theorem dX0_stretch_6 : decode cX0_stretch 6 = .ok (.aload_n 0, 1) := by decide +kernel
theorem dX0_stretch_7 : decode cX0_stretch 7 = .ok (.getfield 37, 3) := by decide +kernel
theorem dX0_stretch_10 : decode cX0_stretch 10 = .ok (.invokevirtual 75, 3) := by decide +kernel
theorem dX0_stretch_13 : decode cX0_stretch 13 = .ok (.iconst 0, 1) := by decide +kernel
theorem dX0_stretch_14 : decode cX0_stretch 14 = .ok (.istore 5, 2) := by decide +kernel
theorem dX0_stretch_16 : decode cX0_stretch 16 = .ok (.iload 5, 2) := by decide +kernel
theorem dX0_stretch_18 : decode cX0_stretch 18 = .ok (.iload_n 1, 1) := by decide +kernel
theorem dX0_stretch_19 : decode cX0_stretch 19 = .ok (.if_icmp .ge 18, 3) := by decide +kernel
theorem dX0_stretch_22 : decode cX0_stretch 22 = .ok (.aload_n 0, 1) := by decide +kernel
theorem dX0_stretch_23 : decode cX0_stretch 23 = .ok (.getfield 37, 3) := by decide +kernel
theorem dX0_stretch_26 : decode cX0_stretch 26 = .ok (.iload 5, 2) := by decide +kernel
theorem dX0_stretch_28 : decode cX0_stretch 28 = .ok (.invokevirtual 78, 3) := by decide +kernel
theorem dX0_stretch_31 : decode cX0_stretch 31 = .ok (.iinc 5 1, 3) := by decide +kernel
theorem dX0_stretch_34 : decode cX0_stretch 34 = .ok (.goto (-18), 3) := by decide +kernel
theorem dX0_stretch_37 : decode cX0_stretch 37 = .ok (.aload_n 0, 1) := by decide +kernel
theorem dX0_stretch_38 : decode cX0_stretch 38 = .ok (.aload_n 0, 1) := by decide +kernel
theorem dX0_stretch_39 : decode cX0_stretch 39 = .ok (.getfield 37, 3) := by decide +kernel
theorem dX0_stretch_42 : decode cX0_stretch 42 = .ok (.invokevirtual 85, 3) := by decide +kernel
theorem dX0_stretch_45 : decode cX0_stretch 45 = .ok (.aload_n 0, 1) := by decide +kernel
theorem dX0_stretch_46 : decode cX0_stretch 46 = .ok (.getfield 34, 3) := by decide +kernel
theorem dX0_stretch_49 : decode cX0_stretch 49 = .ok (.invokevirtual 75, 3) := by decide +kernel
theorem dX0_stretch_52 : decode cX0_stretch 52 = .ok (.iconst 0, 1) := by decide +kernel
theorem dX0_stretch_53 : decode cX0_stretch 53 = .ok (.istore 5, 2) := by decide +kernel
theorem dX0_stretch_55 : decode cX0_stretch 55 = .ok (.iload 5, 2) := by decide +kernel
theorem dX0_stretch_57 : decode cX0_stretch 57 = .ok (.bipush 16, 2) := by decide +kernel
theorem dX0_stretch_59 : decode cX0_stretch 59 = .ok (.imul, 1) := by decide +kernel
theorem dX0_stretch_60 : decode cX0_stretch 60 = .ok (.iload_n 1, 1) := by decide +kernel
theorem dX0_stretch_61 : decode cX0_stretch 61 = .ok (.bipush 16, 2) := by decide +kernel
theorem dX0_stretch_63 : decode cX0_stretch 63 = .ok (.iadd, 1) := by decide +kernel
theorem dX0_stretch_64 : decode cX0_stretch 64 = .ok (.if_icmp .ge 26, 3) := by decide +kernel
theorem dX0_stretch_67 : decode cX0_stretch 67 = .ok (.aload_n 0, 1) := by decide +kernel
theorem dX0_stretch_68 : decode cX0_stretch 68 = .ok (.iload 5, 2) := by decide +kernel
theorem dX0_stretch_70 : decode cX0_stretch 70 = .ok (.invokevirtual 89, 3) := by decide +kernel
theorem dX0_stretch_73 : decode cX0_stretch 73 = .ok (.aload_n 0, 1) := by decide +kernel
theorem dX0_stretch_74 : decode cX0_stretch 74 = .ok (.getfield 34, 3) := by decide +kernel
theorem dX0_stretch_77 : decode cX0_stretch 77 = .ok (.aload_n 0, 1) := by decide +kernel
theorem dX0_stretch_78 : decode cX0_stretch 78 = .ok (.getfield 40, 3) := by decide +kernel
theorem dX0_stretch_81 : decode cX0_stretch 81 = .ok (.invokevirtual 92, 3) := by decide +kernel
theorem dX0_stretch_84 : decode cX0_stretch 84 = .ok (.iinc 5 1, 3) := by decide +kernel
theorem dX0_stretch_87 : decode cX0_stretch 87 = .ok (.goto (-32), 3) := by decide +kernel
theorem dX0_stretch_90 : decode cX0_stretch 90 = .ok (.aload_n 0, 1) := by decide +kernel
theorem dX0_stretch_91 : decode cX0_stretch 91 = .ok (.getfield 37, 3) := by decide +kernel
theorem dX0_stretch_94 : decode cX0_stretch 94 = .ok (.aload_n 0, 1) := by decide +kernel
theorem dX0_stretch_95 : decode cX0_stretch 95 = .ok (.getfield 34, 3) := by decide +kernel
theorem dX0_stretch_98 : decode cX0_stretch 98 = .ok (.iconst 0, 1) := by decide +kernel
theorem dX0_stretch_99 : decode cX0_stretch 99 = .ok (.iload_n 1, 1) := by decide +kernel
theorem dX0_stretch_100 : decode cX0_stretch 100 = .ok (.invokevirtual 95, 3) := by decide +kernel
theorem dX0_stretch_103 : decode cX0_stretch 103 = .ok (.aload_n 0, 1) := by decide +kernel
theorem dX0_stretch_104 : decode cX0_stretch 104 = .ok (.getfield 40, 3) := by decide +kernel
theorem dX0_stretch_107 : decode cX0_stretch 107 = .ok (.aload_n 0, 1) := by decide +kernel
theorem dX0_stretch_108 : decode cX0_stretch 108 = .ok (.getfield 34, 3) := by decide +kernel
theorem dX0_stretch_111 : decode cX0_stretch 111 = .ok (.iload_n 1, 1) := by decide +kernel
theorem dX0_stretch_112 : decode cX0_stretch 112 = .ok (.bipush 16, 2) := by decide +kernel
theorem dX0_stretch_114 : decode cX0_stretch 114 = .ok (.invokevirtual 95, 3) := by decide +kernel
theorem dX0_stretch_117 : decode cX0_stretch 117 = .ok (.aload_n 0, 1) := by decide +kernel
theorem dX0_stretch_118 : decode cX0_stretch 118 = .ok (.aload_n 0, 1) := by decide +kernel
theorem dX0_stretch_119 : decode cX0_stretch 119 = .ok (.getfield 37, 3) := by decide +kernel
theorem dX0_stretch_122 : decode cX0_stretch 122 = .ok (.invokevirtual 85, 3) := by decide +kernel
theorem dX0_stretch_125 : decode cX0_stretch 125 = .ok (.aload 4, 2) := by decide +kernel
theorem dX0_stretch_127 : decode cX0_stretch 127 = .ok (.invokevirtual 75, 3) := by decide +kernel
theorem dX0_stretch_130 : decode cX0_stretch 130 = .ok (.iconst 0, 1) := by decide +kernel
theorem dX0_stretch_131 : decode cX0_stretch 131 = .ok (.istore 5, 2) := by decide +kernel
theorem dX0_stretch_133 : decode cX0_stretch 133 = .ok (.iload 5, 2) := by decide +kernel
theorem dX0_stretch_135 : decode cX0_stretch 135 = .ok (.iload_n 3, 1) := by decide +kernel
theorem dX0_stretch_136 : decode cX0_stretch 136 = .ok (.if_icmp .ge 47, 3) := by decide +kernel
theorem dX0_stretch_139 : decode cX0_stretch 139 = .ok (.aload 4, 2) := by decide +kernel
theorem dX0_stretch_141 : decode cX0_stretch 141 = .ok (.invokevirtual 43, 3) := by decide +kernel
theorem dX0_stretch_144 : decode cX0_stretch 144 = .ok (.iload_n 3, 1) := by decide +kernel
theorem dX0_stretch_145 : decode cX0_stretch 145 = .ok (.if_icmp .ge 38, 3) := by decide +kernel
theorem dX0_stretch_148 : decode cX0_stretch 148 = .ok (.aload_n 0, 1) := by decide +kernel
theorem dX0_stretch_149 : decode cX0_stretch 149 = .ok (.aload_n 0, 1) := by decide +kernel
theorem dX0_stretch_150 : decode cX0_stretch 150 = .ok (.getfield 40, 3) := by decide +kernel
theorem dX0_stretch_153 : decode cX0_stretch 153 = .ok (.aload_n 0, 1) := by decide +kernel
theorem dX0_stretch_154 : decode cX0_stretch 154 = .ok (.getfield 40, 3) := by decide +kernel
theorem dX0_stretch_157 : decode cX0_stretch 157 = .ok (.invokevirtual 99, 3) := by decide +kernel
theorem dX0_stretch_160 : decode cX0_stretch 160 = .ok (.aload 4, 2) := by decide +kernel
theorem dX0_stretch_162 : decode cX0_stretch 162 = .ok (.aload_n 0, 1) := by decide +kernel
theorem dX0_stretch_163 : decode cX0_stretch 163 = .ok (.getfield 40, 3) := by decide +kernel
theorem dX0_stretch_166 : decode cX0_stretch 166 = .ok (.iconst 0, 1) := by decide +kernel
theorem dX0_stretch_167 : decode cX0_stretch 167 = .ok (.iload_n 3, 1) := by decide +kernel
theorem dX0_stretch_168 : decode cX0_stretch 168 = .ok (.aload 4, 2) := by decide +kernel
theorem dX0_stretch_170 : decode cX0_stretch 170 = .ok (.invokevirtual 43, 3) := by decide +kernel
theorem dX0_stretch_173 : decode cX0_stretch 173 = .ok (.isub, 1) := by decide +kernel
theorem dX0_stretch_174 : decode cX0_stretch 174 = .ok (.invokevirtual 103, 3) := by decide +kernel
theorem dX0_stretch_177 : decode cX0_stretch 177 = .ok (.iinc 5 1, 3) := by decide +kernel
theorem dX0_stretch_180 : decode cX0_stretch 180 = .ok (.goto (-47), 3) := by decide +kernel
theorem dX0_stretch_183 : decode cX0_stretch 183 = .ok (.return_, 1) := by decide +kernel
theorem dX0_fillText_0 : decode cX0_fillText 0 = .ok (.aload_n 0, 1) := by decide +kernel
theorem dX0_fillText_1 : decode cX0_fillText 1 = .ok (.getfield 30, 3) := by decide +kernel
theorem dX0_fillText_4 : decode cX0_fillText 4 = .ok (.invokevirtual 75, 3) := by decide +kernel
theorem dX0_fillText_7 : decode cX0_fillText 7 = .ok (.aload_n 0, 1) := by decide +kernel
theorem dX0_fillText_8 : decode cX0_fillText 8 = .ok (.getfield 30, 3) := by decide +kernel
theorem dX0_fillText_11 : decode cX0_fillText 11 = .ok (.aload_n 1, 1) := by decide +kernel
theorem dX0_fillText_12 : decode cX0_fillText 12 = .ok (.invokevirtual 43, 3) := by decide +kernel
theorem dX0_fillText_15 : decode cX0_fillText 15 = .ok (.i2l, 1) := by decide +kernel
theorem dX0_fillText_16 : decode cX0_fillText 16 = .ok (.iconst 4, 1) := by decide +kernel
theorem dX0_fillText_17 : decode cX0_fillText 17 = .ok (.invokevirtual 106, 3) := by decide +kernel
theorem dX0_fillText_20 : decode cX0_fillText 20 = .ok (.aload_n 0, 1) := by decide +kernel
theorem dX0_fillText_21 : decode cX0_fillText 21 = .ok (.getfield 30, 3) := by decide +kernel
theorem dX0_fillText_24 : decode cX0_fillText 24 = .ok (.iload_n 2, 1) := by decide +kernel
theorem dX0_fillText_25 : decode cX0_fillText 25 = .ok (.i2l, 1) := by decide +kernel
theorem dX0_fillText_26 : decode cX0_fillText 26 = .ok (.iconst 4, 1) := by decide +kernel
theorem dX0_fillText_27 : decode cX0_fillText 27 = .ok (.invokevirtual 106, 3) := by decide +kernel
theorem dX0_fillText_30 : decode cX0_fillText 30 = .ok (.aload_n 0, 1) := by decide +kernel
theorem dX0_fillText_31 : decode cX0_fillText 31 = .ok (.getfield 30, 3) := by decide +kernel
theorem dX0_fillText_34 : decode cX0_fillText 34 = .ok (.aload_n 1, 1) := by decide +kernel
theorem dX0_fillText_35 : decode cX0_fillText 35 = .ok (.invokevirtual 92, 3) := by decide +kernel
theorem dX0_fillText_38 : decode cX0_fillText 38 = .ok (.aload_n 0, 1) := by decide +kernel
theorem dX0_fillText_39 : decode cX0_fillText 39 = .ok (.getfield 30, 3) := by decide +kernel
theorem dX0_fillText_42 : decode cX0_fillText 42 = .ok (.sipush 128, 3) := by decide +kernel
theorem dX0_fillText_45 : decode cX0_fillText 45 = .ok (.invokevirtual 78, 3) := by decide +kernel
theorem dX0_fillText_48 : decode cX0_fillText 48 = .ok (.aload_n 0, 1) := by decide +kernel
theorem dX0_fillText_49 : decode cX0_fillText 49 = .ok (.getfield 30, 3) := by decide +kernel
theorem dX0_fillText_52 : decode cX0_fillText 52 = .ok (.iconst 0, 1) := by decide +kernel
theorem dX0_fillText_53 : decode cX0_fillText 53 = .ok (.aload_n 0, 1) := by decide +kernel
theorem dX0_fillText_54 : decode cX0_fillText 54 = .ok (.getfield 30, 3) := by decide +kernel
theorem dX0_fillText_57 : decode cX0_fillText 57 = .ok (.invokevirtual 43, 3) := by decide +kernel
theorem dX0_fillText_60 : decode cX0_fillText 60 = .ok (.ineg, 1) := by decide +kernel
theorem dX0_fillText_61 : decode cX0_fillText 61 = .ok (.bipush 15, 2) := by decide +kernel
theorem dX0_fillText_63 : decode cX0_fillText 63 = .ok (.iand, 1) := by decide +kernel
theorem dX0_fillText_64 : decode cX0_fillText 64 = .ok (.invokevirtual 110, 3) := by decide +kernel
theorem dX0_fillText_67 : decode cX0_fillText 67 = .ok (.return_, 1) := by decide +kernel
theorem dX0_chainText_0 : decode cX0_chainText 0 = .ok (.aload_n 0, 1) := by decide +kernel
theorem dX0_chainText_1 : decode cX0_chainText 1 = .ok (.getfield 40, 3) := by decide +kernel
theorem dX0_chainText_4 : decode cX0_chainText 4 = .ok (.invokevirtual 75, 3) := by decide +kernel
theorem dX0_chainText_7 : decode cX0_chainText 7 = .ok (.aload_n 0, 1) := by decide +kernel
theorem dX0_chainText_8 : decode cX0_chainText 8 = .ok (.getfield 40, 3) := by decide +kernel
theorem dX0_chainText_11 : decode cX0_chainText 11 = .ok (.iload_n 1, 1) := by decide +kernel
theorem dX0_chainText_12 : decode cX0_chainText 12 = .ok (.i2l, 1) := by decide +kernel
theorem dX0_chainText_13 : decode cX0_chainText 13 = .ok (.iconst 4, 1) := by decide +kernel
theorem dX0_chainText_14 : decode cX0_chainText 14 = .ok (.invokevirtual 106, 3) := by decide +kernel
theorem dX0_chainText_17 : decode cX0_chainText 17 = .ok (.aload_n 0, 1) := by decide +kernel
theorem dX0_chainText_18 : decode cX0_chainText 18 = .ok (.getfield 40, 3) := by decide +kernel
theorem dX0_chainText_21 : decode cX0_chainText 21 = .ok (.iconst 0, 1) := by decide +kernel
theorem dX0_chainText_22 : decode cX0_chainText 22 = .ok (.bipush 12, 2) := by decide +kernel
theorem dX0_chainText_24 : decode cX0_chainText 24 = .ok (.invokevirtual 110, 3) := by decide +kernel
theorem dX0_chainText_27 : decode cX0_chainText 27 = .ok (.aload_n 0, 1) := by decide +kernel
theorem dX0_chainText_28 : decode cX0_chainText 28 = .ok (.aload_n 0, 1) := by decide +kernel
theorem dX0_chainText_29 : decode cX0_chainText 29 = .ok (.getfield 40, 3) := by decide +kernel
theorem dX0_chainText_32 : decode cX0_chainText 32 = .ok (.aload_n 0, 1) := by decide +kernel
theorem dX0_chainText_33 : decode cX0_chainText 33 = .ok (.getfield 40, 3) := by decide +kernel
theorem dX0_chainText_36 : decode cX0_chainText 36 = .ok (.invokevirtual 99, 3) := by decide +kernel
theorem dX0_chainText_39 : decode cX0_chainText 39 = .ok (.iconst 0, 1) := by decide +kernel
theorem dX0_chainText_40 : decode cX0_chainText 40 = .ok (.istore_n 2, 1) := by decide +kernel
theorem dX0_chainText_41 : decode cX0_chainText 41 = .ok (.iload_n 2, 1) := by decide +kernel
theorem dX0_chainText_42 : decode cX0_chainText 42 = .ok (.aload_n 0, 1) := by decide +kernel
theorem dX0_chainText_43 : decode cX0_chainText 43 = .ok (.getfield 30, 3) := by decide +kernel
theorem dX0_chainText_46 : decode cX0_chainText 46 = .ok (.invokevirtual 43, 3) := by decide +kernel
theorem dX0_chainText_49 : decode cX0_chainText 49 = .ok (.if_icmp .ge 33, 3) := by decide +kernel
theorem dX0_chainText_52 : decode cX0_chainText 52 = .ok (.aload_n 0, 1) := by decide +kernel
theorem dX0_chainText_53 : decode cX0_chainText 53 = .ok (.getfield 40, 3) := by decide +kernel
theorem dX0_chainText_56 : decode cX0_chainText 56 = .ok (.aload_n 0, 1) := by decide +kernel
theorem dX0_chainText_57 : decode cX0_chainText 57 = .ok (.getfield 30, 3) := by decide +kernel
theorem dX0_chainText_60 : decode cX0_chainText 60 = .ok (.iload_n 2, 1) := by decide +kernel
theorem dX0_chainText_61 : decode cX0_chainText 61 = .ok (.invokevirtual 114, 3) := by decide +kernel
theorem dX0_chainText_64 : decode cX0_chainText 64 = .ok (.aload_n 0, 1) := by decide +kernel
theorem dX0_chainText_65 : decode cX0_chainText 65 = .ok (.aload_n 0, 1) := by decide +kernel
theorem dX0_chainText_66 : decode cX0_chainText 66 = .ok (.getfield 40, 3) := by decide +kernel
theorem dX0_chainText_69 : decode cX0_chainText 69 = .ok (.aload_n 0, 1) := by decide +kernel
theorem dX0_chainText_70 : decode cX0_chainText 70 = .ok (.getfield 40, 3) := by decide +kernel
theorem dX0_chainText_73 : decode cX0_chainText 73 = .ok (.invokevirtual 99, 3) := by decide +kernel
theorem dX0_chainText_76 : decode cX0_chainText 76 = .ok (.iinc 2 16, 3) := by decide +kernel
theorem dX0_chainText_79 : decode cX0_chainText 79 = .ok (.goto (-38), 3) := by decide +kernel
theorem dX0_chainText_82 : decode cX0_chainText 82 = .ok (.return_, 1) := by decide +kernel
theorem dX1_init_0 : decode cX1_init 0 = .ok (.aload_n 0, 1) := by decide +kernel
theorem dX1_init_1 : decode cX1_init 1 = .ok (.iload_n 1, 1) := by decide +kernel
theorem dX1_init_2 : decode cX1_init 2 = .ok (.iload_n 2, 1) := by decide +kernel
theorem dX1_init_3 : decode cX1_init 3 = .ok (.iload_n 3, 1) := by decide +kernel
theorem dX1_init_4 : decode cX1_init 4 = .ok (.iload 4, 2) := by decide +kernel
theorem dX1_init_6 : decode cX1_init 6 = .ok (.aload 5, 2) := by decide +kernel
theorem dX1_init_8 : decode cX1_init 8 = .ok (.invokespecial 1, 3) := by decide +kernel
theorem dX1_init_11 : decode cX1_init 11 = .ok (.aload_n 0, 1) := by decide +kernel
theorem dX1_init_12 : decode cX1_init 12 = .ok (.aload 5, 2) := by decide +kernel
theorem dX1_init_14 : decode cX1_init 14 = .ok (.getfield 7, 3) := by decide +kernel
theorem dX1_init_17 : decode cX1_init 17 = .ok (.putfield 13, 3) := by decide +kernel
theorem dX1_init_20 : decode cX1_init 20 = .ok (.aload_n 0, 1) := by decide +kernel
theorem dX1_init_21 : decode cX1_init 21 = .ok (.aload_n 0, 1) := by decide +kernel
theorem dX1_init_22 : decode cX1_init 22 = .ok (.getfield 18, 3) := by decide +kernel
theorem dX1_init_25 : decode cX1_init 25 = .ok (.bipush 16, 2) := by decide +kernel
theorem dX1_init_27 : decode cX1_init 27 = .ok (.isub, 1) := by decide +kernel
theorem dX1_init_28 : decode cX1_init 28 = .ok (.putfield 24, 3) := by decide +kernel
theorem dX1_init_31 : decode cX1_init 31 = .ok (.return_, 1) := by decide +kernel
theorem dX1_plant_0 : decode cX1_plant 0 = .ok (.aload_n 0, 1) := by decide +kernel
theorem dX1_plant_1 : decode cX1_plant 1 = .ok (.invokevirtual 27, 3) := by decide +kernel
theorem dX1_plant_4 : decode cX1_plant 4 = .ok (.ifCond .eq 25, 3) := by decide +kernel
theorem dX1_plant_7 : decode cX1_plant 7 = .ok (.aload_n 0, 1) := by decide +kernel
theorem dX1_plant_8 : decode cX1_plant 8 = .ok (.getfield 31, 3) := by decide +kernel
theorem dX1_plant_11 : decode cX1_plant 11 = .ok (.iconst 0, 1) := by decide +kernel
theorem dX1_plant_12 : decode cX1_plant 12 = .ok (.aload_n 0, 1) := by decide +kernel
theorem dX1_plant_13 : decode cX1_plant 13 = .ok (.getfield 24, 3) := by decide +kernel
theorem dX1_plant_16 : decode cX1_plant 16 = .ok (.invokevirtual 35, 3) := by decide +kernel
theorem dX1_plant_19 : decode cX1_plant 19 = .ok (.aload_n 0, 1) := by decide +kernel
theorem dX1_plant_20 : decode cX1_plant 20 = .ok (.getfield 41, 3) := by decide +kernel
theorem dX1_plant_23 : decode cX1_plant 23 = .ok (.iconst 0, 1) := by decide +kernel
theorem dX1_plant_24 : decode cX1_plant 24 = .ok (.bipush 16, 2) := by decide +kernel
theorem dX1_plant_26 : decode cX1_plant 26 = .ok (.invokevirtual 35, 3) := by decide +kernel
theorem dX1_plant_29 : decode cX1_plant 29 = .ok (.aload_n 0, 1) := by decide +kernel
theorem dX1_plant_30 : decode cX1_plant 30 = .ok (.getfield 44, 3) := by decide +kernel
theorem dX1_plant_33 : decode cX1_plant 33 = .ok (.getfield 48, 3) := by decide +kernel
theorem dX1_plant_36 : decode cX1_plant 36 = .ok (.astore_n 3, 1) := by decide +kernel
theorem dX1_plant_37 : decode cX1_plant 37 = .ok (.aload_n 0, 1) := by decide +kernel
theorem dX1_plant_38 : decode cX1_plant 38 = .ok (.invokevirtual 51, 3) := by decide +kernel
theorem dX1_plant_41 : decode cX1_plant 41 = .ok (.ifCond .eq 32, 3) := by decide +kernel
theorem dX1_plant_44 : decode cX1_plant 44 = .ok (.aload_n 0, 1) := by decide +kernel
theorem dX1_plant_45 : decode cX1_plant 45 = .ok (.getfield 44, 3) := by decide +kernel
theorem dX1_plant_48 : decode cX1_plant 48 = .ok (.aload_n 1, 1) := by decide +kernel
theorem dX1_plant_49 : decode cX1_plant 49 = .ok (.aload_n 2, 1) := by decide +kernel
theorem dX1_plant_50 : decode cX1_plant 50 = .ok (.invokevirtual 54, 3) := by decide +kernel
theorem dX1_plant_53 : decode cX1_plant 53 = .ok (.aload_n 0, 1) := by decide +kernel
theorem dX1_plant_54 : decode cX1_plant 54 = .ok (.getfield 13, 3) := by decide +kernel
theorem dX1_plant_57 : decode cX1_plant 57 = .ok (.aload_n 0, 1) := by decide +kernel
theorem dX1_plant_58 : decode cX1_plant 58 = .ok (.getfield 24, 3) := by decide +kernel
theorem dX1_plant_61 : decode cX1_plant 61 = .ok (.aload_n 3, 1) := by decide +kernel
theorem dX1_plant_62 : decode cX1_plant 62 = .ok (.aload_n 0, 1) := by decide +kernel
theorem dX1_plant_63 : decode cX1_plant 63 = .ok (.getfield 18, 3) := by decide +kernel
theorem dX1_plant_66 : decode cX1_plant 66 = .ok (.aload_n 3, 1) := by decide +kernel
theorem dX1_plant_67 : decode cX1_plant 67 = .ok (.invokevirtual 58, 3) := by decide +kernel
theorem dX1_plant_70 : decode cX1_plant 70 = .ok (.goto 19, 3) := by decide +kernel
theorem dX1_plant_73 : decode cX1_plant 73 = .ok (.aload_n 3, 1) := by decide +kernel
theorem dX1_plant_74 : decode cX1_plant 74 = .ok (.aload_n 1, 1) := by decide +kernel
theorem dX1_plant_75 : decode cX1_plant 75 = .ok (.iconst 0, 1) := by decide +kernel
theorem dX1_plant_76 : decode cX1_plant 76 = .ok (.aload_n 0, 1) := by decide +kernel
theorem dX1_plant_77 : decode cX1_plant 77 = .ok (.getfield 18, 3) := by decide +kernel
theorem dX1_plant_80 : decode cX1_plant 80 = .ok (.invokevirtual 62, 3) := by decide +kernel
theorem dX1_plant_83 : decode cX1_plant 83 = .ok (.aload_n 3, 1) := by decide +kernel
theorem dX1_plant_84 : decode cX1_plant 84 = .ok (.aload_n 2, 1) := by decide +kernel
theorem dX1_plant_85 : decode cX1_plant 85 = .ok (.iconst 0, 1) := by decide +kernel
theorem dX1_plant_86 : decode cX1_plant 86 = .ok (.invokevirtual 66, 3) := by decide +kernel
theorem dX1_plant_89 : decode cX1_plant 89 = .ok (.aload_n 0, 1) := by decide +kernel
theorem dX1_plant_90 : decode cX1_plant 90 = .ok (.aload_n 3, 1) := by decide +kernel
theorem dX1_plant_91 : decode cX1_plant 91 = .ok (.invokevirtual 70, 3) := by decide +kernel
theorem dX1_plant_94 : decode cX1_plant 94 = .ok (.aload_n 0, 1) := by decide +kernel
theorem dX1_plant_95 : decode cX1_plant 95 = .ok (.invokevirtual 74, 3) := by decide +kernel
theorem dX1_plant_98 : decode cX1_plant 98 = .ok (.return_, 1) := by decide +kernel
theorem dX1_produce_0 : decode cX1_produce 0 = .ok (.aload_n 0, 1) := by decide +kernel
theorem dX1_produce_1 : decode cX1_produce 1 = .ok (.getfield 44, 3) := by decide +kernel
theorem dX1_produce_4 : decode cX1_produce 4 = .ok (.getfield 48, 3) := by decide +kernel
theorem dX1_produce_7 : decode cX1_produce 7 = .ok (.astore 4, 2) := by decide +kernel
theorem dX1_produce_9 : decode cX1_produce 9 = .ok (.aload 4, 2) := by decide +kernel
theorem dX1_produce_11 : decode cX1_produce 11 = .ok (.aload_n 2, 1) := by decide +kernel
theorem dX1_produce_12 : decode cX1_produce 12 = .ok (.iconst 0, 1) := by decide +kernel
theorem dX1_produce_13 : decode cX1_produce 13 = .ok (.aload_n 2, 1) := by decide +kernel
theorem dX1_produce_14 : decode cX1_produce 14 = .ok (.invokevirtual 78, 3) := by decide +kernel
theorem dX1_produce_17 : decode cX1_produce 17 = .ok (.invokevirtual 62, 3) := by decide +kernel
theorem dX1_produce_20 : decode cX1_produce 20 = .ok (.aload_n 2, 1) := by decide +kernel
theorem dX1_produce_21 : decode cX1_produce 21 = .ok (.invokevirtual 78, 3) := by decide +kernel
theorem dX1_produce_24 : decode cX1_produce 24 = .ok (.ifCond .le 34, 3) := by decide +kernel
theorem dX1_produce_27 : decode cX1_produce 27 = .ok (.aload_n 0, 1) := by decide +kernel
theorem dX1_produce_28 : decode cX1_produce 28 = .ok (.invokevirtual 51, 3) := by decide +kernel
theorem dX1_produce_31 : decode cX1_produce 31 = .ok (.ifCond .eq 21, 3) := by decide +kernel
theorem dX1_produce_34 : decode cX1_produce 34 = .ok (.aload_n 0, 1) := by decide +kernel
theorem dX1_produce_35 : decode cX1_produce 35 = .ok (.getfield 13, 3) := by decide +kernel
theorem dX1_produce_38 : decode cX1_produce 38 = .ok (.aload_n 0, 1) := by decide +kernel
theorem dX1_produce_39 : decode cX1_produce 39 = .ok (.getfield 24, 3) := by decide +kernel
theorem dX1_produce_42 : decode cX1_produce 42 = .ok (.aload_n 2, 1) := by decide +kernel
theorem dX1_produce_43 : decode cX1_produce 43 = .ok (.aload_n 0, 1) := by decide +kernel
theorem dX1_produce_44 : decode cX1_produce 44 = .ok (.getfield 18, 3) := by decide +kernel
theorem dX1_produce_47 : decode cX1_produce 47 = .ok (.aload 4, 2) := by decide +kernel
theorem dX1_produce_49 : decode cX1_produce 49 = .ok (.invokevirtual 58, 3) := by decide +kernel
theorem dX1_produce_52 : decode cX1_produce 52 = .ok (.aload_n 0, 1) := by decide +kernel
theorem dX1_produce_53 : decode cX1_produce 53 = .ok (.aload 4, 2) := by decide +kernel
theorem dX1_produce_55 : decode cX1_produce 55 = .ok (.invokevirtual 70, 3) := by decide +kernel
theorem dX1_produce_58 : decode cX1_produce 58 = .ok (.aload_n 0, 1) := by decide +kernel
theorem dX1_produce_59 : decode cX1_produce 59 = .ok (.getfield 13, 3) := by decide +kernel
theorem dX1_produce_62 : decode cX1_produce 62 = .ok (.aload_n 0, 1) := by decide +kernel
theorem dX1_produce_63 : decode cX1_produce 63 = .ok (.getfield 31, 3) := by decide +kernel
theorem dX1_produce_66 : decode cX1_produce 66 = .ok (.invokevirtual 82, 3) := by decide +kernel
theorem dX1_produce_69 : decode cX1_produce 69 = .ok (.iconst 0, 1) := by decide +kernel
theorem dX1_produce_70 : decode cX1_produce 70 = .ok (.istore 5, 2) := by decide +kernel
theorem dX1_produce_72 : decode cX1_produce 72 = .ok (.iload 5, 2) := by decide +kernel
theorem dX1_produce_74 : decode cX1_produce 74 = .ok (.iload_n 1, 1) := by decide +kernel
theorem dX1_produce_75 : decode cX1_produce 75 = .ok (.if_icmp .ge 61, 3) := by decide +kernel
theorem dX1_produce_78 : decode cX1_produce 78 = .ok (.aload_n 3, 1) := by decide +kernel
theorem dX1_produce_79 : decode cX1_produce 79 = .ok (.invokevirtual 78, 3) := by decide +kernel
theorem dX1_produce_82 : decode cX1_produce 82 = .ok (.iload_n 1, 1) := by decide +kernel
theorem dX1_produce_83 : decode cX1_produce 83 = .ok (.if_icmp .ge 53, 3) := by decide +kernel
theorem dX1_produce_86 : decode cX1_produce 86 = .ok (.aload_n 0, 1) := by decide +kernel
theorem dX1_produce_87 : decode cX1_produce 87 = .ok (.getfield 41, 3) := by decide +kernel
theorem dX1_produce_90 : decode cX1_produce 90 = .ok (.iconst 1, 1) := by decide +kernel
theorem dX1_produce_91 : decode cX1_produce 91 = .ok (.invokevirtual 85, 3) := by decide +kernel
theorem dX1_produce_94 : decode cX1_produce 94 = .ok (.aload_n 0, 1) := by decide +kernel
theorem dX1_produce_95 : decode cX1_produce 95 = .ok (.getfield 13, 3) := by decide +kernel
theorem dX1_produce_98 : decode cX1_produce 98 = .ok (.aload_n 0, 1) := by decide +kernel
theorem dX1_produce_99 : decode cX1_produce 99 = .ok (.getfield 41, 3) := by decide +kernel
theorem dX1_produce_102 : decode cX1_produce 102 = .ok (.aload_n 0, 1) := by decide +kernel
theorem dX1_produce_103 : decode cX1_produce 103 = .ok (.getfield 44, 3) := by decide +kernel
theorem dX1_produce_106 : decode cX1_produce 106 = .ok (.getfield 89, 3) := by decide +kernel
theorem dX1_produce_109 : decode cX1_produce 109 = .ok (.invokevirtual 92, 3) := by decide +kernel
theorem dX1_produce_112 : decode cX1_produce 112 = .ok (.aload_n 3, 1) := by decide +kernel
theorem dX1_produce_113 : decode cX1_produce 113 = .ok (.aload_n 0, 1) := by decide +kernel
theorem dX1_produce_114 : decode cX1_produce 114 = .ok (.getfield 44, 3) := by decide +kernel
theorem dX1_produce_117 : decode cX1_produce 117 = .ok (.getfield 89, 3) := by decide +kernel
theorem dX1_produce_120 : decode cX1_produce 120 = .ok (.iconst 0, 1) := by decide +kernel
theorem dX1_produce_121 : decode cX1_produce 121 = .ok (.iload_n 1, 1) := by decide +kernel
theorem dX1_produce_122 : decode cX1_produce 122 = .ok (.aload_n 3, 1) := by decide +kernel
theorem dX1_produce_123 : decode cX1_produce 123 = .ok (.invokevirtual 78, 3) := by decide +kernel
theorem dX1_produce_126 : decode cX1_produce 126 = .ok (.isub, 1) := by decide +kernel
theorem dX1_produce_127 : decode cX1_produce 127 = .ok (.invokevirtual 95, 3) := by decide +kernel
theorem dX1_produce_130 : decode cX1_produce 130 = .ok (.iinc 5 1, 3) := by decide +kernel
theorem dX1_produce_133 : decode cX1_produce 133 = .ok (.goto (-61), 3) := by decide +kernel
theorem dX1_produce_136 : decode cX1_produce 136 = .ok (.aload_n 0, 1) := by decide +kernel
theorem dX1_produce_137 : decode cX1_produce 137 = .ok (.aload 4, 2) := by decide +kernel
theorem dX1_produce_139 : decode cX1_produce 139 = .ok (.invokevirtual 70, 3) := by decide +kernel
theorem dX1_produce_142 : decode cX1_produce 142 = .ok (.aload_n 0, 1) := by decide +kernel
theorem dX1_produce_143 : decode cX1_produce 143 = .ok (.iload_n 1, 1) := by decide +kernel
theorem dX1_produce_144 : decode cX1_produce 144 = .ok (.invokevirtual 98, 3) := by decide +kernel
theorem dX1_produce_147 : decode cX1_produce 147 = .ok (.return_, 1) := by decide +kernel
theorem dX1_mix_0 : decode cX1_mix 0 = .ok (.aload_n 0, 1) := by decide +kernel
theorem dX1_mix_1 : decode cX1_mix 1 = .ok (.getfield 13, 3) := by decide +kernel
theorem dX1_mix_4 : decode cX1_mix 4 = .ok (.aload_n 0, 1) := by decide +kernel
theorem dX1_mix_5 : decode cX1_mix 5 = .ok (.getfield 31, 3) := by decide +kernel
theorem dX1_mix_8 : decode cX1_mix 8 = .ok (.invokevirtual 82, 3) := by decide +kernel
theorem dX1_mix_11 : decode cX1_mix 11 = .ok (.aload_n 0, 1) := by decide +kernel
theorem dX1_mix_12 : decode cX1_mix 12 = .ok (.getfield 44, 3) := by decide +kernel
theorem dX1_mix_15 : decode cX1_mix 15 = .ok (.getfield 101, 3) := by decide +kernel
theorem dX1_mix_18 : decode cX1_mix 18 = .ok (.astore_n 2, 1) := by decide +kernel
theorem dX1_mix_19 : decode cX1_mix 19 = .ok (.aload_n 2, 1) := by decide +kernel
theorem dX1_mix_20 : decode cX1_mix 20 = .ok (.invokevirtual 104, 3) := by decide +kernel
theorem dX1_mix_23 : decode cX1_mix 23 = .ok (.iconst 0, 1) := by decide +kernel
theorem dX1_mix_24 : decode cX1_mix 24 = .ok (.istore_n 3, 1) := by decide +kernel
theorem dX1_mix_25 : decode cX1_mix 25 = .ok (.iload_n 3, 1) := by decide +kernel
theorem dX1_mix_26 : decode cX1_mix 26 = .ok (.aload_n 0, 1) := by decide +kernel
theorem dX1_mix_27 : decode cX1_mix 27 = .ok (.getfield 18, 3) := by decide +kernel
theorem dX1_mix_30 : decode cX1_mix 30 = .ok (.if_icmp .ge 46, 3) := by decide +kernel
theorem dX1_mix_33 : decode cX1_mix 33 = .ok (.aload_n 0, 1) := by decide +kernel
theorem dX1_mix_34 : decode cX1_mix 34 = .ok (.getfield 41, 3) := by decide +kernel
theorem dX1_mix_37 : decode cX1_mix 37 = .ok (.iconst 1, 1) := by decide +kernel
theorem dX1_mix_38 : decode cX1_mix 38 = .ok (.invokevirtual 85, 3) := by decide +kernel
theorem dX1_mix_41 : decode cX1_mix 41 = .ok (.aload_n 0, 1) := by decide +kernel
theorem dX1_mix_42 : decode cX1_mix 42 = .ok (.getfield 13, 3) := by decide +kernel
theorem dX1_mix_45 : decode cX1_mix 45 = .ok (.aload_n 0, 1) := by decide +kernel
theorem dX1_mix_46 : decode cX1_mix 46 = .ok (.getfield 41, 3) := by decide +kernel
theorem dX1_mix_49 : decode cX1_mix 49 = .ok (.aload_n 0, 1) := by decide +kernel
theorem dX1_mix_50 : decode cX1_mix 50 = .ok (.getfield 44, 3) := by decide +kernel
theorem dX1_mix_53 : decode cX1_mix 53 = .ok (.getfield 89, 3) := by decide +kernel
theorem dX1_mix_56 : decode cX1_mix 56 = .ok (.invokevirtual 92, 3) := by decide +kernel
theorem dX1_mix_59 : decode cX1_mix 59 = .ok (.aload_n 2, 1) := by decide +kernel
theorem dX1_mix_60 : decode cX1_mix 60 = .ok (.aload_n 0, 1) := by decide +kernel
theorem dX1_mix_61 : decode cX1_mix 61 = .ok (.getfield 44, 3) := by decide +kernel
theorem dX1_mix_64 : decode cX1_mix 64 = .ok (.getfield 89, 3) := by decide +kernel
theorem dX1_mix_67 : decode cX1_mix 67 = .ok (.invokevirtual 107, 3) := by decide +kernel
theorem dX1_mix_70 : decode cX1_mix 70 = .ok (.iinc 3 16, 3) := by decide +kernel
theorem dX1_mix_73 : decode cX1_mix 73 = .ok (.goto (-48), 3) := by decide +kernel
theorem dX1_mix_76 : decode cX1_mix 76 = .ok (.aload_n 2, 1) := by decide +kernel
theorem dX1_mix_77 : decode cX1_mix 77 = .ok (.aload_n 1, 1) := by decide +kernel
theorem dX1_mix_78 : decode cX1_mix 78 = .ok (.iconst 0, 1) := by decide +kernel
theorem dX1_mix_79 : decode cX1_mix 79 = .ok (.invokevirtual 66, 3) := by decide +kernel
theorem dX1_mix_82 : decode cX1_mix 82 = .ok (.aload_n 0, 1) := by decide +kernel
theorem dX1_mix_83 : decode cX1_mix 83 = .ok (.getfield 31, 3) := by decide +kernel
theorem dX1_mix_86 : decode cX1_mix 86 = .ok (.aload_n 2, 1) := by decide +kernel
theorem dX1_mix_87 : decode cX1_mix 87 = .ok (.iconst 0, 1) := by decide +kernel
theorem dX1_mix_88 : decode cX1_mix 88 = .ok (.aload_n 0, 1) := by decide +kernel
theorem dX1_mix_89 : decode cX1_mix 89 = .ok (.getfield 24, 3) := by decide +kernel
theorem dX1_mix_92 : decode cX1_mix 92 = .ok (.invokevirtual 62, 3) := by decide +kernel
theorem dX1_mix_95 : decode cX1_mix 95 = .ok (.aload_n 0, 1) := by decide +kernel
theorem dX1_mix_96 : decode cX1_mix 96 = .ok (.getfield 41, 3) := by decide +kernel
theorem dX1_mix_99 : decode cX1_mix 99 = .ok (.aload_n 2, 1) := by decide +kernel
theorem dX1_mix_100 : decode cX1_mix 100 = .ok (.aload_n 0, 1) := by decide +kernel
theorem dX1_mix_101 : decode cX1_mix 101 = .ok (.getfield 24, 3) := by decide +kernel
theorem dX1_mix_104 : decode cX1_mix 104 = .ok (.bipush 16, 2) := by decide +kernel
theorem dX1_mix_106 : decode cX1_mix 106 = .ok (.invokevirtual 62, 3) := by decide +kernel
theorem dX1_mix_109 : decode cX1_mix 109 = .ok (.return_, 1) := by decide +kernel
theorem dX2_init_0 : decode cX2_init 0 = .ok (.aload_n 0, 1) := by decide +kernel
theorem dX2_init_1 : decode cX2_init 1 = .ok (.invokespecial 1, 3) := by decide +kernel
theorem dX2_init_4 : decode cX2_init 4 = .ok (.aload_n 0, 1) := by decide +kernel
theorem dX2_init_5 : decode cX2_init 5 = .ok (.new 7, 3) := by decide +kernel
theorem dX2_init_8 : decode cX2_init 8 = .ok (.dup, 1) := by decide +kernel
theorem dX2_init_9 : decode cX2_init 9 = .ok (.invokespecial 9, 3) := by decide +kernel
theorem dX2_init_12 : decode cX2_init 12 = .ok (.putfield 10, 3) := by decide +kernel
theorem dX2_init_15 : decode cX2_init 15 = .ok (.aload_n 0, 1) := by decide +kernel
theorem dX2_init_16 : decode cX2_init 16 = .ok (.new 16, 3) := by decide +kernel
theorem dX2_init_19 : decode cX2_init 19 = .ok (.dup, 1) := by decide +kernel
theorem dX2_init_20 : decode cX2_init 20 = .ok (.bipush 64, 2) := by decide +kernel
theorem dX2_init_22 : decode cX2_init 22 = .ok (.invokespecial 20, 3) := by decide +kernel
theorem dX2_init_25 : decode cX2_init 25 = .ok (.putfield 23, 3) := by decide +kernel
theorem dX2_init_28 : decode cX2_init 28 = .ok (.aload_n 0, 1) := by decide +kernel
theorem dX2_init_29 : decode cX2_init 29 = .ok (.new 16, 3) := by decide +kernel
theorem dX2_init_32 : decode cX2_init 32 = .ok (.dup, 1) := by decide +kernel
theorem dX2_init_33 : decode cX2_init 33 = .ok (.sipush 512, 3) := by decide +kernel
theorem dX2_init_36 : decode cX2_init 36 = .ok (.invokespecial 20, 3) := by decide +kernel
theorem dX2_init_39 : decode cX2_init 39 = .ok (.putfield 27, 3) := by decide +kernel
theorem dX2_init_42 : decode cX2_init 42 = .ok (.aload_n 0, 1) := by decide +kernel
theorem dX2_init_43 : decode cX2_init 43 = .ok (.new 16, 3) := by decide +kernel
theorem dX2_init_46 : decode cX2_init 46 = .ok (.dup, 1) := by decide +kernel
theorem dX2_init_47 : decode cX2_init 47 = .ok (.sipush 512, 3) := by decide +kernel
theorem dX2_init_50 : decode cX2_init 50 = .ok (.invokespecial 20, 3) := by decide +kernel
theorem dX2_init_53 : decode cX2_init 53 = .ok (.putfield 30, 3) := by decide +kernel
theorem dX2_init_56 : decode cX2_init 56 = .ok (.aload_n 0, 1) := by decide +kernel
theorem dX2_init_57 : decode cX2_init 57 = .ok (.new 16, 3) := by decide +kernel
theorem dX2_init_60 : decode cX2_init 60 = .ok (.dup, 1) := by decide +kernel
theorem dX2_init_61 : decode cX2_init 61 = .ok (.bipush 64, 2) := by decide +kernel
theorem dX2_init_63 : decode cX2_init 63 = .ok (.invokespecial 20, 3) := by decide +kernel
theorem dX2_init_66 : decode cX2_init 66 = .ok (.putfield 33, 3) := by decide +kernel
theorem dX2_init_69 : decode cX2_init 69 = .ok (.aload_n 0, 1) := by decide +kernel
theorem dX2_init_70 : decode cX2_init 70 = .ok (.new 18, 3) := by decide +kernel
theorem dX2_init_73 : decode cX2_init 73 = .ok (.dup, 1) := by decide +kernel
theorem dX2_init_74 : decode cX2_init 74 = .ok (.iconst 0, 1) := by decide +kernel
theorem dX2_init_75 : decode cX2_init 75 = .ok (.invokespecial 36, 3) := by decide +kernel
theorem dX2_init_78 : decode cX2_init 78 = .ok (.putfield 39, 3) := by decide +kernel
theorem dX2_init_81 : decode cX2_init 81 = .ok (.aload_n 0, 1) := by decide +kernel
theorem dX2_init_82 : decode cX2_init 82 = .ok (.new 18, 3) := by decide +kernel
theorem dX2_init_85 : decode cX2_init 85 = .ok (.dup, 1) := by decide +kernel
theorem dX2_init_86 : decode cX2_init 86 = .ok (.iconst 1, 1) := by decide +kernel
theorem dX2_init_87 : decode cX2_init 87 = .ok (.invokespecial 36, 3) := by decide +kernel
theorem dX2_init_90 : decode cX2_init 90 = .ok (.putfield 43, 3) := by decide +kernel
theorem dX2_init_93 : decode cX2_init 93 = .ok (.return_, 1) := by decide +kernel
theorem dX2_digestOf_0 : decode cX2_digestOf 0 = .ok (.iload_n 1, 1) := by decide +kernel
theorem dX2_digestOf_1 : decode cX2_digestOf 1 = .ok (.ifCond .eq 10, 3) := by decide +kernel
theorem dX2_digestOf_4 : decode cX2_digestOf 4 = .ok (.aload_n 0, 1) := by decide +kernel
theorem dX2_digestOf_5 : decode cX2_digestOf 5 = .ok (.getfield 43, 3) := by decide +kernel
theorem dX2_digestOf_8 : decode cX2_digestOf 8 = .ok (.goto 7, 3) := by decide +kernel
theorem dX2_digestOf_11 : decode cX2_digestOf 11 = .ok (.aload_n 0, 1) := by decide +kernel
theorem dX2_digestOf_12 : decode cX2_digestOf 12 = .ok (.getfield 39, 3) := by decide +kernel
theorem dX2_digestOf_15 : decode cX2_digestOf 15 = .ok (.areturn, 1) := by decide +kernel
theorem dX2_divide_0 : decode cX2_divide 0 = .ok (.aload_n 0, 1) := by decide +kernel
theorem dX2_divide_1 : decode cX2_divide 1 = .ok (.getfield 23, 3) := by decide +kernel
theorem dX2_divide_4 : decode cX2_divide 4 = .ok (.aload_n 1, 1) := by decide +kernel
theorem dX2_divide_5 : decode cX2_divide 5 = .ok (.iconst 0, 1) := by decide +kernel
theorem dX2_divide_6 : decode cX2_divide 6 = .ok (.iload_n 2, 1) := by decide +kernel
theorem dX2_divide_7 : decode cX2_divide 7 = .ok (.invokevirtual 46, 3) := by decide +kernel
theorem dX2_divide_10 : decode cX2_divide 10 = .ok (.aload_n 0, 1) := by decide +kernel
theorem dX2_divide_11 : decode cX2_divide 11 = .ok (.getfield 27, 3) := by decide +kernel
theorem dX2_divide_14 : decode cX2_divide 14 = .ok (.aload_n 1, 1) := by decide +kernel
theorem dX2_divide_15 : decode cX2_divide 15 = .ok (.iload_n 2, 1) := by decide +kernel
theorem dX2_divide_16 : decode cX2_divide 16 = .ok (.aload_n 1, 1) := by decide +kernel
theorem dX2_divide_17 : decode cX2_divide 17 = .ok (.invokevirtual 50, 3) := by decide +kernel
theorem dX2_divide_20 : decode cX2_divide 20 = .ok (.invokevirtual 46, 3) := by decide +kernel
theorem dX2_divide_23 : decode cX2_divide 23 = .ok (.return_, 1) := by decide +kernel
theorem dX2_join_0 : decode cX2_join 0 = .ok (.aload_n 0, 1) := by decide +kernel
theorem dX2_join_1 : decode cX2_join 1 = .ok (.getfield 30, 3) := by decide +kernel
theorem dX2_join_4 : decode cX2_join 4 = .ok (.invokevirtual 54, 3) := by decide +kernel
theorem dX2_join_7 : decode cX2_join 7 = .ok (.aload_n 0, 1) := by decide +kernel
theorem dX2_join_8 : decode cX2_join 8 = .ok (.getfield 30, 3) := by decide +kernel
theorem dX2_join_11 : decode cX2_join 11 = .ok (.aload_n 1, 1) := by decide +kernel
theorem dX2_join_12 : decode cX2_join 12 = .ok (.invokevirtual 57, 3) := by decide +kernel
theorem dX2_join_15 : decode cX2_join 15 = .ok (.aload_n 0, 1) := by decide +kernel
theorem dX2_join_16 : decode cX2_join 16 = .ok (.getfield 30, 3) := by decide +kernel
theorem dX2_join_19 : decode cX2_join 19 = .ok (.aload_n 2, 1) := by decide +kernel
theorem dX2_join_20 : decode cX2_join 20 = .ok (.invokevirtual 57, 3) := by decide +kernel
theorem dX2_join_23 : decode cX2_join 23 = .ok (.return_, 1) := by decide +kernel
theorem dX3_init_0 : decode cX3_init 0 = .ok (.aload_n 0, 1) := by decide +kernel
theorem dX3_init_1 : decode cX3_init 1 = .ok (.invokespecial 1, 3) := by decide +kernel
theorem dX3_init_4 : decode cX3_init 4 = .ok (.aload_n 0, 1) := by decide +kernel
theorem dX3_init_5 : decode cX3_init 5 = .ok (.sipush 640, 3) := by decide +kernel
theorem dX3_init_8 : decode cX3_init 8 = .ok (.newarray .int, 2) := by decide +kernel
theorem dX3_init_10 : decode cX3_init 10 = .ok (.putfield 9, 3) := by decide +kernel
theorem dX3_init_13 : decode cX3_init 13 = .ok (.aload_n 0, 1) := by decide +kernel
theorem dX3_init_14 : decode cX3_init 14 = .ok (.bipush 8, 2) := by decide +kernel
theorem dX3_init_16 : decode cX3_init 16 = .ok (.newarray .long, 2) := by decide +kernel
theorem dX3_init_18 : decode cX3_init 18 = .ok (.putfield 13, 3) := by decide +kernel
theorem dX3_init_21 : decode cX3_init 21 = .ok (.aload_n 0, 1) := by decide +kernel
theorem dX3_init_22 : decode cX3_init 22 = .ok (.bipush 80, 2) := by decide +kernel
theorem dX3_init_24 : decode cX3_init 24 = .ok (.newarray .long, 2) := by decide +kernel
theorem dX3_init_26 : decode cX3_init 26 = .ok (.putfield 17, 3) := by decide +kernel
theorem dX3_init_29 : decode cX3_init 29 = .ok (.aload_n 0, 1) := by decide +kernel
theorem dX3_init_30 : decode cX3_init 30 = .ok (.new 20, 3) := by decide +kernel
theorem dX3_init_33 : decode cX3_init 33 = .ok (.dup, 1) := by decide +kernel
theorem dX3_init_34 : decode cX3_init 34 = .ok (.sipush 512, 3) := by decide +kernel
theorem dX3_init_37 : decode cX3_init 37 = .ok (.invokespecial 22, 3) := by decide +kernel
theorem dX3_init_40 : decode cX3_init 40 = .ok (.putfield 25, 3) := by decide +kernel
theorem dX3_init_43 : decode cX3_init 43 = .ok (.aload_n 0, 1) := by decide +kernel
theorem dX3_init_44 : decode cX3_init 44 = .ok (.new 20, 3) := by decide +kernel
theorem dX3_init_47 : decode cX3_init 47 = .ok (.dup, 1) := by decide +kernel
theorem dX3_init_48 : decode cX3_init 48 = .ok (.bipush 64, 2) := by decide +kernel
theorem dX3_init_50 : decode cX3_init 50 = .ok (.invokespecial 22, 3) := by decide +kernel
theorem dX3_init_53 : decode cX3_init 53 = .ok (.putfield 29, 3) := by decide +kernel
theorem dX3_init_56 : decode cX3_init 56 = .ok (.aload_n 0, 1) := by decide +kernel
theorem dX3_init_57 : decode cX3_init 57 = .ok (.iload_n 1, 1) := by decide +kernel
theorem dX3_init_58 : decode cX3_init 58 = .ok (.ifCond .eq 8, 3) := by decide +kernel
theorem dX3_init_61 : decode cX3_init 61 = .ok (.bipush 8, 2) := by decide +kernel
theorem dX3_init_63 : decode cX3_init 63 = .ok (.goto 4, 3) := by decide +kernel
theorem dX3_init_66 : decode cX3_init 66 = .ok (.iconst 4, 1) := by decide +kernel
theorem dX3_init_67 : decode cX3_init 67 = .ok (.putfield 32, 3) := by decide +kernel
theorem dX3_init_70 : decode cX3_init 70 = .ok (.aload_n 0, 1) := by decide +kernel
theorem dX3_init_71 : decode cX3_init 71 = .ok (.bipush 8, 2) := by decide +kernel
theorem dX3_init_73 : decode cX3_init 73 = .ok (.aload_n 0, 1) := by decide +kernel
theorem dX3_init_74 : decode cX3_init 74 = .ok (.getfield 32, 3) := by decide +kernel
theorem dX3_init_77 : decode cX3_init 77 = .ok (.imul, 1) := by decide +kernel
theorem dX3_init_78 : decode cX3_init 78 = .ok (.putfield 36, 3) := by decide +kernel
theorem dX3_init_81 : decode cX3_init 81 = .ok (.aload_n 0, 1) := by decide +kernel
theorem dX3_init_82 : decode cX3_init 82 = .ok (.ldc2_w 39, 3) := by decide +kernel
theorem dX3_init_85 : decode cX3_init 85 = .ok (.bipush 64, 2) := by decide +kernel
theorem dX3_init_87 : decode cX3_init 87 = .ok (.aload_n 0, 1) := by decide +kernel
theorem dX3_init_88 : decode cX3_init 88 = .ok (.getfield 36, 3) := by decide +kernel
theorem dX3_init_91 : decode cX3_init 91 = .ok (.isub, 1) := by decide +kernel
theorem dX3_init_92 : decode cX3_init 92 = .ok (.lushr, 1) := by decide +kernel
theorem dX3_init_93 : decode cX3_init 93 = .ok (.putfield 41, 3) := by decide +kernel
theorem dX3_init_96 : decode cX3_init 96 = .ok (.aload_n 0, 1) := by decide +kernel
theorem dX3_init_97 : decode cX3_init 97 = .ok (.bipush 8, 2) := by decide +kernel
theorem dX3_init_99 : decode cX3_init 99 = .ok (.aload_n 0, 1) := by decide +kernel
theorem dX3_init_100 : decode cX3_init 100 = .ok (.getfield 32, 3) := by decide +kernel
theorem dX3_init_103 : decode cX3_init 103 = .ok (.imul, 1) := by decide +kernel
theorem dX3_init_104 : decode cX3_init 104 = .ok (.putfield 45, 3) := by decide +kernel
theorem dX3_init_107 : decode cX3_init 107 = .ok (.aload_n 0, 1) := by decide +kernel
theorem dX3_init_108 : decode cX3_init 108 = .ok (.bipush 16, 2) := by decide +kernel
theorem dX3_init_110 : decode cX3_init 110 = .ok (.aload_n 0, 1) := by decide +kernel
theorem dX3_init_111 : decode cX3_init 111 = .ok (.getfield 32, 3) := by decide +kernel
theorem dX3_init_114 : decode cX3_init 114 = .ok (.imul, 1) := by decide +kernel
theorem dX3_init_115 : decode cX3_init 115 = .ok (.putfield 48, 3) := by decide +kernel
theorem dX3_init_118 : decode cX3_init 118 = .ok (.aload_n 0, 1) := by decide +kernel
theorem dX3_init_119 : decode cX3_init 119 = .ok (.iload_n 1, 1) := by decide +kernel
theorem dX3_init_120 : decode cX3_init 120 = .ok (.ifCond .eq 8, 3) := by decide +kernel
theorem dX3_init_123 : decode cX3_init 123 = .ok (.bipush 80, 2) := by decide +kernel
theorem dX3_init_125 : decode cX3_init 125 = .ok (.goto 5, 3) := by decide +kernel
theorem dX3_init_128 : decode cX3_init 128 = .ok (.bipush 64, 2) := by decide +kernel
theorem dX3_init_130 : decode cX3_init 130 = .ok (.putfield 51, 3) := by decide +kernel
theorem dX3_init_133 : decode cX3_init 133 = .ok (.aload_n 0, 1) := by decide +kernel
theorem dX3_init_134 : decode cX3_init 134 = .ok (.iload_n 1, 1) := by decide +kernel
theorem dX3_init_135 : decode cX3_init 135 = .ok (.ifCond .eq 9, 3) := by decide +kernel
theorem dX3_init_138 : decode cX3_init 138 = .ok (.getstatic 54, 3) := by decide +kernel
theorem dX3_init_141 : decode cX3_init 141 = .ok (.goto 6, 3) := by decide +kernel
theorem dX3_init_144 : decode cX3_init 144 = .ok (.getstatic 57, 3) := by decide +kernel
theorem dX3_init_147 : decode cX3_init 147 = .ok (.putfield 60, 3) := by decide +kernel
theorem dX3_init_150 : decode cX3_init 150 = .ok (.return_, 1) := by decide +kernel
theorem dX3_hash_0 : decode cX3_hash 0 = .ok (.aload_n 0, 1) := by decide +kernel
theorem dX3_hash_1 : decode cX3_hash 1 = .ok (.aload_n 1, 1) := by decide +kernel
theorem dX3_hash_2 : decode cX3_hash 2 = .ok (.aload_n 0, 1) := by decide +kernel
theorem dX3_hash_3 : decode cX3_hash 3 = .ok (.getfield 9, 3) := by decide +kernel
theorem dX3_hash_6 : decode cX3_hash 6 = .ok (.sipush 512, 3) := by decide +kernel
theorem dX3_hash_9 : decode cX3_hash 9 = .ok (.invokevirtual 63, 3) := by decide +kernel
theorem dX3_hash_12 : decode cX3_hash 12 = .ok (.invokevirtual 67, 3) := by decide +kernel
theorem dX3_hash_15 : decode cX3_hash 15 = .ok (.istore_n 3, 1) := by decide +kernel
theorem dX3_hash_16 : decode cX3_hash 16 = .ok (.iconst 0, 1) := by decide +kernel
theorem dX3_hash_17 : decode cX3_hash 17 = .ok (.istore 4, 2) := by decide +kernel
theorem dX3_hash_19 : decode cX3_hash 19 = .ok (.iload 4, 2) := by decide +kernel
theorem dX3_hash_21 : decode cX3_hash 21 = .ok (.bipush 8, 2) := by decide +kernel
theorem dX3_hash_23 : decode cX3_hash 23 = .ok (.if_icmp .ge 30, 3) := by decide +kernel
theorem dX3_hash_26 : decode cX3_hash 26 = .ok (.aload_n 0, 1) := by decide +kernel
theorem dX3_hash_27 : decode cX3_hash 27 = .ok (.getfield 13, 3) := by decide +kernel
theorem dX3_hash_30 : decode cX3_hash 30 = .ok (.iload 4, 2) := by decide +kernel
theorem dX3_hash_32 : decode cX3_hash 32 = .ok (.getstatic 71, 3) := by decide +kernel
theorem dX3_hash_35 : decode cX3_hash 35 = .ok (.iload 4, 2) := by decide +kernel
theorem dX3_hash_37 : decode cX3_hash 37 = .ok (.laload, 1) := by decide +kernel
theorem dX3_hash_38 : decode cX3_hash 38 = .ok (.bipush 64, 2) := by decide +kernel
theorem dX3_hash_40 : decode cX3_hash 40 = .ok (.aload_n 0, 1) := by decide +kernel
theorem dX3_hash_41 : decode cX3_hash 41 = .ok (.getfield 36, 3) := by decide +kernel
theorem dX3_hash_44 : decode cX3_hash 44 = .ok (.isub, 1) := by decide +kernel
theorem dX3_hash_45 : decode cX3_hash 45 = .ok (.lushr, 1) := by decide +kernel
theorem dX3_hash_46 : decode cX3_hash 46 = .ok (.lastore, 1) := by decide +kernel
theorem dX3_hash_47 : decode cX3_hash 47 = .ok (.iinc 4 1, 3) := by decide +kernel
theorem dX3_hash_50 : decode cX3_hash 50 = .ok (.goto (-31), 3) := by decide +kernel
theorem dX3_hash_53 : decode cX3_hash 53 = .ok (.iconst 0, 1) := by decide +kernel
theorem dX3_hash_54 : decode cX3_hash 54 = .ok (.istore 4, 2) := by decide +kernel
theorem dX3_hash_56 : decode cX3_hash 56 = .ok (.iload 4, 2) := by decide +kernel
theorem dX3_hash_58 : decode cX3_hash 58 = .ok (.iload_n 3, 1) := by decide +kernel
theorem dX3_hash_59 : decode cX3_hash 59 = .ok (.if_icmp .ge 25, 3) := by decide +kernel
theorem dX3_hash_62 : decode cX3_hash 62 = .ok (.aload_n 0, 1) := by decide +kernel
theorem dX3_hash_63 : decode cX3_hash 63 = .ok (.iload 4, 2) := by decide +kernel
theorem dX3_hash_65 : decode cX3_hash 65 = .ok (.invokevirtual 74, 3) := by decide +kernel
theorem dX3_hash_68 : decode cX3_hash 68 = .ok (.aload_n 0, 1) := by decide +kernel
theorem dX3_hash_69 : decode cX3_hash 69 = .ok (.invokevirtual 77, 3) := by decide +kernel
theorem dX3_hash_72 : decode cX3_hash 72 = .ok (.iload 4, 2) := by decide +kernel
theorem dX3_hash_74 : decode cX3_hash 74 = .ok (.aload_n 0, 1) := by decide +kernel
theorem dX3_hash_75 : decode cX3_hash 75 = .ok (.getfield 48, 3) := by decide +kernel
theorem dX3_hash_78 : decode cX3_hash 78 = .ok (.iadd, 1) := by decide +kernel
theorem dX3_hash_79 : decode cX3_hash 79 = .ok (.istore 4, 2) := by decide +kernel
theorem dX3_hash_81 : decode cX3_hash 81 = .ok (.goto (-25), 3) := by decide +kernel
theorem dX3_hash_84 : decode cX3_hash 84 = .ok (.aload_n 2, 1) := by decide +kernel
theorem dX3_hash_85 : decode cX3_hash 85 = .ok (.invokevirtual 80, 3) := by decide +kernel
theorem dX3_hash_88 : decode cX3_hash 88 = .ok (.iconst 0, 1) := by decide +kernel
theorem dX3_hash_89 : decode cX3_hash 89 = .ok (.istore 4, 2) := by decide +kernel
theorem dX3_hash_91 : decode cX3_hash 91 = .ok (.iload 4, 2) := by decide +kernel
theorem dX3_hash_93 : decode cX3_hash 93 = .ok (.bipush 8, 2) := by decide +kernel
theorem dX3_hash_95 : decode cX3_hash 95 = .ok (.if_icmp .ge 24, 3) := by decide +kernel
theorem dX3_hash_98 : decode cX3_hash 98 = .ok (.aload_n 2, 1) := by decide +kernel
theorem dX3_hash_99 : decode cX3_hash 99 = .ok (.aload_n 0, 1) := by decide +kernel
theorem dX3_hash_100 : decode cX3_hash 100 = .ok (.getfield 13, 3) := by decide +kernel
theorem dX3_hash_103 : decode cX3_hash 103 = .ok (.iload 4, 2) := by decide +kernel
theorem dX3_hash_105 : decode cX3_hash 105 = .ok (.laload, 1) := by decide +kernel
theorem dX3_hash_106 : decode cX3_hash 106 = .ok (.aload_n 0, 1) := by decide +kernel
theorem dX3_hash_107 : decode cX3_hash 107 = .ok (.getfield 32, 3) := by decide +kernel
theorem dX3_hash_110 : decode cX3_hash 110 = .ok (.invokevirtual 83, 3) := by decide +kernel
theorem dX3_hash_113 : decode cX3_hash 113 = .ok (.iinc 4 1, 3) := by decide +kernel
theorem dX3_hash_116 : decode cX3_hash 116 = .ok (.goto (-25), 3) := by decide +kernel
theorem dX3_hash_119 : decode cX3_hash 119 = .ok (.return_, 1) := by decide +kernel
theorem dX3_pad_0 : decode cX3_pad 0 = .ok (.iload_n 1, 1) := by decide +kernel
theorem dX3_pad_1 : decode cX3_pad 1 = .ok (.iconst 1, 1) := by decide +kernel
theorem dX3_pad_2 : decode cX3_pad 2 = .ok (.iadd, 1) := by decide +kernel
theorem dX3_pad_3 : decode cX3_pad 3 = .ok (.iconst 2, 1) := by decide +kernel
theorem dX3_pad_4 : decode cX3_pad 4 = .ok (.aload_n 0, 1) := by decide +kernel
theorem dX3_pad_5 : decode cX3_pad 5 = .ok (.getfield 32, 3) := by decide +kernel
theorem dX3_pad_8 : decode cX3_pad 8 = .ok (.imul, 1) := by decide +kernel
theorem dX3_pad_9 : decode cX3_pad 9 = .ok (.iadd, 1) := by decide +kernel
theorem dX3_pad_10 : decode cX3_pad 10 = .ok (.aload_n 0, 1) := by decide +kernel
theorem dX3_pad_11 : decode cX3_pad 11 = .ok (.getfield 48, 3) := by decide +kernel
theorem dX3_pad_14 : decode cX3_pad 14 = .ok (.iadd, 1) := by decide +kernel
theorem dX3_pad_15 : decode cX3_pad 15 = .ok (.iconst 1, 1) := by decide +kernel
theorem dX3_pad_16 : decode cX3_pad 16 = .ok (.isub, 1) := by decide +kernel
theorem dX3_pad_17 : decode cX3_pad 17 = .ok (.aload_n 0, 1) := by decide +kernel
theorem dX3_pad_18 : decode cX3_pad 18 = .ok (.getfield 48, 3) := by decide +kernel
theorem dX3_pad_21 : decode cX3_pad 21 = .ok (.ineg, 1) := by decide +kernel
theorem dX3_pad_22 : decode cX3_pad 22 = .ok (.iand, 1) := by decide +kernel
theorem dX3_pad_23 : decode cX3_pad 23 = .ok (.istore_n 2, 1) := by decide +kernel
theorem dX3_pad_24 : decode cX3_pad 24 = .ok (.aload_n 0, 1) := by decide +kernel
theorem dX3_pad_25 : decode cX3_pad 25 = .ok (.getfield 9, 3) := by decide +kernel
theorem dX3_pad_28 : decode cX3_pad 28 = .ok (.iload_n 1, 1) := by decide +kernel
theorem dX3_pad_29 : decode cX3_pad 29 = .ok (.sipush 128, 3) := by decide +kernel
theorem dX3_pad_32 : decode cX3_pad 32 = .ok (.iastore, 1) := by decide +kernel
theorem dX3_pad_33 : decode cX3_pad 33 = .ok (.iload_n 1, 1) := by decide +kernel
theorem dX3_pad_34 : decode cX3_pad 34 = .ok (.iconst 1, 1) := by decide +kernel
theorem dX3_pad_35 : decode cX3_pad 35 = .ok (.iadd, 1) := by decide +kernel
theorem dX3_pad_36 : decode cX3_pad 36 = .ok (.istore_n 3, 1) := by decide +kernel
theorem dX3_pad_37 : decode cX3_pad 37 = .ok (.iload_n 3, 1) := by decide +kernel
theorem dX3_pad_38 : decode cX3_pad 38 = .ok (.iload_n 2, 1) := by decide +kernel
theorem dX3_pad_39 : decode cX3_pad 39 = .ok (.if_icmp .ge 16, 3) := by decide +kernel
theorem dX3_pad_42 : decode cX3_pad 42 = .ok (.aload_n 0, 1) := by decide +kernel
theorem dX3_pad_43 : decode cX3_pad 43 = .ok (.getfield 9, 3) := by decide +kernel
theorem dX3_pad_46 : decode cX3_pad 46 = .ok (.iload_n 3, 1) := by decide +kernel
theorem dX3_pad_47 : decode cX3_pad 47 = .ok (.iconst 0, 1) := by decide +kernel
theorem dX3_pad_48 : decode cX3_pad 48 = .ok (.iastore, 1) := by decide +kernel
theorem dX3_pad_49 : decode cX3_pad 49 = .ok (.iinc 3 1, 3) := by decide +kernel
theorem dX3_pad_52 : decode cX3_pad 52 = .ok (.goto (-15), 3) := by decide +kernel
theorem dX3_pad_55 : decode cX3_pad 55 = .ok (.bipush 8, 2) := by decide +kernel
theorem dX3_pad_57 : decode cX3_pad 57 = .ok (.iload_n 1, 1) := by decide +kernel
theorem dX3_pad_58 : decode cX3_pad 58 = .ok (.imul, 1) := by decide +kernel
theorem dX3_pad_59 : decode cX3_pad 59 = .ok (.istore_n 3, 1) := by decide +kernel
theorem dX3_pad_60 : decode cX3_pad 60 = .ok (.aload_n 0, 1) := by decide +kernel
theorem dX3_pad_61 : decode cX3_pad 61 = .ok (.getfield 9, 3) := by decide +kernel
theorem dX3_pad_64 : decode cX3_pad 64 = .ok (.iload_n 2, 1) := by decide +kernel
theorem dX3_pad_65 : decode cX3_pad 65 = .ok (.iconst 2, 1) := by decide +kernel
theorem dX3_pad_66 : decode cX3_pad 66 = .ok (.isub, 1) := by decide +kernel
theorem dX3_pad_67 : decode cX3_pad 67 = .ok (.iload_n 3, 1) := by decide +kernel
theorem dX3_pad_68 : decode cX3_pad 68 = .ok (.bipush 8, 2) := by decide +kernel
theorem dX3_pad_70 : decode cX3_pad 70 = .ok (.iushr, 1) := by decide +kernel
theorem dX3_pad_71 : decode cX3_pad 71 = .ok (.iastore, 1) := by decide +kernel
theorem dX3_pad_72 : decode cX3_pad 72 = .ok (.aload_n 0, 1) := by decide +kernel
theorem dX3_pad_73 : decode cX3_pad 73 = .ok (.getfield 9, 3) := by decide +kernel
theorem dX3_pad_76 : decode cX3_pad 76 = .ok (.iload_n 2, 1) := by decide +kernel
theorem dX3_pad_77 : decode cX3_pad 77 = .ok (.iconst 1, 1) := by decide +kernel
theorem dX3_pad_78 : decode cX3_pad 78 = .ok (.isub, 1) := by decide +kernel
theorem dX3_pad_79 : decode cX3_pad 79 = .ok (.iload_n 3, 1) := by decide +kernel
theorem dX3_pad_80 : decode cX3_pad 80 = .ok (.sipush 255, 3) := by decide +kernel
theorem dX3_pad_83 : decode cX3_pad 83 = .ok (.iand, 1) := by decide +kernel
theorem dX3_pad_84 : decode cX3_pad 84 = .ok (.iastore, 1) := by decide +kernel
theorem dX3_pad_85 : decode cX3_pad 85 = .ok (.iload_n 2, 1) := by decide +kernel
theorem dX3_pad_86 : decode cX3_pad 86 = .ok (.ireturn, 1) := by decide +kernel
theorem dX3_spread_0 : decode cX3_spread 0 = .ok (.iload_n 1, 1) := by decide +kernel
theorem dX3_spread_1 : decode cX3_spread 1 = .ok (.ifCond .lt 15, 3) := by decide +kernel
theorem dX3_spread_4 : decode cX3_spread 4 = .ok (.iload_n 1, 1) := by decide +kernel
theorem dX3_spread_5 : decode cX3_spread 5 = .ok (.sipush 640, 3) := by decide +kernel
theorem dX3_spread_8 : decode cX3_spread 8 = .ok (.aload_n 0, 1) := by decide +kernel
theorem dX3_spread_9 : decode cX3_spread 9 = .ok (.getfield 48, 3) := by decide +kernel
theorem dX3_spread_12 : decode cX3_spread 12 = .ok (.isub, 1) := by decide +kernel
theorem dX3_spread_13 : decode cX3_spread 13 = .ok (.if_icmp .le 4, 3) := by decide +kernel
theorem dX3_spread_16 : decode cX3_spread 16 = .ok (.return_, 1) := by decide +kernel
theorem dX3_spread_17 : decode cX3_spread 17 = .ok (.iconst 0, 1) := by decide +kernel
theorem dX3_spread_18 : decode cX3_spread 18 = .ok (.istore_n 2, 1) := by decide +kernel
theorem dX3_spread_19 : decode cX3_spread 19 = .ok (.iload_n 2, 1) := by decide +kernel
theorem dX3_spread_20 : decode cX3_spread 20 = .ok (.bipush 16, 2) := by decide +kernel
theorem dX3_spread_22 : decode cX3_spread 22 = .ok (.if_icmp .ge 59, 3) := by decide +kernel
theorem dX3_spread_25 : decode cX3_spread 25 = .ok (.lconst 0, 1) := by decide +kernel
theorem dX3_spread_26 : decode cX3_spread 26 = .ok (.lstore_n 3, 1) := by decide +kernel
theorem dX3_spread_27 : decode cX3_spread 27 = .ok (.iconst 0, 1) := by decide +kernel
theorem dX3_spread_28 : decode cX3_spread 28 = .ok (.istore 5, 2) := by decide +kernel
theorem dX3_spread_30 : decode cX3_spread 30 = .ok (.iload 5, 2) := by decide +kernel
theorem dX3_spread_32 : decode cX3_spread 32 = .ok (.aload_n 0, 1) := by decide +kernel
theorem dX3_spread_33 : decode cX3_spread 33 = .ok (.getfield 32, 3) := by decide +kernel
theorem dX3_spread_36 : decode cX3_spread 36 = .ok (.if_icmp .ge 32, 3) := by decide +kernel
theorem dX3_spread_39 : decode cX3_spread 39 = .ok (.lload_n 3, 1) := by decide +kernel
theorem dX3_spread_40 : decode cX3_spread 40 = .ok (.bipush 8, 2) := by decide +kernel
theorem dX3_spread_42 : decode cX3_spread 42 = .ok (.lshl, 1) := by decide +kernel
theorem dX3_spread_43 : decode cX3_spread 43 = .ok (.aload_n 0, 1) := by decide +kernel
theorem dX3_spread_44 : decode cX3_spread 44 = .ok (.getfield 9, 3) := by decide +kernel
theorem dX3_spread_47 : decode cX3_spread 47 = .ok (.iload_n 1, 1) := by decide +kernel
theorem dX3_spread_48 : decode cX3_spread 48 = .ok (.aload_n 0, 1) := by decide +kernel
theorem dX3_spread_49 : decode cX3_spread 49 = .ok (.getfield 32, 3) := by decide +kernel
theorem dX3_spread_52 : decode cX3_spread 52 = .ok (.iload_n 2, 1) := by decide +kernel
theorem dX3_spread_53 : decode cX3_spread 53 = .ok (.imul, 1) := by decide +kernel
theorem dX3_spread_54 : decode cX3_spread 54 = .ok (.iadd, 1) := by decide +kernel
theorem dX3_spread_55 : decode cX3_spread 55 = .ok (.iload 5, 2) := by decide +kernel
theorem dX3_spread_57 : decode cX3_spread 57 = .ok (.iadd, 1) := by decide +kernel
theorem dX3_spread_58 : decode cX3_spread 58 = .ok (.iaload, 1) := by decide +kernel
theorem dX3_spread_59 : decode cX3_spread 59 = .ok (.i2l, 1) := by decide +kernel
theorem dX3_spread_60 : decode cX3_spread 60 = .ok (.lor, 1) := by decide +kernel
theorem dX3_spread_61 : decode cX3_spread 61 = .ok (.lstore_n 3, 1) := by decide +kernel
theorem dX3_spread_62 : decode cX3_spread 62 = .ok (.iinc 5 1, 3) := by decide +kernel
theorem dX3_spread_65 : decode cX3_spread 65 = .ok (.goto (-35), 3) := by decide +kernel
theorem dX3_spread_68 : decode cX3_spread 68 = .ok (.aload_n 0, 1) := by decide +kernel
theorem dX3_spread_69 : decode cX3_spread 69 = .ok (.getfield 17, 3) := by decide +kernel
theorem dX3_spread_72 : decode cX3_spread 72 = .ok (.iload_n 2, 1) := by decide +kernel
theorem dX3_spread_73 : decode cX3_spread 73 = .ok (.lload_n 3, 1) := by decide +kernel
theorem dX3_spread_74 : decode cX3_spread 74 = .ok (.lastore, 1) := by decide +kernel
theorem dX3_spread_75 : decode cX3_spread 75 = .ok (.iinc 2 1, 3) := by decide +kernel
theorem dX3_spread_78 : decode cX3_spread 78 = .ok (.goto (-59), 3) := by decide +kernel
theorem dX3_spread_81 : decode cX3_spread 81 = .ok (.bipush 16, 2) := by decide +kernel
theorem dX3_spread_83 : decode cX3_spread 83 = .ok (.istore_n 2, 1) := by decide +kernel
theorem dX3_spread_84 : decode cX3_spread 84 = .ok (.iload_n 2, 1) := by decide +kernel
theorem dX3_spread_85 : decode cX3_spread 85 = .ok (.aload_n 0, 1) := by decide +kernel
theorem dX3_spread_86 : decode cX3_spread 86 = .ok (.getfield 51, 3) := by decide +kernel
theorem dX3_spread_89 : decode cX3_spread 89 = .ok (.if_icmp .ge 136, 3) := by decide +kernel
theorem dX3_spread_92 : decode cX3_spread 92 = .ok (.aload_n 0, 1) := by decide +kernel
theorem dX3_spread_93 : decode cX3_spread 93 = .ok (.getfield 17, 3) := by decide +kernel
theorem dX3_spread_96 : decode cX3_spread 96 = .ok (.iload_n 2, 1) := by decide +kernel
theorem dX3_spread_97 : decode cX3_spread 97 = .ok (.bipush 15, 2) := by decide +kernel
theorem dX3_spread_99 : decode cX3_spread 99 = .ok (.isub, 1) := by decide +kernel
theorem dX3_spread_100 : decode cX3_spread 100 = .ok (.laload, 1) := by decide +kernel
theorem dX3_spread_101 : decode cX3_spread 101 = .ok (.lstore_n 3, 1) := by decide +kernel
theorem dX3_spread_102 : decode cX3_spread 102 = .ok (.aload_n 0, 1) := by decide +kernel
theorem dX3_spread_103 : decode cX3_spread 103 = .ok (.getfield 17, 3) := by decide +kernel
theorem dX3_spread_106 : decode cX3_spread 106 = .ok (.iload_n 2, 1) := by decide +kernel
theorem dX3_spread_107 : decode cX3_spread 107 = .ok (.iconst 2, 1) := by decide +kernel
theorem dX3_spread_108 : decode cX3_spread 108 = .ok (.isub, 1) := by decide +kernel
theorem dX3_spread_109 : decode cX3_spread 109 = .ok (.laload, 1) := by decide +kernel
theorem dX3_spread_110 : decode cX3_spread 110 = .ok (.lstore 5, 2) := by decide +kernel
theorem dX3_spread_112 : decode cX3_spread 112 = .ok (.aload_n 0, 1) := by decide +kernel
theorem dX3_spread_113 : decode cX3_spread 113 = .ok (.lload_n 3, 1) := by decide +kernel
theorem dX3_spread_114 : decode cX3_spread 114 = .ok (.aload_n 0, 1) := by decide +kernel
theorem dX3_spread_115 : decode cX3_spread 115 = .ok (.getfield 60, 3) := by decide +kernel
theorem dX3_spread_118 : decode cX3_spread 118 = .ok (.iconst 0, 1) := by decide +kernel
theorem dX3_spread_119 : decode cX3_spread 119 = .ok (.iaload, 1) := by decide +kernel
theorem dX3_spread_120 : decode cX3_spread 120 = .ok (.invokevirtual 87, 3) := by decide +kernel
theorem dX3_spread_123 : decode cX3_spread 123 = .ok (.aload_n 0, 1) := by decide +kernel
theorem dX3_spread_124 : decode cX3_spread 124 = .ok (.lload_n 3, 1) := by decide +kernel
theorem dX3_spread_125 : decode cX3_spread 125 = .ok (.aload_n 0, 1) := by decide +kernel
theorem dX3_spread_126 : decode cX3_spread 126 = .ok (.getfield 60, 3) := by decide +kernel
theorem dX3_spread_129 : decode cX3_spread 129 = .ok (.iconst 1, 1) := by decide +kernel
theorem dX3_spread_130 : decode cX3_spread 130 = .ok (.iaload, 1) := by decide +kernel
theorem dX3_spread_131 : decode cX3_spread 131 = .ok (.invokevirtual 87, 3) := by decide +kernel
theorem dX3_spread_134 : decode cX3_spread 134 = .ok (.lxor, 1) := by decide +kernel
theorem dX3_spread_135 : decode cX3_spread 135 = .ok (.lload_n 3, 1) := by decide +kernel
theorem dX3_spread_136 : decode cX3_spread 136 = .ok (.aload_n 0, 1) := by decide +kernel
theorem dX3_spread_137 : decode cX3_spread 137 = .ok (.getfield 60, 3) := by decide +kernel
theorem dX3_spread_140 : decode cX3_spread 140 = .ok (.iconst 2, 1) := by decide +kernel
theorem dX3_spread_141 : decode cX3_spread 141 = .ok (.iaload, 1) := by decide +kernel
theorem dX3_spread_142 : decode cX3_spread 142 = .ok (.lushr, 1) := by decide +kernel
theorem dX3_spread_143 : decode cX3_spread 143 = .ok (.lxor, 1) := by decide +kernel
theorem dX3_spread_144 : decode cX3_spread 144 = .ok (.lstore 7, 2) := by decide +kernel
theorem dX3_spread_146 : decode cX3_spread 146 = .ok (.aload_n 0, 1) := by decide +kernel
theorem dX3_spread_147 : decode cX3_spread 147 = .ok (.lload 5, 2) := by decide +kernel
theorem dX3_spread_149 : decode cX3_spread 149 = .ok (.aload_n 0, 1) := by decide +kernel
theorem dX3_spread_150 : decode cX3_spread 150 = .ok (.getfield 60, 3) := by decide +kernel
theorem dX3_spread_153 : decode cX3_spread 153 = .ok (.iconst 3, 1) := by decide +kernel
theorem dX3_spread_154 : decode cX3_spread 154 = .ok (.iaload, 1) := by decide +kernel
theorem dX3_spread_155 : decode cX3_spread 155 = .ok (.invokevirtual 87, 3) := by decide +kernel
theorem dX3_spread_158 : decode cX3_spread 158 = .ok (.aload_n 0, 1) := by decide +kernel
theorem dX3_spread_159 : decode cX3_spread 159 = .ok (.lload 5, 2) := by decide +kernel
theorem dX3_spread_161 : decode cX3_spread 161 = .ok (.aload_n 0, 1) := by decide +kernel
theorem dX3_spread_162 : decode cX3_spread 162 = .ok (.getfield 60, 3) := by decide +kernel
theorem dX3_spread_165 : decode cX3_spread 165 = .ok (.iconst 4, 1) := by decide +kernel
theorem dX3_spread_166 : decode cX3_spread 166 = .ok (.iaload, 1) := by decide +kernel
theorem dX3_spread_167 : decode cX3_spread 167 = .ok (.invokevirtual 87, 3) := by decide +kernel
theorem dX3_spread_170 : decode cX3_spread 170 = .ok (.lxor, 1) := by decide +kernel
theorem dX3_spread_171 : decode cX3_spread 171 = .ok (.lload 5, 2) := by decide +kernel
theorem dX3_spread_173 : decode cX3_spread 173 = .ok (.aload_n 0, 1) := by decide +kernel
theorem dX3_spread_174 : decode cX3_spread 174 = .ok (.getfield 60, 3) := by decide +kernel
theorem dX3_spread_177 : decode cX3_spread 177 = .ok (.iconst 5, 1) := by decide +kernel
theorem dX3_spread_178 : decode cX3_spread 178 = .ok (.iaload, 1) := by decide +kernel
theorem dX3_spread_179 : decode cX3_spread 179 = .ok (.lushr, 1) := by decide +kernel
theorem dX3_spread_180 : decode cX3_spread 180 = .ok (.lxor, 1) := by decide +kernel
theorem dX3_spread_181 : decode cX3_spread 181 = .ok (.lstore 9, 2) := by decide +kernel
theorem dX3_spread_183 : decode cX3_spread 183 = .ok (.aload_n 0, 1) := by decide +kernel
theorem dX3_spread_184 : decode cX3_spread 184 = .ok (.getfield 17, 3) := by decide +kernel
theorem dX3_spread_187 : decode cX3_spread 187 = .ok (.iload_n 2, 1) := by decide +kernel
theorem dX3_spread_188 : decode cX3_spread 188 = .ok (.aload_n 0, 1) := by decide +kernel
theorem dX3_spread_189 : decode cX3_spread 189 = .ok (.getfield 17, 3) := by decide +kernel
theorem dX3_spread_192 : decode cX3_spread 192 = .ok (.iload_n 2, 1) := by decide +kernel
theorem dX3_spread_193 : decode cX3_spread 193 = .ok (.bipush 16, 2) := by decide +kernel
theorem dX3_spread_195 : decode cX3_spread 195 = .ok (.isub, 1) := by decide +kernel
theorem dX3_spread_196 : decode cX3_spread 196 = .ok (.laload, 1) := by decide +kernel
theorem dX3_spread_197 : decode cX3_spread 197 = .ok (.lload 7, 2) := by decide +kernel
theorem dX3_spread_199 : decode cX3_spread 199 = .ok (.ladd, 1) := by decide +kernel
theorem dX3_spread_200 : decode cX3_spread 200 = .ok (.aload_n 0, 1) := by decide +kernel
theorem dX3_spread_201 : decode cX3_spread 201 = .ok (.getfield 17, 3) := by decide +kernel
theorem dX3_spread_204 : decode cX3_spread 204 = .ok (.iload_n 2, 1) := by decide +kernel
theorem dX3_spread_205 : decode cX3_spread 205 = .ok (.bipush 7, 2) := by decide +kernel
theorem dX3_spread_207 : decode cX3_spread 207 = .ok (.isub, 1) := by decide +kernel
theorem dX3_spread_208 : decode cX3_spread 208 = .ok (.laload, 1) := by decide +kernel
theorem dX3_spread_209 : decode cX3_spread 209 = .ok (.ladd, 1) := by decide +kernel
theorem dX3_spread_210 : decode cX3_spread 210 = .ok (.lload 9, 2) := by decide +kernel
theorem dX3_spread_212 : decode cX3_spread 212 = .ok (.ladd, 1) := by decide +kernel
theorem dX3_spread_213 : decode cX3_spread 213 = .ok (.aload_n 0, 1) := by decide +kernel
theorem dX3_spread_214 : decode cX3_spread 214 = .ok (.getfield 41, 3) := by decide +kernel
theorem dX3_spread_217 : decode cX3_spread 217 = .ok (.land, 1) := by decide +kernel
theorem dX3_spread_218 : decode cX3_spread 218 = .ok (.lastore, 1) := by decide +kernel
theorem dX3_spread_219 : decode cX3_spread 219 = .ok (.iinc 2 1, 3) := by decide +kernel
theorem dX3_spread_222 : decode cX3_spread 222 = .ok (.goto (-138), 3) := by decide +kernel
theorem dX3_spread_225 : decode cX3_spread 225 = .ok (.return_, 1) := by decide +kernel
theorem dX3_compress_0 : decode cX3_compress 0 = .ok (.aload_n 0, 1) := by decide +kernel
theorem dX3_compress_1 : decode cX3_compress 1 = .ok (.getfield 13, 3) := by decide +kernel
theorem dX3_compress_4 : decode cX3_compress 4 = .ok (.iconst 0, 1) := by decide +kernel
theorem dX3_compress_5 : decode cX3_compress 5 = .ok (.laload, 1) := by decide +kernel
theorem dX3_compress_6 : decode cX3_compress 6 = .ok (.lstore_n 1, 1) := by decide +kernel
theorem dX3_compress_7 : decode cX3_compress 7 = .ok (.aload_n 0, 1) := by decide +kernel
theorem dX3_compress_8 : decode cX3_compress 8 = .ok (.getfield 13, 3) := by decide +kernel
theorem dX3_compress_11 : decode cX3_compress 11 = .ok (.iconst 1, 1) := by decide +kernel
theorem dX3_compress_12 : decode cX3_compress 12 = .ok (.laload, 1) := by decide +kernel
theorem dX3_compress_13 : decode cX3_compress 13 = .ok (.lstore_n 3, 1) := by decide +kernel
theorem dX3_compress_14 : decode cX3_compress 14 = .ok (.aload_n 0, 1) := by decide +kernel
theorem dX3_compress_15 : decode cX3_compress 15 = .ok (.getfield 13, 3) := by decide +kernel
theorem dX3_compress_18 : decode cX3_compress 18 = .ok (.iconst 2, 1) := by decide +kernel
theorem dX3_compress_19 : decode cX3_compress 19 = .ok (.laload, 1) := by decide +kernel
theorem dX3_compress_20 : decode cX3_compress 20 = .ok (.lstore 5, 2) := by decide +kernel
theorem dX3_compress_22 : decode cX3_compress 22 = .ok (.aload_n 0, 1) := by decide +kernel
theorem dX3_compress_23 : decode cX3_compress 23 = .ok (.getfield 13, 3) := by decide +kernel
theorem dX3_compress_26 : decode cX3_compress 26 = .ok (.iconst 3, 1) := by decide +kernel
theorem dX3_compress_27 : decode cX3_compress 27 = .ok (.laload, 1) := by decide +kernel
theorem dX3_compress_28 : decode cX3_compress 28 = .ok (.lstore 7, 2) := by decide +kernel
theorem dX3_compress_30 : decode cX3_compress 30 = .ok (.aload_n 0, 1) := by decide +kernel
theorem dX3_compress_31 : decode cX3_compress 31 = .ok (.getfield 13, 3) := by decide +kernel
theorem dX3_compress_34 : decode cX3_compress 34 = .ok (.iconst 4, 1) := by decide +kernel
theorem dX3_compress_35 : decode cX3_compress 35 = .ok (.laload, 1) := by decide +kernel
theorem dX3_compress_36 : decode cX3_compress 36 = .ok (.lstore 9, 2) := by decide +kernel
theorem dX3_compress_38 : decode cX3_compress 38 = .ok (.aload_n 0, 1) := by decide +kernel
theorem dX3_compress_39 : decode cX3_compress 39 = .ok (.getfield 13, 3) := by decide +kernel
theorem dX3_compress_42 : decode cX3_compress 42 = .ok (.iconst 5, 1) := by decide +kernel
theorem dX3_compress_43 : decode cX3_compress 43 = .ok (.laload, 1) := by decide +kernel
theorem dX3_compress_44 : decode cX3_compress 44 = .ok (.lstore 11, 2) := by decide +kernel
theorem dX3_compress_46 : decode cX3_compress 46 = .ok (.aload_n 0, 1) := by decide +kernel
theorem dX3_compress_47 : decode cX3_compress 47 = .ok (.getfield 13, 3) := by decide +kernel
theorem dX3_compress_50 : decode cX3_compress 50 = .ok (.bipush 6, 2) := by decide +kernel
theorem dX3_compress_52 : decode cX3_compress 52 = .ok (.laload, 1) := by decide +kernel
theorem dX3_compress_53 : decode cX3_compress 53 = .ok (.lstore 13, 2) := by decide +kernel
theorem dX3_compress_55 : decode cX3_compress 55 = .ok (.aload_n 0, 1) := by decide +kernel
theorem dX3_compress_56 : decode cX3_compress 56 = .ok (.getfield 13, 3) := by decide +kernel
theorem dX3_compress_59 : decode cX3_compress 59 = .ok (.bipush 7, 2) := by decide +kernel
theorem dX3_compress_61 : decode cX3_compress 61 = .ok (.laload, 1) := by decide +kernel
theorem dX3_compress_62 : decode cX3_compress 62 = .ok (.lstore 15, 2) := by decide +kernel
theorem dX3_compress_64 : decode cX3_compress 64 = .ok (.iconst 0, 1) := by decide +kernel
theorem dX3_compress_65 : decode cX3_compress 65 = .ok (.istore 17, 2) := by decide +kernel
theorem dX3_compress_67 : decode cX3_compress 67 = .ok (.iload 17, 2) := by decide +kernel
theorem dX3_compress_69 : decode cX3_compress 69 = .ok (.aload_n 0, 1) := by decide +kernel
theorem dX3_compress_70 : decode cX3_compress 70 = .ok (.getfield 51, 3) := by decide +kernel
theorem dX3_compress_73 : decode cX3_compress 73 = .ok (.if_icmp .ge 200, 3) := by decide +kernel
theorem dX3_compress_76 : decode cX3_compress 76 = .ok (.aload_n 0, 1) := by decide +kernel
theorem dX3_compress_77 : decode cX3_compress 77 = .ok (.lload 9, 2) := by decide +kernel
theorem dX3_compress_79 : decode cX3_compress 79 = .ok (.aload_n 0, 1) := by decide +kernel
theorem dX3_compress_80 : decode cX3_compress 80 = .ok (.getfield 60, 3) := by decide +kernel
theorem dX3_compress_83 : decode cX3_compress 83 = .ok (.bipush 6, 2) := by decide +kernel
theorem dX3_compress_85 : decode cX3_compress 85 = .ok (.iaload, 1) := by decide +kernel
theorem dX3_compress_86 : decode cX3_compress 86 = .ok (.invokevirtual 87, 3) := by decide +kernel
theorem dX3_compress_89 : decode cX3_compress 89 = .ok (.aload_n 0, 1) := by decide +kernel
theorem dX3_compress_90 : decode cX3_compress 90 = .ok (.lload 9, 2) := by decide +kernel
theorem dX3_compress_92 : decode cX3_compress 92 = .ok (.aload_n 0, 1) := by decide +kernel
theorem dX3_compress_93 : decode cX3_compress 93 = .ok (.getfield 60, 3) := by decide +kernel
theorem dX3_compress_96 : decode cX3_compress 96 = .ok (.bipush 7, 2) := by decide +kernel
theorem dX3_compress_98 : decode cX3_compress 98 = .ok (.iaload, 1) := by decide +kernel
theorem dX3_compress_99 : decode cX3_compress 99 = .ok (.invokevirtual 87, 3) := by decide +kernel
theorem dX3_compress_102 : decode cX3_compress 102 = .ok (.lxor, 1) := by decide +kernel
theorem dX3_compress_103 : decode cX3_compress 103 = .ok (.aload_n 0, 1) := by decide +kernel
theorem dX3_compress_104 : decode cX3_compress 104 = .ok (.lload 9, 2) := by decide +kernel
theorem dX3_compress_106 : decode cX3_compress 106 = .ok (.aload_n 0, 1) := by decide +kernel
theorem dX3_compress_107 : decode cX3_compress 107 = .ok (.getfield 60, 3) := by decide +kernel
theorem dX3_compress_110 : decode cX3_compress 110 = .ok (.bipush 8, 2) := by decide +kernel
theorem dX3_compress_112 : decode cX3_compress 112 = .ok (.iaload, 1) := by decide +kernel
theorem dX3_compress_113 : decode cX3_compress 113 = .ok (.invokevirtual 87, 3) := by decide +kernel
theorem dX3_compress_116 : decode cX3_compress 116 = .ok (.lxor, 1) := by decide +kernel
theorem dX3_compress_117 : decode cX3_compress 117 = .ok (.lstore 18, 2) := by decide +kernel
theorem dX3_compress_119 : decode cX3_compress 119 = .ok (.lload 15, 2) := by decide +kernel
theorem dX3_compress_121 : decode cX3_compress 121 = .ok (.lload 18, 2) := by decide +kernel
theorem dX3_compress_123 : decode cX3_compress 123 = .ok (.ladd, 1) := by decide +kernel
theorem dX3_compress_124 : decode cX3_compress 124 = .ok (.lload 9, 2) := by decide +kernel
theorem dX3_compress_126 : decode cX3_compress 126 = .ok (.lload 11, 2) := by decide +kernel
theorem dX3_compress_128 : decode cX3_compress 128 = .ok (.land, 1) := by decide +kernel
theorem dX3_compress_129 : decode cX3_compress 129 = .ok (.lload 9, 2) := by decide +kernel
theorem dX3_compress_131 : decode cX3_compress 131 = .ok (.ldc2_w 39, 3) := by decide +kernel
theorem dX3_compress_134 : decode cX3_compress 134 = .ok (.lxor, 1) := by decide +kernel
theorem dX3_compress_135 : decode cX3_compress 135 = .ok (.lload 13, 2) := by decide +kernel
theorem dX3_compress_137 : decode cX3_compress 137 = .ok (.land, 1) := by decide +kernel
theorem dX3_compress_138 : decode cX3_compress 138 = .ok (.lxor, 1) := by decide +kernel
theorem dX3_compress_139 : decode cX3_compress 139 = .ok (.ladd, 1) := by decide +kernel
theorem dX3_compress_140 : decode cX3_compress 140 = .ok (.getstatic 91, 3) := by decide +kernel
theorem dX3_compress_143 : decode cX3_compress 143 = .ok (.iload 17, 2) := by decide +kernel
theorem dX3_compress_145 : decode cX3_compress 145 = .ok (.laload, 1) := by decide +kernel
theorem dX3_compress_146 : decode cX3_compress 146 = .ok (.bipush 64, 2) := by decide +kernel
theorem dX3_compress_148 : decode cX3_compress 148 = .ok (.aload_n 0, 1) := by decide +kernel
theorem dX3_compress_149 : decode cX3_compress 149 = .ok (.getfield 36, 3) := by decide +kernel
theorem dX3_compress_152 : decode cX3_compress 152 = .ok (.isub, 1) := by decide +kernel
theorem dX3_compress_153 : decode cX3_compress 153 = .ok (.lushr, 1) := by decide +kernel
theorem dX3_compress_154 : decode cX3_compress 154 = .ok (.ladd, 1) := by decide +kernel
theorem dX3_compress_155 : decode cX3_compress 155 = .ok (.aload_n 0, 1) := by decide +kernel
theorem dX3_compress_156 : decode cX3_compress 156 = .ok (.getfield 17, 3) := by decide +kernel
theorem dX3_compress_159 : decode cX3_compress 159 = .ok (.iload 17, 2) := by decide +kernel
theorem dX3_compress_161 : decode cX3_compress 161 = .ok (.laload, 1) := by decide +kernel
theorem dX3_compress_162 : decode cX3_compress 162 = .ok (.ladd, 1) := by decide +kernel
theorem dX3_compress_163 : decode cX3_compress 163 = .ok (.lstore 20, 2) := by decide +kernel
theorem dX3_compress_165 : decode cX3_compress 165 = .ok (.aload_n 0, 1) := by decide +kernel
theorem dX3_compress_166 : decode cX3_compress 166 = .ok (.lload_n 1, 1) := by decide +kernel
theorem dX3_compress_167 : decode cX3_compress 167 = .ok (.aload_n 0, 1) := by decide +kernel
theorem dX3_compress_168 : decode cX3_compress 168 = .ok (.getfield 60, 3) := by decide +kernel
theorem dX3_compress_171 : decode cX3_compress 171 = .ok (.bipush 9, 2) := by decide +kernel
theorem dX3_compress_173 : decode cX3_compress 173 = .ok (.iaload, 1) := by decide +kernel
theorem dX3_compress_174 : decode cX3_compress 174 = .ok (.invokevirtual 87, 3) := by decide +kernel
theorem dX3_compress_177 : decode cX3_compress 177 = .ok (.aload_n 0, 1) := by decide +kernel
theorem dX3_compress_178 : decode cX3_compress 178 = .ok (.lload_n 1, 1) := by decide +kernel
theorem dX3_compress_179 : decode cX3_compress 179 = .ok (.aload_n 0, 1) := by decide +kernel
theorem dX3_compress_180 : decode cX3_compress 180 = .ok (.getfield 60, 3) := by decide +kernel
theorem dX3_compress_183 : decode cX3_compress 183 = .ok (.bipush 10, 2) := by decide +kernel
theorem dX3_compress_185 : decode cX3_compress 185 = .ok (.iaload, 1) := by decide +kernel
theorem dX3_compress_186 : decode cX3_compress 186 = .ok (.invokevirtual 87, 3) := by decide +kernel
theorem dX3_compress_189 : decode cX3_compress 189 = .ok (.lxor, 1) := by decide +kernel
theorem dX3_compress_190 : decode cX3_compress 190 = .ok (.aload_n 0, 1) := by decide +kernel
theorem dX3_compress_191 : decode cX3_compress 191 = .ok (.lload_n 1, 1) := by decide +kernel
theorem dX3_compress_192 : decode cX3_compress 192 = .ok (.aload_n 0, 1) := by decide +kernel
theorem dX3_compress_193 : decode cX3_compress 193 = .ok (.getfield 60, 3) := by decide +kernel
theorem dX3_compress_196 : decode cX3_compress 196 = .ok (.bipush 11, 2) := by decide +kernel
theorem dX3_compress_198 : decode cX3_compress 198 = .ok (.iaload, 1) := by decide +kernel
theorem dX3_compress_199 : decode cX3_compress 199 = .ok (.invokevirtual 87, 3) := by decide +kernel
theorem dX3_compress_202 : decode cX3_compress 202 = .ok (.lxor, 1) := by decide +kernel
theorem dX3_compress_203 : decode cX3_compress 203 = .ok (.lstore 22, 2) := by decide +kernel
theorem dX3_compress_205 : decode cX3_compress 205 = .ok (.lload 22, 2) := by decide +kernel
theorem dX3_compress_207 : decode cX3_compress 207 = .ok (.lload_n 1, 1) := by decide +kernel
theorem dX3_compress_208 : decode cX3_compress 208 = .ok (.lload_n 3, 1) := by decide +kernel
theorem dX3_compress_209 : decode cX3_compress 209 = .ok (.land, 1) := by decide +kernel
theorem dX3_compress_210 : decode cX3_compress 210 = .ok (.lload_n 1, 1) := by decide +kernel
theorem dX3_compress_211 : decode cX3_compress 211 = .ok (.lload 5, 2) := by decide +kernel
theorem dX3_compress_213 : decode cX3_compress 213 = .ok (.land, 1) := by decide +kernel
theorem dX3_compress_214 : decode cX3_compress 214 = .ok (.lxor, 1) := by decide +kernel
theorem dX3_compress_215 : decode cX3_compress 215 = .ok (.lload_n 3, 1) := by decide +kernel
theorem dX3_compress_216 : decode cX3_compress 216 = .ok (.lload 5, 2) := by decide +kernel
theorem dX3_compress_218 : decode cX3_compress 218 = .ok (.land, 1) := by decide +kernel
theorem dX3_compress_219 : decode cX3_compress 219 = .ok (.lxor, 1) := by decide +kernel
theorem dX3_compress_220 : decode cX3_compress 220 = .ok (.ladd, 1) := by decide +kernel
theorem dX3_compress_221 : decode cX3_compress 221 = .ok (.lstore 24, 2) := by decide +kernel
theorem dX3_compress_223 : decode cX3_compress 223 = .ok (.lload 13, 2) := by decide +kernel
theorem dX3_compress_225 : decode cX3_compress 225 = .ok (.lstore 15, 2) := by decide +kernel
theorem dX3_compress_227 : decode cX3_compress 227 = .ok (.lload 11, 2) := by decide +kernel
theorem dX3_compress_229 : decode cX3_compress 229 = .ok (.lstore 13, 2) := by decide +kernel
theorem dX3_compress_231 : decode cX3_compress 231 = .ok (.lload 9, 2) := by decide +kernel
theorem dX3_compress_233 : decode cX3_compress 233 = .ok (.lstore 11, 2) := by decide +kernel
theorem dX3_compress_235 : decode cX3_compress 235 = .ok (.lload 7, 2) := by decide +kernel
theorem dX3_compress_237 : decode cX3_compress 237 = .ok (.lload 20, 2) := by decide +kernel
theorem dX3_compress_239 : decode cX3_compress 239 = .ok (.ladd, 1) := by decide +kernel
theorem dX3_compress_240 : decode cX3_compress 240 = .ok (.aload_n 0, 1) := by decide +kernel
theorem dX3_compress_241 : decode cX3_compress 241 = .ok (.getfield 41, 3) := by decide +kernel
theorem dX3_compress_244 : decode cX3_compress 244 = .ok (.land, 1) := by decide +kernel
theorem dX3_compress_245 : decode cX3_compress 245 = .ok (.lstore 9, 2) := by decide +kernel
theorem dX3_compress_247 : decode cX3_compress 247 = .ok (.lload 5, 2) := by decide +kernel
theorem dX3_compress_249 : decode cX3_compress 249 = .ok (.lstore 7, 2) := by decide +kernel
theorem dX3_compress_251 : decode cX3_compress 251 = .ok (.lload_n 3, 1) := by decide +kernel
theorem dX3_compress_252 : decode cX3_compress 252 = .ok (.lstore 5, 2) := by decide +kernel
theorem dX3_compress_254 : decode cX3_compress 254 = .ok (.lload_n 1, 1) := by decide +kernel
theorem dX3_compress_255 : decode cX3_compress 255 = .ok (.lstore_n 3, 1) := by decide +kernel
theorem dX3_compress_256 : decode cX3_compress 256 = .ok (.lload 20, 2) := by decide +kernel
theorem dX3_compress_258 : decode cX3_compress 258 = .ok (.lload 24, 2) := by decide +kernel
theorem dX3_compress_260 : decode cX3_compress 260 = .ok (.ladd, 1) := by decide +kernel
theorem dX3_compress_261 : decode cX3_compress 261 = .ok (.aload_n 0, 1) := by decide +kernel
theorem dX3_compress_262 : decode cX3_compress 262 = .ok (.getfield 41, 3) := by decide +kernel
theorem dX3_compress_265 : decode cX3_compress 265 = .ok (.land, 1) := by decide +kernel
theorem dX3_compress_266 : decode cX3_compress 266 = .ok (.lstore_n 1, 1) := by decide +kernel
theorem dX3_compress_267 : decode cX3_compress 267 = .ok (.iinc 17 1, 3) := by decide +kernel
theorem dX3_compress_270 : decode cX3_compress 270 = .ok (.goto (-203), 3) := by decide +kernel
theorem dX3_compress_273 : decode cX3_compress 273 = .ok (.aload_n 0, 1) := by decide +kernel
theorem dX3_compress_274 : decode cX3_compress 274 = .ok (.getfield 13, 3) := by decide +kernel
theorem dX3_compress_277 : decode cX3_compress 277 = .ok (.iconst 0, 1) := by decide +kernel
theorem dX3_compress_278 : decode cX3_compress 278 = .ok (.aload_n 0, 1) := by decide +kernel
theorem dX3_compress_279 : decode cX3_compress 279 = .ok (.getfield 13, 3) := by decide +kernel
theorem dX3_compress_282 : decode cX3_compress 282 = .ok (.iconst 0, 1) := by decide +kernel
theorem dX3_compress_283 : decode cX3_compress 283 = .ok (.laload, 1) := by decide +kernel
theorem dX3_compress_284 : decode cX3_compress 284 = .ok (.lload_n 1, 1) := by decide +kernel
