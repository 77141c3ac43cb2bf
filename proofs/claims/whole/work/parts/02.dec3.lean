theorem dX8_repeatsTooOften_42 : decode cX8_repeatsTooOften 42 = .ok (.iconst 0, 1) := by decide +kernel
theorem dX8_repeatsTooOften_43 : decode cX8_repeatsTooOften 43 = .ok (.ireturn, 1) := by decide +kernel
theorem dX8_comesTooOften_0 : decode cX8_comesTooOften 0 = .ok (.aload_n 0, 1) := by decide +kernel
theorem dX8_comesTooOften_1 : decode cX8_comesTooOften 1 = .ok (.getfield 45, 3) := by decide +kernel
theorem dX8_comesTooOften_4 : decode cX8_comesTooOften 4 = .ok (.iconst (-1), 1) := by decide +kernel
theorem dX8_comesTooOften_5 : decode cX8_comesTooOften 5 = .ok (.if_icmp .ne 20, 3) := by decide +kernel
theorem dX8_comesTooOften_8 : decode cX8_comesTooOften 8 = .ok (.aload_n 0, 1) := by decide +kernel
theorem dX8_comesTooOften_9 : decode cX8_comesTooOften 9 = .ok (.iload_n 1, 1) := by decide +kernel
theorem dX8_comesTooOften_10 : decode cX8_comesTooOften 10 = .ok (.putfield 45, 3) := by decide +kernel
theorem dX8_comesTooOften_13 : decode cX8_comesTooOften 13 = .ok (.aload_n 0, 1) := by decide +kernel
theorem dX8_comesTooOften_14 : decode cX8_comesTooOften 14 = .ok (.iconst 1, 1) := by decide +kernel
theorem dX8_comesTooOften_15 : decode cX8_comesTooOften 15 = .ok (.putfield 48, 3) := by decide +kernel
theorem dX8_comesTooOften_18 : decode cX8_comesTooOften 18 = .ok (.aload_n 0, 1) := by decide +kernel
theorem dX8_comesTooOften_19 : decode cX8_comesTooOften 19 = .ok (.iconst 1, 1) := by decide +kernel
theorem dX8_comesTooOften_20 : decode cX8_comesTooOften 20 = .ok (.putfield 51, 3) := by decide +kernel
theorem dX8_comesTooOften_23 : decode cX8_comesTooOften 23 = .ok (.iconst 0, 1) := by decide +kernel
theorem dX8_comesTooOften_24 : decode cX8_comesTooOften 24 = .ok (.ireturn, 1) := by decide +kernel
theorem dX8_comesTooOften_25 : decode cX8_comesTooOften 25 = .ok (.iconst 0, 1) := by decide +kernel
theorem dX8_comesTooOften_26 : decode cX8_comesTooOften 26 = .ok (.istore_n 2, 1) := by decide +kernel
theorem dX8_comesTooOften_27 : decode cX8_comesTooOften 27 = .ok (.iload_n 1, 1) := by decide +kernel
theorem dX8_comesTooOften_28 : decode cX8_comesTooOften 28 = .ok (.aload_n 0, 1) := by decide +kernel
theorem dX8_comesTooOften_29 : decode cX8_comesTooOften 29 = .ok (.getfield 45, 3) := by decide +kernel
theorem dX8_comesTooOften_32 : decode cX8_comesTooOften 32 = .ok (.if_icmp .ne 30, 3) := by decide +kernel
theorem dX8_comesTooOften_35 : decode cX8_comesTooOften 35 = .ok (.aload_n 0, 1) := by decide +kernel
theorem dX8_comesTooOften_36 : decode cX8_comesTooOften 36 = .ok (.dup, 1) := by decide +kernel
theorem dX8_comesTooOften_37 : decode cX8_comesTooOften 37 = .ok (.getfield 48, 3) := by decide +kernel
theorem dX8_comesTooOften_40 : decode cX8_comesTooOften 40 = .ok (.iconst 1, 1) := by decide +kernel
theorem dX8_comesTooOften_41 : decode cX8_comesTooOften 41 = .ok (.iadd, 1) := by decide +kernel
theorem dX8_comesTooOften_42 : decode cX8_comesTooOften 42 = .ok (.putfield 48, 3) := by decide +kernel
theorem dX8_comesTooOften_45 : decode cX8_comesTooOften 45 = .ok (.aload_n 0, 1) := by decide +kernel
theorem dX8_comesTooOften_46 : decode cX8_comesTooOften 46 = .ok (.getfield 48, 3) := by decide +kernel
theorem dX8_comesTooOften_49 : decode cX8_comesTooOften 49 = .ok (.aload_n 0, 1) := by decide +kernel
theorem dX8_comesTooOften_50 : decode cX8_comesTooOften 50 = .ok (.getfield 32, 3) := by decide +kernel
theorem dX8_comesTooOften_53 : decode cX8_comesTooOften 53 = .ok (.if_icmp .ne 7, 3) := by decide +kernel
theorem dX8_comesTooOften_56 : decode cX8_comesTooOften 56 = .ok (.iconst 1, 1) := by decide +kernel
theorem dX8_comesTooOften_57 : decode cX8_comesTooOften 57 = .ok (.goto 4, 3) := by decide +kernel
theorem dX8_comesTooOften_60 : decode cX8_comesTooOften 60 = .ok (.iconst 0, 1) := by decide +kernel
theorem dX8_comesTooOften_61 : decode cX8_comesTooOften 61 = .ok (.istore_n 2, 1) := by decide +kernel
theorem dX8_comesTooOften_62 : decode cX8_comesTooOften 62 = .ok (.aload_n 0, 1) := by decide +kernel
theorem dX8_comesTooOften_63 : decode cX8_comesTooOften 63 = .ok (.dup, 1) := by decide +kernel
theorem dX8_comesTooOften_64 : decode cX8_comesTooOften 64 = .ok (.getfield 51, 3) := by decide +kernel
theorem dX8_comesTooOften_67 : decode cX8_comesTooOften 67 = .ok (.iconst 1, 1) := by decide +kernel
theorem dX8_comesTooOften_68 : decode cX8_comesTooOften 68 = .ok (.iadd, 1) := by decide +kernel
theorem dX8_comesTooOften_69 : decode cX8_comesTooOften 69 = .ok (.putfield 51, 3) := by decide +kernel
theorem dX8_comesTooOften_72 : decode cX8_comesTooOften 72 = .ok (.aload_n 0, 1) := by decide +kernel
theorem dX8_comesTooOften_73 : decode cX8_comesTooOften 73 = .ok (.getfield 51, 3) := by decide +kernel
theorem dX8_comesTooOften_76 : decode cX8_comesTooOften 76 = .ok (.aload_n 0, 1) := by decide +kernel
theorem dX8_comesTooOften_77 : decode cX8_comesTooOften 77 = .ok (.getfield 29, 3) := by decide +kernel
theorem dX8_comesTooOften_80 : decode cX8_comesTooOften 80 = .ok (.if_icmp .ne 7, 3) := by decide +kernel
theorem dX8_comesTooOften_83 : decode cX8_comesTooOften 83 = .ok (.aload_n 0, 1) := by decide +kernel
theorem dX8_comesTooOften_84 : decode cX8_comesTooOften 84 = .ok (.invokevirtual 70, 3) := by decide +kernel
theorem dX8_comesTooOften_87 : decode cX8_comesTooOften 87 = .ok (.iload_n 2, 1) := by decide +kernel
theorem dX8_comesTooOften_88 : decode cX8_comesTooOften 88 = .ok (.ireturn, 1) := by decide +kernel
theorem dX8_forgetSample_0 : decode cX8_forgetSample 0 = .ok (.aload_n 0, 1) := by decide +kernel
theorem dX8_forgetSample_1 : decode cX8_forgetSample 1 = .ok (.iconst (-1), 1) := by decide +kernel
theorem dX8_forgetSample_2 : decode cX8_forgetSample 2 = .ok (.putfield 45, 3) := by decide +kernel
theorem dX8_forgetSample_5 : decode cX8_forgetSample 5 = .ok (.aload_n 0, 1) := by decide +kernel
theorem dX8_forgetSample_6 : decode cX8_forgetSample 6 = .ok (.iconst 0, 1) := by decide +kernel
theorem dX8_forgetSample_7 : decode cX8_forgetSample 7 = .ok (.putfield 48, 3) := by decide +kernel
theorem dX8_forgetSample_10 : decode cX8_forgetSample 10 = .ok (.aload_n 0, 1) := by decide +kernel
theorem dX8_forgetSample_11 : decode cX8_forgetSample 11 = .ok (.iconst 0, 1) := by decide +kernel
theorem dX8_forgetSample_12 : decode cX8_forgetSample 12 = .ok (.putfield 51, 3) := by decide +kernel
theorem dX8_forgetSample_15 : decode cX8_forgetSample 15 = .ok (.return_, 1) := by decide +kernel
theorem dX8_becomeUnsound_0 : decode cX8_becomeUnsound 0 = .ok (.aload_n 0, 1) := by decide +kernel
theorem dX8_becomeUnsound_1 : decode cX8_becomeUnsound 1 = .ok (.iconst 1, 1) := by decide +kernel
theorem dX8_becomeUnsound_2 : decode cX8_becomeUnsound 2 = .ok (.putfield 35, 3) := by decide +kernel
theorem dX8_becomeUnsound_5 : decode cX8_becomeUnsound 5 = .ok (.aload_n 0, 1) := by decide +kernel
theorem dX8_becomeUnsound_6 : decode cX8_becomeUnsound 6 = .ok (.dup, 1) := by decide +kernel
theorem dX8_becomeUnsound_7 : decode cX8_becomeUnsound 7 = .ok (.getfield 57, 3) := by decide +kernel
theorem dX8_becomeUnsound_10 : decode cX8_becomeUnsound 10 = .ok (.iconst 1, 1) := by decide +kernel
theorem dX8_becomeUnsound_11 : decode cX8_becomeUnsound 11 = .ok (.iadd, 1) := by decide +kernel
theorem dX8_becomeUnsound_12 : decode cX8_becomeUnsound 12 = .ok (.putfield 57, 3) := by decide +kernel
theorem dX8_becomeUnsound_15 : decode cX8_becomeUnsound 15 = .ok (.aload_n 0, 1) := by decide +kernel
theorem dX8_becomeUnsound_16 : decode cX8_becomeUnsound 16 = .ok (.getfield 16, 3) := by decide +kernel
theorem dX8_becomeUnsound_19 : decode cX8_becomeUnsound 19 = .ok (.invokevirtual 67, 3) := by decide +kernel
theorem dX8_becomeUnsound_22 : decode cX8_becomeUnsound 22 = .ok (.return_, 1) := by decide +kernel
theorem dX8_give_0 : decode cX8_give 0 = .ok (.aload_n 0, 1) := by decide +kernel
theorem dX8_give_1 : decode cX8_give 1 = .ok (.getfield 22, 3) := by decide +kernel
theorem dX8_give_4 : decode cX8_give 4 = .ok (.aload_n 0, 1) := by decide +kernel
theorem dX8_give_5 : decode cX8_give 5 = .ok (.getfield 16, 3) := by decide +kernel
theorem dX8_give_8 : decode cX8_give 8 = .ok (.iconst 0, 1) := by decide +kernel
theorem dX8_give_9 : decode cX8_give 9 = .ok (.iload_n 1, 1) := by decide +kernel
theorem dX8_give_10 : decode cX8_give 10 = .ok (.invokevirtual 90, 3) := by decide +kernel
theorem dX8_give_13 : decode cX8_give 13 = .ok (.aload_n 0, 1) := by decide +kernel
theorem dX8_give_14 : decode cX8_give 14 = .ok (.getfield 16, 3) := by decide +kernel
theorem dX8_give_17 : decode cX8_give 17 = .ok (.iload_n 1, 1) := by decide +kernel
theorem dX8_give_18 : decode cX8_give 18 = .ok (.invokevirtual 94, 3) := by decide +kernel
theorem dX8_give_21 : decode cX8_give 21 = .ok (.aload_n 0, 1) := by decide +kernel
theorem dX8_give_22 : decode cX8_give 22 = .ok (.dup, 1) := by decide +kernel
theorem dX8_give_23 : decode cX8_give 23 = .ok (.getfield 54, 3) := by decide +kernel
theorem dX8_give_26 : decode cX8_give 26 = .ok (.aload_n 0, 1) := by decide +kernel
theorem dX8_give_27 : decode cX8_give 27 = .ok (.getfield 22, 3) := by decide +kernel
theorem dX8_give_30 : decode cX8_give 30 = .ok (.invokevirtual 60, 3) := by decide +kernel
theorem dX8_give_33 : decode cX8_give 33 = .ok (.iadd, 1) := by decide +kernel
theorem dX8_give_34 : decode cX8_give 34 = .ok (.putfield 54, 3) := by decide +kernel
theorem dX8_give_37 : decode cX8_give 37 = .ok (.aload_n 0, 1) := by decide +kernel
theorem dX8_give_38 : decode cX8_give 38 = .ok (.getfield 22, 3) := by decide +kernel
theorem dX8_give_41 : decode cX8_give 41 = .ok (.areturn, 1) := by decide +kernel
theorem dX8_look_0 : decode cX8_look 0 = .ok (.iload_n 1, 1) := by decide +kernel
theorem dX8_look_1 : decode cX8_look 1 = .ok (.tableswitch 98 0 7 #[47, 55, 68, 73, 78, 83, 88, 93], 47) := by decide +kernel
theorem dX8_look_48 : decode cX8_look 48 = .ok (.aload_n 0, 1) := by decide +kernel
theorem dX8_look_49 : decode cX8_look 49 = .ok (.getfield 16, 3) := by decide +kernel
theorem dX8_look_52 : decode cX8_look 52 = .ok (.invokevirtual 60, 3) := by decide +kernel
theorem dX8_look_55 : decode cX8_look 55 = .ok (.ireturn, 1) := by decide +kernel
theorem dX8_look_56 : decode cX8_look 56 = .ok (.aload_n 0, 1) := by decide +kernel
theorem dX8_look_57 : decode cX8_look 57 = .ok (.getfield 35, 3) := by decide +kernel
theorem dX8_look_60 : decode cX8_look 60 = .ok (.ifCond .eq 7, 3) := by decide +kernel
theorem dX8_look_63 : decode cX8_look 63 = .ok (.iconst 1, 1) := by decide +kernel
theorem dX8_look_64 : decode cX8_look 64 = .ok (.goto 4, 3) := by decide +kernel
theorem dX8_look_67 : decode cX8_look 67 = .ok (.iconst 0, 1) := by decide +kernel
theorem dX8_look_68 : decode cX8_look 68 = .ok (.ireturn, 1) := by decide +kernel
theorem dX8_look_69 : decode cX8_look 69 = .ok (.aload_n 0, 1) := by decide +kernel
theorem dX8_look_70 : decode cX8_look 70 = .ok (.getfield 42, 3) := by decide +kernel
theorem dX8_look_73 : decode cX8_look 73 = .ok (.ireturn, 1) := by decide +kernel
theorem dX8_look_74 : decode cX8_look 74 = .ok (.aload_n 0, 1) := by decide +kernel
theorem dX8_look_75 : decode cX8_look 75 = .ok (.getfield 45, 3) := by decide +kernel
theorem dX8_look_78 : decode cX8_look 78 = .ok (.ireturn, 1) := by decide +kernel
theorem dX8_look_79 : decode cX8_look 79 = .ok (.aload_n 0, 1) := by decide +kernel
theorem dX8_look_80 : decode cX8_look 80 = .ok (.getfield 48, 3) := by decide +kernel
theorem dX8_look_83 : decode cX8_look 83 = .ok (.ireturn, 1) := by decide +kernel
theorem dX8_look_84 : decode cX8_look 84 = .ok (.aload_n 0, 1) := by decide +kernel
theorem dX8_look_85 : decode cX8_look 85 = .ok (.getfield 51, 3) := by decide +kernel
theorem dX8_look_88 : decode cX8_look 88 = .ok (.ireturn, 1) := by decide +kernel
theorem dX8_look_89 : decode cX8_look 89 = .ok (.aload_n 0, 1) := by decide +kernel
theorem dX8_look_90 : decode cX8_look 90 = .ok (.getfield 54, 3) := by decide +kernel
theorem dX8_look_93 : decode cX8_look 93 = .ok (.ireturn, 1) := by decide +kernel
theorem dX8_look_94 : decode cX8_look 94 = .ok (.aload_n 0, 1) := by decide +kernel
theorem dX8_look_95 : decode cX8_look 95 = .ok (.getfield 57, 3) := by decide +kernel
theorem dX8_look_98 : decode cX8_look 98 = .ok (.ireturn, 1) := by decide +kernel
theorem dX8_look_99 : decode cX8_look 99 = .ok (.iconst (-1), 1) := by decide +kernel
theorem dX8_look_100 : decode cX8_look 100 = .ok (.ireturn, 1) := by decide +kernel
theorem dX9_init_0 : decode cX9_init 0 = .ok (.aload_n 0, 1) := by decide +kernel
theorem dX9_init_1 : decode cX9_init 1 = .ok (.invokespecial 3, 3) := by decide +kernel
theorem dX9_init_4 : decode cX9_init 4 = .ok (.aload_n 0, 1) := by decide +kernel
theorem dX9_init_5 : decode cX9_init 5 = .ok (.new 9, 3) := by decide +kernel
theorem dX9_init_8 : decode cX9_init 8 = .ok (.dup, 1) := by decide +kernel
theorem dX9_init_9 : decode cX9_init 9 = .ok (.sipush 240, 3) := by decide +kernel
theorem dX9_init_12 : decode cX9_init 12 = .ok (.invokespecial 11, 3) := by decide +kernel
theorem dX9_init_15 : decode cX9_init 15 = .ok (.putfield 14, 3) := by decide +kernel
theorem dX9_init_18 : decode cX9_init 18 = .ok (.aload_n 0, 1) := by decide +kernel
theorem dX9_init_19 : decode cX9_init 19 = .ok (.new 9, 3) := by decide +kernel
theorem dX9_init_22 : decode cX9_init 22 = .ok (.dup, 1) := by decide +kernel
theorem dX9_init_23 : decode cX9_init 23 = .ok (.sipush 4096, 3) := by decide +kernel
theorem dX9_init_26 : decode cX9_init 26 = .ok (.invokespecial 11, 3) := by decide +kernel
theorem dX9_init_29 : decode cX9_init 29 = .ok (.putfield 18, 3) := by decide +kernel
theorem dX9_init_32 : decode cX9_init 32 = .ok (.aload_n 0, 1) := by decide +kernel
theorem dX9_init_33 : decode cX9_init 33 = .ok (.new 21, 3) := by decide +kernel
theorem dX9_init_36 : decode cX9_init 36 = .ok (.dup, 1) := by decide +kernel
theorem dX9_init_37 : decode cX9_init 37 = .ok (.invokespecial 23, 3) := by decide +kernel
theorem dX9_init_40 : decode cX9_init 40 = .ok (.putfield 24, 3) := by decide +kernel
theorem dX9_init_43 : decode cX9_init 43 = .ok (.aload_n 0, 1) := by decide +kernel
theorem dX9_init_44 : decode cX9_init 44 = .ok (.new 28, 3) := by decide +kernel
theorem dX9_init_47 : decode cX9_init 47 = .ok (.dup, 1) := by decide +kernel
theorem dX9_init_48 : decode cX9_init 48 = .ok (.invokespecial 30, 3) := by decide +kernel
theorem dX9_init_51 : decode cX9_init 51 = .ok (.putfield 31, 3) := by decide +kernel
theorem dX9_init_54 : decode cX9_init 54 = .ok (.aload_n 0, 1) := by decide +kernel
theorem dX9_init_55 : decode cX9_init 55 = .ok (.iconst 4, 1) := by decide +kernel
theorem dX9_init_56 : decode cX9_init 56 = .ok (.anewarray 35, 3) := by decide +kernel
theorem dX9_init_59 : decode cX9_init 59 = .ok (.putfield 37, 3) := by decide +kernel
theorem dX9_init_62 : decode cX9_init 62 = .ok (.return_, 1) := by decide +kernel
theorem dX9_feed_0 : decode cX9_feed 0 = .ok (.aload_n 0, 1) := by decide +kernel
theorem dX9_feed_1 : decode cX9_feed 1 = .ok (.getfield 14, 3) := by decide +kernel
theorem dX9_feed_4 : decode cX9_feed 4 = .ok (.invokevirtual 41, 3) := by decide +kernel
theorem dX9_feed_7 : decode cX9_feed 7 = .ok (.bipush 20, 2) := by decide +kernel
theorem dX9_feed_9 : decode cX9_feed 9 = .ok (.iadd, 1) := by decide +kernel
theorem dX9_feed_10 : decode cX9_feed 10 = .ok (.sipush 240, 3) := by decide +kernel
theorem dX9_feed_13 : decode cX9_feed 13 = .ok (.if_icmp .le 5, 3) := by decide +kernel
theorem dX9_feed_16 : decode cX9_feed 16 = .ok (.iconst (-1), 1) := by decide +kernel
theorem dX9_feed_17 : decode cX9_feed 17 = .ok (.ireturn, 1) := by decide +kernel
theorem dX9_feed_18 : decode cX9_feed 18 = .ok (.aload_n 0, 1) := by decide +kernel
theorem dX9_feed_19 : decode cX9_feed 19 = .ok (.getfield 14, 3) := by decide +kernel
theorem dX9_feed_22 : decode cX9_feed 22 = .ok (.iload_n 1, 1) := by decide +kernel
theorem dX9_feed_23 : decode cX9_feed 23 = .ok (.i2l, 1) := by decide +kernel
theorem dX9_feed_24 : decode cX9_feed 24 = .ok (.iconst 4, 1) := by decide +kernel
theorem dX9_feed_25 : decode cX9_feed 25 = .ok (.invokevirtual 45, 3) := by decide +kernel
theorem dX9_feed_28 : decode cX9_feed 28 = .ok (.aload_n 0, 1) := by decide +kernel
theorem dX9_feed_29 : decode cX9_feed 29 = .ok (.getfield 14, 3) := by decide +kernel
theorem dX9_feed_32 : decode cX9_feed 32 = .ok (.iload_n 2, 1) := by decide +kernel
theorem dX9_feed_33 : decode cX9_feed 33 = .ok (.i2l, 1) := by decide +kernel
theorem dX9_feed_34 : decode cX9_feed 34 = .ok (.iconst 4, 1) := by decide +kernel
theorem dX9_feed_35 : decode cX9_feed 35 = .ok (.invokevirtual 45, 3) := by decide +kernel
theorem dX9_feed_38 : decode cX9_feed 38 = .ok (.aload_n 0, 1) := by decide +kernel
theorem dX9_feed_39 : decode cX9_feed 39 = .ok (.getfield 14, 3) := by decide +kernel
theorem dX9_feed_42 : decode cX9_feed 42 = .ok (.iload_n 3, 1) := by decide +kernel
theorem dX9_feed_43 : decode cX9_feed 43 = .ok (.i2l, 1) := by decide +kernel
theorem dX9_feed_44 : decode cX9_feed 44 = .ok (.iconst 4, 1) := by decide +kernel
theorem dX9_feed_45 : decode cX9_feed 45 = .ok (.invokevirtual 45, 3) := by decide +kernel
theorem dX9_feed_48 : decode cX9_feed 48 = .ok (.aload_n 0, 1) := by decide +kernel
theorem dX9_feed_49 : decode cX9_feed 49 = .ok (.getfield 14, 3) := by decide +kernel
theorem dX9_feed_52 : decode cX9_feed 52 = .ok (.iload 4, 2) := by decide +kernel
theorem dX9_feed_54 : decode cX9_feed 54 = .ok (.i2l, 1) := by decide +kernel
theorem dX9_feed_55 : decode cX9_feed 55 = .ok (.iconst 4, 1) := by decide +kernel
theorem dX9_feed_56 : decode cX9_feed 56 = .ok (.invokevirtual 45, 3) := by decide +kernel
theorem dX9_feed_59 : decode cX9_feed 59 = .ok (.aload_n 0, 1) := by decide +kernel
theorem dX9_feed_60 : decode cX9_feed 60 = .ok (.getfield 14, 3) := by decide +kernel
theorem dX9_feed_63 : decode cX9_feed 63 = .ok (.iload 5, 2) := by decide +kernel
theorem dX9_feed_65 : decode cX9_feed 65 = .ok (.i2l, 1) := by decide +kernel
theorem dX9_feed_66 : decode cX9_feed 66 = .ok (.iconst 4, 1) := by decide +kernel
theorem dX9_feed_67 : decode cX9_feed 67 = .ok (.invokevirtual 45, 3) := by decide +kernel
theorem dX9_feed_70 : decode cX9_feed 70 = .ok (.aload_n 0, 1) := by decide +kernel
theorem dX9_feed_71 : decode cX9_feed 71 = .ok (.getfield 14, 3) := by decide +kernel
theorem dX9_feed_74 : decode cX9_feed 74 = .ok (.invokevirtual 41, 3) := by decide +kernel
theorem dX9_feed_77 : decode cX9_feed 77 = .ok (.ireturn, 1) := by decide +kernel
theorem dX9_end_0 : decode cX9_end 0 = .ok (.iload_n 1, 1) := by decide +kernel
theorem dX9_end_1 : decode cX9_end 1 = .ok (.ifCond .lt 14, 3) := by decide +kernel
theorem dX9_end_4 : decode cX9_end 4 = .ok (.iload_n 1, 1) := by decide +kernel
theorem dX9_end_5 : decode cX9_end 5 = .ok (.aload_n 0, 1) := by decide +kernel
theorem dX9_end_6 : decode cX9_end 6 = .ok (.getfield 14, 3) := by decide +kernel
theorem dX9_end_9 : decode cX9_end 9 = .ok (.invokevirtual 41, 3) := by decide +kernel
theorem dX9_end_12 : decode cX9_end 12 = .ok (.if_icmp .le 5, 3) := by decide +kernel
theorem dX9_end_15 : decode cX9_end 15 = .ok (.iconst (-1), 1) := by decide +kernel
theorem dX9_end_16 : decode cX9_end 16 = .ok (.ireturn, 1) := by decide +kernel
theorem dX9_end_17 : decode cX9_end 17 = .ok (.aload_n 0, 1) := by decide +kernel
theorem dX9_end_18 : decode cX9_end 18 = .ok (.getfield 14, 3) := by decide +kernel
theorem dX9_end_21 : decode cX9_end 21 = .ok (.iload_n 1, 1) := by decide +kernel
theorem dX9_end_22 : decode cX9_end 22 = .ok (.invokevirtual 49, 3) := by decide +kernel
theorem dX9_end_25 : decode cX9_end 25 = .ok (.iload_n 1, 1) := by decide +kernel
theorem dX9_end_26 : decode cX9_end 26 = .ok (.ireturn, 1) := by decide +kernel
theorem dX9_supply_0 : decode cX9_supply 0 = .ok (.aload_n 0, 1) := by decide +kernel
theorem dX9_supply_1 : decode cX9_supply 1 = .ok (.getfield 24, 3) := by decide +kernel
theorem dX9_supply_4 : decode cX9_supply 4 = .ok (.invokevirtual 52, 3) := by decide +kernel
theorem dX9_supply_7 : decode cX9_supply 7 = .ok (.ifCond .eq 5, 3) := by decide +kernel
theorem dX9_supply_10 : decode cX9_supply 10 = .ok (.iconst (-1), 1) := by decide +kernel
theorem dX9_supply_11 : decode cX9_supply 11 = .ok (.ireturn, 1) := by decide +kernel
theorem dX9_supply_12 : decode cX9_supply 12 = .ok (.aload_n 0, 1) := by decide +kernel
theorem dX9_supply_13 : decode cX9_supply 13 = .ok (.getfield 24, 3) := by decide +kernel
theorem dX9_supply_16 : decode cX9_supply 16 = .ok (.invokevirtual 56, 3) := by decide +kernel
theorem dX9_supply_19 : decode cX9_supply 19 = .ok (.aload_n 0, 1) := by decide +kernel
theorem dX9_supply_20 : decode cX9_supply 20 = .ok (.getfield 14, 3) := by decide +kernel
theorem dX9_supply_23 : decode cX9_supply 23 = .ok (.invokevirtual 41, 3) := by decide +kernel
theorem dX9_supply_26 : decode cX9_supply 26 = .ok (.iadd, 1) := by decide +kernel
theorem dX9_supply_27 : decode cX9_supply 27 = .ok (.sipush 1000, 3) := by decide +kernel
theorem dX9_supply_30 : decode cX9_supply 30 = .ok (.if_icmp .le 6, 3) := by decide +kernel
theorem dX9_supply_33 : decode cX9_supply 33 = .ok (.bipush (-2), 2) := by decide +kernel
theorem dX9_supply_35 : decode cX9_supply 35 = .ok (.ireturn, 1) := by decide +kernel
theorem dX9_supply_36 : decode cX9_supply 36 = .ok (.aload_n 0, 1) := by decide +kernel
theorem dX9_supply_37 : decode cX9_supply 37 = .ok (.getfield 24, 3) := by decide +kernel
theorem dX9_supply_40 : decode cX9_supply 40 = .ok (.aload_n 0, 1) := by decide +kernel
theorem dX9_supply_41 : decode cX9_supply 41 = .ok (.getfield 14, 3) := by decide +kernel
theorem dX9_supply_44 : decode cX9_supply 44 = .ok (.invokevirtual 59, 3) := by decide +kernel
theorem dX9_supply_47 : decode cX9_supply 47 = .ok (.aload_n 0, 1) := by decide +kernel
theorem dX9_supply_48 : decode cX9_supply 48 = .ok (.getfield 14, 3) := by decide +kernel
theorem dX9_supply_51 : decode cX9_supply 51 = .ok (.invokevirtual 63, 3) := by decide +kernel
theorem dX9_supply_54 : decode cX9_supply 54 = .ok (.aload_n 0, 1) := by decide +kernel
theorem dX9_supply_55 : decode cX9_supply 55 = .ok (.getfield 24, 3) := by decide +kernel
theorem dX9_supply_58 : decode cX9_supply 58 = .ok (.invokevirtual 52, 3) := by decide +kernel
theorem dX9_supply_61 : decode cX9_supply 61 = .ok (.ifCond .eq 7, 3) := by decide +kernel
theorem dX9_supply_64 : decode cX9_supply 64 = .ok (.iconst (-1), 1) := by decide +kernel
theorem dX9_supply_65 : decode cX9_supply 65 = .ok (.goto 10, 3) := by decide +kernel
theorem dX9_supply_68 : decode cX9_supply 68 = .ok (.aload_n 0, 1) := by decide +kernel
theorem dX9_supply_69 : decode cX9_supply 69 = .ok (.getfield 24, 3) := by decide +kernel
theorem dX9_supply_72 : decode cX9_supply 72 = .ok (.invokevirtual 56, 3) := by decide +kernel
theorem dX9_supply_75 : decode cX9_supply 75 = .ok (.ireturn, 1) := by decide +kernel
theorem dX9_tests_0 : decode cX9_tests 0 = .ok (.aload_n 0, 1) := by decide +kernel
theorem dX9_tests_1 : decode cX9_tests 1 = .ok (.getfield 24, 3) := by decide +kernel
theorem dX9_tests_4 : decode cX9_tests 4 = .ok (.iload_n 1, 1) := by decide +kernel
theorem dX9_tests_5 : decode cX9_tests 5 = .ok (.iload_n 2, 1) := by decide +kernel
theorem dX9_tests_6 : decode cX9_tests 6 = .ok (.iload_n 3, 1) := by decide +kernel
theorem dX9_tests_7 : decode cX9_tests 7 = .ok (.invokevirtual 66, 3) := by decide +kernel
theorem dX9_tests_10 : decode cX9_tests 10 = .ok (.ireturn, 1) := by decide +kernel
theorem dX9_source_0 : decode cX9_source 0 = .ok (.aload_n 0, 1) := by decide +kernel
theorem dX9_source_1 : decode cX9_source 1 = .ok (.getfield 24, 3) := by decide +kernel
theorem dX9_source_4 : decode cX9_source 4 = .ok (.iload_n 1, 1) := by decide +kernel
theorem dX9_source_5 : decode cX9_source 5 = .ok (.invokevirtual 70, 3) := by decide +kernel
theorem dX9_source_8 : decode cX9_source 8 = .ok (.ireturn, 1) := by decide +kernel
theorem dX9_open_0 : decode cX9_open 0 = .ok (.iload_n 1, 1) := by decide +kernel
theorem dX9_open_1 : decode cX9_open 1 = .ok (.ifCond .lt 22, 3) := by decide +kernel
theorem dX9_open_4 : decode cX9_open 4 = .ok (.iload_n 1, 1) := by decide +kernel
theorem dX9_open_5 : decode cX9_open 5 = .ok (.bipush 8, 2) := by decide +kernel
theorem dX9_open_7 : decode cX9_open 7 = .ok (.if_icmp .ge 16, 3) := by decide +kernel
theorem dX9_open_10 : decode cX9_open 10 = .ok (.iload 4, 2) := by decide +kernel
theorem dX9_open_12 : decode cX9_open 12 = .ok (.iconst 1, 1) := by decide +kernel
theorem dX9_open_13 : decode cX9_open 13 = .ok (.if_icmp .lt 10, 3) := by decide +kernel
theorem dX9_open_16 : decode cX9_open 16 = .ok (.iload 4, 2) := by decide +kernel
theorem dX9_open_18 : decode cX9_open 18 = .ok (.ldc 74, 2) := by decide +kernel
theorem dX9_open_20 : decode cX9_open 20 = .ok (.if_icmp .le 6, 3) := by decide +kernel
theorem dX9_open_23 : decode cX9_open 23 = .ok (.bipush (-7), 2) := by decide +kernel
theorem dX9_open_25 : decode cX9_open 25 = .ok (.ireturn, 1) := by decide +kernel
theorem dX9_open_26 : decode cX9_open 26 = .ok (.aload_n 0, 1) := by decide +kernel
theorem dX9_open_27 : decode cX9_open 27 = .ok (.invokevirtual 75, 3) := by decide +kernel
theorem dX9_open_30 : decode cX9_open 30 = .ok (.istore 5, 2) := by decide +kernel
theorem dX9_open_32 : decode cX9_open 32 = .ok (.iload 5, 2) := by decide +kernel
theorem dX9_open_34 : decode cX9_open 34 = .ok (.iconst (-1), 1) := by decide +kernel
theorem dX9_open_35 : decode cX9_open 35 = .ok (.if_icmp .ne 6, 3) := by decide +kernel
theorem dX9_open_38 : decode cX9_open 38 = .ok (.bipush (-8), 2) := by decide +kernel
theorem dX9_open_40 : decode cX9_open 40 = .ok (.ireturn, 1) := by decide +kernel
theorem dX9_open_41 : decode cX9_open 41 = .ok (.iload_n 2, 1) := by decide +kernel
theorem dX9_open_42 : decode cX9_open 42 = .ok (.iconst 1, 1) := by decide +kernel
theorem dX9_open_43 : decode cX9_open 43 = .ok (.if_icmp .lt 11, 3) := by decide +kernel
theorem dX9_open_46 : decode cX9_open 46 = .ok (.iload_n 2, 1) := by decide +kernel
theorem dX9_open_47 : decode cX9_open 47 = .ok (.iload_n 1, 1) := by decide +kernel
theorem dX9_open_48 : decode cX9_open 48 = .ok (.invokestatic 78, 3) := by decide +kernel
theorem dX9_open_51 : decode cX9_open 51 = .ok (.if_icmp .le 6, 3) := by decide +kernel
theorem dX9_open_54 : decode cX9_open 54 = .ok (.bipush (-3), 2) := by decide +kernel
theorem dX9_open_56 : decode cX9_open 56 = .ok (.ireturn, 1) := by decide +kernel
theorem dX9_open_57 : decode cX9_open 57 = .ok (.aload_n 0, 1) := by decide +kernel
theorem dX9_open_58 : decode cX9_open 58 = .ok (.iload_n 1, 1) := by decide +kernel
theorem dX9_open_59 : decode cX9_open 59 = .ok (.iload_n 2, 1) := by decide +kernel
theorem dX9_open_60 : decode cX9_open 60 = .ok (.invokestatic 81, 3) := by decide +kernel
theorem dX9_open_63 : decode cX9_open 63 = .ok (.iload_n 3, 1) := by decide +kernel
theorem dX9_open_64 : decode cX9_open 64 = .ok (.iload 4, 2) := by decide +kernel
theorem dX9_open_66 : decode cX9_open 66 = .ok (.invokevirtual 84, 3) := by decide +kernel
theorem dX9_open_69 : decode cX9_open 69 = .ok (.astore 6, 2) := by decide +kernel
theorem dX9_open_71 : decode cX9_open 71 = .ok (.aload_n 0, 1) := by decide +kernel
theorem dX9_open_72 : decode cX9_open 72 = .ok (.aload 6, 2) := by decide +kernel
theorem dX9_open_74 : decode cX9_open 74 = .ok (.iconst 0, 1) := by decide +kernel
theorem dX9_open_75 : decode cX9_open 75 = .ok (.invokevirtual 88, 3) := by decide +kernel
theorem dX9_open_78 : decode cX9_open 78 = .ok (.istore 7, 2) := by decide +kernel
theorem dX9_open_80 : decode cX9_open 80 = .ok (.iload 7, 2) := by decide +kernel
theorem dX9_open_82 : decode cX9_open 82 = .ok (.ifCond .eq 7, 3) := by decide +kernel
theorem dX9_open_85 : decode cX9_open 85 = .ok (.iload 7, 2) := by decide +kernel
theorem dX9_open_87 : decode cX9_open 87 = .ok (.ineg, 1) := by decide +kernel
theorem dX9_open_88 : decode cX9_open 88 = .ok (.ireturn, 1) := by decide +kernel
theorem dX9_open_89 : decode cX9_open 89 = .ok (.aload 6, 2) := by decide +kernel
theorem dX9_open_91 : decode cX9_open 91 = .ok (.aload_n 0, 1) := by decide +kernel
theorem dX9_open_92 : decode cX9_open 92 = .ok (.getfield 24, 3) := by decide +kernel
theorem dX9_open_95 : decode cX9_open 95 = .ok (.aload 6, 2) := by decide +kernel
theorem dX9_open_97 : decode cX9_open 97 = .ok (.invokevirtual 92, 3) := by decide +kernel
theorem dX9_open_100 : decode cX9_open 100 = .ok (.invokevirtual 95, 3) := by decide +kernel
theorem dX9_open_103 : decode cX9_open 103 = .ok (.aload_n 0, 1) := by decide +kernel
theorem dX9_open_104 : decode cX9_open 104 = .ok (.getfield 14, 3) := by decide +kernel
theorem dX9_open_107 : decode cX9_open 107 = .ok (.invokevirtual 99, 3) := by decide +kernel
theorem dX9_open_110 : decode cX9_open 110 = .ok (.aload_n 0, 1) := by decide +kernel
theorem dX9_open_111 : decode cX9_open 111 = .ok (.getfield 14, 3) := by decide +kernel
theorem dX9_open_114 : decode cX9_open 114 = .ok (.invokevirtual 63, 3) := by decide +kernel
theorem dX9_open_117 : decode cX9_open 117 = .ok (.aload_n 0, 1) := by decide +kernel
theorem dX9_open_118 : decode cX9_open 118 = .ok (.getfield 37, 3) := by decide +kernel
theorem dX9_open_121 : decode cX9_open 121 = .ok (.iload 5, 2) := by decide +kernel
theorem dX9_open_123 : decode cX9_open 123 = .ok (.aload 6, 2) := by decide +kernel
theorem dX9_open_125 : decode cX9_open 125 = .ok (.aastore, 1) := by decide +kernel
theorem dX9_open_126 : decode cX9_open 126 = .ok (.iload 5, 2) := by decide +kernel
theorem dX9_open_128 : decode cX9_open 128 = .ok (.ireturn, 1) := by decide +kernel
theorem dX9_close_0 : decode cX9_close 0 = .ok (.aload_n 0, 1) := by decide +kernel
theorem dX9_close_1 : decode cX9_close 1 = .ok (.iload_n 1, 1) := by decide +kernel
theorem dX9_close_2 : decode cX9_close 2 = .ok (.invokevirtual 103, 3) := by decide +kernel
theorem dX9_close_5 : decode cX9_close 5 = .ok (.astore_n 2, 1) := by decide +kernel
theorem dX9_close_6 : decode cX9_close 6 = .ok (.aload_n 2, 1) := by decide +kernel
theorem dX9_close_7 : decode cX9_close 7 = .ok (.ifnonnull 5, 3) := by decide +kernel
theorem dX9_close_10 : decode cX9_close 10 = .ok (.iconst 0, 1) := by decide +kernel
theorem dX9_close_11 : decode cX9_close 11 = .ok (.ireturn, 1) := by decide +kernel
theorem dX9_close_12 : decode cX9_close 12 = .ok (.aload_n 2, 1) := by decide +kernel
theorem dX9_close_13 : decode cX9_close 13 = .ok (.invokevirtual 107, 3) := by decide +kernel
theorem dX9_close_16 : decode cX9_close 16 = .ok (.aload_n 0, 1) := by decide +kernel
theorem dX9_close_17 : decode cX9_close 17 = .ok (.getfield 37, 3) := by decide +kernel
theorem dX9_close_20 : decode cX9_close 20 = .ok (.iload_n 1, 1) := by decide +kernel
theorem dX9_close_21 : decode cX9_close 21 = .ok (.aconst_null, 1) := by decide +kernel
theorem dX9_close_22 : decode cX9_close 22 = .ok (.aastore, 1) := by decide +kernel
theorem dX9_close_23 : decode cX9_close 23 = .ok (.iconst 1, 1) := by decide +kernel
theorem dX9_close_24 : decode cX9_close 24 = .ok (.ireturn, 1) := by decide +kernel
theorem dX9_reseed_0 : decode cX9_reseed 0 = .ok (.aload_n 0, 1) := by decide +kernel
theorem dX9_reseed_1 : decode cX9_reseed 1 = .ok (.iload_n 1, 1) := by decide +kernel
theorem dX9_reseed_2 : decode cX9_reseed 2 = .ok (.invokevirtual 103, 3) := by decide +kernel
theorem dX9_reseed_5 : decode cX9_reseed 5 = .ok (.astore_n 3, 1) := by decide +kernel
theorem dX9_reseed_6 : decode cX9_reseed 6 = .ok (.aload_n 3, 1) := by decide +kernel
theorem dX9_reseed_7 : decode cX9_reseed 7 = .ok (.ifnonnull 5, 3) := by decide +kernel
theorem dX9_reseed_10 : decode cX9_reseed 10 = .ok (.iconst 1, 1) := by decide +kernel
theorem dX9_reseed_11 : decode cX9_reseed 11 = .ok (.ireturn, 1) := by decide +kernel
theorem dX9_reseed_12 : decode cX9_reseed 12 = .ok (.aload_n 0, 1) := by decide +kernel
theorem dX9_reseed_13 : decode cX9_reseed 13 = .ok (.aload_n 3, 1) := by decide +kernel
theorem dX9_reseed_14 : decode cX9_reseed 14 = .ok (.iload_n 2, 1) := by decide +kernel
theorem dX9_reseed_15 : decode cX9_reseed 15 = .ok (.invokevirtual 88, 3) := by decide +kernel
theorem dX9_reseed_18 : decode cX9_reseed 18 = .ok (.istore 4, 2) := by decide +kernel
theorem dX9_reseed_20 : decode cX9_reseed 20 = .ok (.iload 4, 2) := by decide +kernel
theorem dX9_reseed_22 : decode cX9_reseed 22 = .ok (.ifCond .eq 6, 3) := by decide +kernel
theorem dX9_reseed_25 : decode cX9_reseed 25 = .ok (.iload 4, 2) := by decide +kernel
theorem dX9_reseed_27 : decode cX9_reseed 27 = .ok (.ireturn, 1) := by decide +kernel
theorem dX9_reseed_28 : decode cX9_reseed 28 = .ok (.aload_n 3, 1) := by decide +kernel
theorem dX9_reseed_29 : decode cX9_reseed 29 = .ok (.aload_n 0, 1) := by decide +kernel
theorem dX9_reseed_30 : decode cX9_reseed 30 = .ok (.getfield 24, 3) := by decide +kernel
theorem dX9_reseed_33 : decode cX9_reseed 33 = .ok (.aload_n 3, 1) := by decide +kernel
theorem dX9_reseed_34 : decode cX9_reseed 34 = .ok (.invokevirtual 92, 3) := by decide +kernel
theorem dX9_reseed_37 : decode cX9_reseed 37 = .ok (.invokevirtual 95, 3) := by decide +kernel
theorem dX9_reseed_40 : decode cX9_reseed 40 = .ok (.aload_n 0, 1) := by decide +kernel
theorem dX9_reseed_41 : decode cX9_reseed 41 = .ok (.getfield 14, 3) := by decide +kernel
theorem dX9_reseed_44 : decode cX9_reseed 44 = .ok (.invokevirtual 99, 3) := by decide +kernel
theorem dX9_reseed_47 : decode cX9_reseed 47 = .ok (.aload_n 0, 1) := by decide +kernel
theorem dX9_reseed_48 : decode cX9_reseed 48 = .ok (.getfield 14, 3) := by decide +kernel
theorem dX9_reseed_51 : decode cX9_reseed 51 = .ok (.invokevirtual 63, 3) := by decide +kernel
theorem dX9_reseed_54 : decode cX9_reseed 54 = .ok (.iconst 0, 1) := by decide +kernel
theorem dX9_reseed_55 : decode cX9_reseed 55 = .ok (.ireturn, 1) := by decide +kernel
theorem dX9_draw_0 : decode cX9_draw 0 = .ok (.aload_n 0, 1) := by decide +kernel
theorem dX9_draw_1 : decode cX9_draw 1 = .ok (.iload_n 1, 1) := by decide +kernel
theorem dX9_draw_2 : decode cX9_draw 2 = .ok (.invokevirtual 103, 3) := by decide +kernel
theorem dX9_draw_5 : decode cX9_draw 5 = .ok (.astore 5, 2) := by decide +kernel
theorem dX9_draw_7 : decode cX9_draw 7 = .ok (.aload 5, 2) := by decide +kernel
theorem dX9_draw_9 : decode cX9_draw 9 = .ok (.ifnonnull 5, 3) := by decide +kernel
theorem dX9_draw_12 : decode cX9_draw 12 = .ok (.iconst 1, 1) := by decide +kernel
theorem dX9_draw_13 : decode cX9_draw 13 = .ok (.ireturn, 1) := by decide +kernel
theorem dX9_draw_14 : decode cX9_draw 14 = .ok (.iload_n 2, 1) := by decide +kernel
theorem dX9_draw_15 : decode cX9_draw 15 = .ok (.ifCond .lt 10, 3) := by decide +kernel
theorem dX9_draw_18 : decode cX9_draw 18 = .ok (.iload_n 2, 1) := by decide +kernel
theorem dX9_draw_19 : decode cX9_draw 19 = .ok (.sipush 4096, 3) := by decide +kernel
theorem dX9_draw_22 : decode cX9_draw 22 = .ok (.if_icmp .le 5, 3) := by decide +kernel
theorem dX9_draw_25 : decode cX9_draw 25 = .ok (.iconst 2, 1) := by decide +kernel
theorem dX9_draw_26 : decode cX9_draw 26 = .ok (.ireturn, 1) := by decide +kernel
theorem dX9_draw_27 : decode cX9_draw 27 = .ok (.iload_n 3, 1) := by decide +kernel
theorem dX9_draw_28 : decode cX9_draw 28 = .ok (.aload 5, 2) := by decide +kernel
theorem dX9_draw_30 : decode cX9_draw 30 = .ok (.getfield 110, 3) := by decide +kernel
theorem dX9_draw_33 : decode cX9_draw 33 = .ok (.if_icmp .le 5, 3) := by decide +kernel
theorem dX9_draw_36 : decode cX9_draw 36 = .ok (.iconst 3, 1) := by decide +kernel
theorem dX9_draw_37 : decode cX9_draw 37 = .ok (.ireturn, 1) := by decide +kernel
theorem dX9_draw_38 : decode cX9_draw 38 = .ok (.iload 4, 2) := by decide +kernel
theorem dX9_draw_40 : decode cX9_draw 40 = .ok (.ifCond .ne 11, 3) := by decide +kernel
theorem dX9_draw_43 : decode cX9_draw 43 = .ok (.aload 5, 2) := by decide +kernel
theorem dX9_draw_45 : decode cX9_draw 45 = .ok (.invokevirtual 114, 3) := by decide +kernel
theorem dX9_draw_48 : decode cX9_draw 48 = .ok (.ifCond .eq 52, 3) := by decide +kernel
theorem dX9_draw_51 : decode cX9_draw 51 = .ok (.aload_n 0, 1) := by decide +kernel
theorem dX9_draw_52 : decode cX9_draw 52 = .ok (.aload 5, 2) := by decide +kernel
theorem dX9_draw_54 : decode cX9_draw 54 = .ok (.iload 4, 2) := by decide +kernel
theorem dX9_draw_56 : decode cX9_draw 56 = .ok (.invokevirtual 88, 3) := by decide +kernel
theorem dX9_draw_59 : decode cX9_draw 59 = .ok (.istore 6, 2) := by decide +kernel
theorem dX9_draw_61 : decode cX9_draw 61 = .ok (.iload 6, 2) := by decide +kernel
theorem dX9_draw_63 : decode cX9_draw 63 = .ok (.ifCond .eq 6, 3) := by decide +kernel
theorem dX9_draw_66 : decode cX9_draw 66 = .ok (.iload 6, 2) := by decide +kernel
theorem dX9_draw_68 : decode cX9_draw 68 = .ok (.ireturn, 1) := by decide +kernel
theorem dX9_draw_69 : decode cX9_draw 69 = .ok (.aload 5, 2) := by decide +kernel
theorem dX9_draw_71 : decode cX9_draw 71 = .ok (.aload_n 0, 1) := by decide +kernel
theorem dX9_draw_72 : decode cX9_draw 72 = .ok (.getfield 24, 3) := by decide +kernel
theorem dX9_draw_75 : decode cX9_draw 75 = .ok (.aload 5, 2) := by decide +kernel
theorem dX9_draw_77 : decode cX9_draw 77 = .ok (.invokevirtual 92, 3) := by decide +kernel
theorem dX9_draw_80 : decode cX9_draw 80 = .ok (.invokevirtual 95, 3) := by decide +kernel
theorem dX9_draw_83 : decode cX9_draw 83 = .ok (.aload_n 0, 1) := by decide +kernel
theorem dX9_draw_84 : decode cX9_draw 84 = .ok (.getfield 14, 3) := by decide +kernel
theorem dX9_draw_87 : decode cX9_draw 87 = .ok (.invokevirtual 99, 3) := by decide +kernel
theorem dX9_draw_90 : decode cX9_draw 90 = .ok (.aload_n 0, 1) := by decide +kernel
theorem dX9_draw_91 : decode cX9_draw 91 = .ok (.getfield 14, 3) := by decide +kernel
theorem dX9_draw_94 : decode cX9_draw 94 = .ok (.invokevirtual 63, 3) := by decide +kernel
theorem dX9_draw_97 : decode cX9_draw 97 = .ok (.goto 17, 3) := by decide +kernel
theorem dX9_draw_100 : decode cX9_draw 100 = .ok (.aload 5, 2) := by decide +kernel
theorem dX9_draw_102 : decode cX9_draw 102 = .ok (.aload_n 0, 1) := by decide +kernel
theorem dX9_draw_103 : decode cX9_draw 103 = .ok (.getfield 14, 3) := by decide +kernel
theorem dX9_draw_106 : decode cX9_draw 106 = .ok (.invokevirtual 117, 3) := by decide +kernel
theorem dX9_draw_109 : decode cX9_draw 109 = .ok (.ifCond .eq 5, 3) := by decide +kernel
theorem dX9_draw_112 : decode cX9_draw 112 = .ok (.iconst 4, 1) := by decide +kernel
theorem dX9_draw_113 : decode cX9_draw 113 = .ok (.ireturn, 1) := by decide +kernel
theorem dX9_draw_114 : decode cX9_draw 114 = .ok (.aload_n 0, 1) := by decide +kernel
theorem dX9_draw_115 : decode cX9_draw 115 = .ok (.getfield 18, 3) := by decide +kernel
theorem dX9_draw_118 : decode cX9_draw 118 = .ok (.invokevirtual 63, 3) := by decide +kernel
theorem dX9_draw_121 : decode cX9_draw 121 = .ok (.aload 5, 2) := by decide +kernel
theorem dX9_draw_123 : decode cX9_draw 123 = .ok (.iload_n 2, 1) := by decide +kernel
theorem dX9_draw_124 : decode cX9_draw 124 = .ok (.aload_n 0, 1) := by decide +kernel
theorem dX9_draw_125 : decode cX9_draw 125 = .ok (.getfield 14, 3) := by decide +kernel
theorem dX9_draw_128 : decode cX9_draw 128 = .ok (.aload_n 0, 1) := by decide +kernel
theorem dX9_draw_129 : decode cX9_draw 129 = .ok (.getfield 18, 3) := by decide +kernel
theorem dX9_draw_132 : decode cX9_draw 132 = .ok (.invokevirtual 121, 3) := by decide +kernel
theorem dX9_draw_135 : decode cX9_draw 135 = .ok (.aload_n 0, 1) := by decide +kernel
theorem dX9_draw_136 : decode cX9_draw 136 = .ok (.getfield 14, 3) := by decide +kernel
theorem dX9_draw_139 : decode cX9_draw 139 = .ok (.invokevirtual 63, 3) := by decide +kernel
theorem dX9_draw_142 : decode cX9_draw 142 = .ok (.iconst 0, 1) := by decide +kernel
theorem dX9_draw_143 : decode cX9_draw 143 = .ok (.ireturn, 1) := by decide +kernel
theorem dX9_drawn_0 : decode cX9_drawn 0 = .ok (.aload_n 0, 1) := by decide +kernel
theorem dX9_drawn_1 : decode cX9_drawn 1 = .ok (.getfield 18, 3) := by decide +kernel
theorem dX9_drawn_4 : decode cX9_drawn 4 = .ok (.iload_n 1, 1) := by decide +kernel
theorem dX9_drawn_5 : decode cX9_drawn 5 = .ok (.invokevirtual 125, 3) := by decide +kernel
theorem dX9_drawn_8 : decode cX9_drawn 8 = .ok (.ireturn, 1) := by decide +kernel
theorem dX9_generator_0 : decode cX9_generator 0 = .ok (.aload_n 0, 1) := by decide +kernel
theorem dX9_generator_1 : decode cX9_generator 1 = .ok (.iload_n 1, 1) := by decide +kernel
theorem dX9_generator_2 : decode cX9_generator 2 = .ok (.invokevirtual 103, 3) := by decide +kernel
theorem dX9_generator_5 : decode cX9_generator 5 = .ok (.astore_n 3, 1) := by decide +kernel
theorem dX9_generator_6 : decode cX9_generator 6 = .ok (.aload_n 3, 1) := by decide +kernel
theorem dX9_generator_7 : decode cX9_generator 7 = .ok (.ifnonnull 7, 3) := by decide +kernel
theorem dX9_generator_10 : decode cX9_generator 10 = .ok (.iconst (-1), 1) := by decide +kernel
theorem dX9_generator_11 : decode cX9_generator 11 = .ok (.goto 8, 3) := by decide +kernel
theorem dX9_generator_14 : decode cX9_generator 14 = .ok (.aload_n 3, 1) := by decide +kernel
theorem dX9_generator_15 : decode cX9_generator 15 = .ok (.iload_n 2, 1) := by decide +kernel
theorem dX9_generator_16 : decode cX9_generator 16 = .ok (.invokevirtual 128, 3) := by decide +kernel
theorem dX9_generator_19 : decode cX9_generator 19 = .ok (.ireturn, 1) := by decide +kernel
theorem dX9_state_0 : decode cX9_state 0 = .ok (.aload_n 0, 1) := by decide +kernel
theorem dX9_state_1 : decode cX9_state 1 = .ok (.iload_n 1, 1) := by decide +kernel
theorem dX9_state_2 : decode cX9_state 2 = .ok (.invokevirtual 103, 3) := by decide +kernel
theorem dX9_state_5 : decode cX9_state 5 = .ok (.astore 4, 2) := by decide +kernel
theorem dX9_state_7 : decode cX9_state 7 = .ok (.aload 4, 2) := by decide +kernel
theorem dX9_state_9 : decode cX9_state 9 = .ok (.ifnull 12, 3) := by decide +kernel
theorem dX9_state_12 : decode cX9_state 12 = .ok (.iload_n 2, 1) := by decide +kernel
theorem dX9_state_13 : decode cX9_state 13 = .ok (.ifCond .lt 8, 3) := by decide +kernel
theorem dX9_state_16 : decode cX9_state 16 = .ok (.iload_n 2, 1) := by decide +kernel
theorem dX9_state_17 : decode cX9_state 17 = .ok (.iconst 1, 1) := by decide +kernel
theorem dX9_state_18 : decode cX9_state 18 = .ok (.if_icmp .le 5, 3) := by decide +kernel
theorem dX9_state_21 : decode cX9_state 21 = .ok (.iconst (-1), 1) := by decide +kernel
theorem dX9_state_22 : decode cX9_state 22 = .ok (.ireturn, 1) := by decide +kernel
theorem dX9_state_23 : decode cX9_state 23 = .ok (.iload_n 2, 1) := by decide +kernel
theorem dX9_state_24 : decode cX9_state 24 = .ok (.ifCond .ne 15, 3) := by decide +kernel
theorem dX9_state_27 : decode cX9_state 27 = .ok (.aload 4, 2) := by decide +kernel
theorem dX9_state_29 : decode cX9_state 29 = .ok (.getfield 129, 3) := by decide +kernel
theorem dX9_state_32 : decode cX9_state 32 = .ok (.iload_n 3, 1) := by decide +kernel
theorem dX9_state_33 : decode cX9_state 33 = .ok (.invokevirtual 125, 3) := by decide +kernel
theorem dX9_state_36 : decode cX9_state 36 = .ok (.goto 12, 3) := by decide +kernel
theorem dX9_state_39 : decode cX9_state 39 = .ok (.aload 4, 2) := by decide +kernel
theorem dX9_state_41 : decode cX9_state 41 = .ok (.getfield 132, 3) := by decide +kernel
theorem dX9_state_44 : decode cX9_state 44 = .ok (.iload_n 3, 1) := by decide +kernel
theorem dX9_state_45 : decode cX9_state 45 = .ok (.invokevirtual 125, 3) := by decide +kernel
theorem dX9_state_48 : decode cX9_state 48 = .ok (.ireturn, 1) := by decide +kernel
theorem dX9_digest_0 : decode cX9_digest 0 = .ok (.aload_n 0, 1) := by decide +kernel
theorem dX9_digest_1 : decode cX9_digest 1 = .ok (.getfield 31, 3) := by decide +kernel
theorem dX9_digest_4 : decode cX9_digest 4 = .ok (.iload_n 1, 1) := by decide +kernel
theorem dX9_digest_5 : decode cX9_digest 5 = .ok (.invokevirtual 135, 3) := by decide +kernel
theorem dX9_digest_8 : decode cX9_digest 8 = .ok (.aload_n 0, 1) := by decide +kernel
theorem dX9_digest_9 : decode cX9_digest 9 = .ok (.getfield 14, 3) := by decide +kernel
theorem dX9_digest_12 : decode cX9_digest 12 = .ok (.aload_n 0, 1) := by decide +kernel
theorem dX9_digest_13 : decode cX9_digest 13 = .ok (.getfield 18, 3) := by decide +kernel
theorem dX9_digest_16 : decode cX9_digest 16 = .ok (.invokevirtual 139, 3) := by decide +kernel
theorem dX9_digest_19 : decode cX9_digest 19 = .ok (.aload_n 0, 1) := by decide +kernel
theorem dX9_digest_20 : decode cX9_digest 20 = .ok (.getfield 18, 3) := by decide +kernel
theorem dX9_digest_23 : decode cX9_digest 23 = .ok (.invokevirtual 41, 3) := by decide +kernel
theorem dX9_digest_26 : decode cX9_digest 26 = .ok (.ireturn, 1) := by decide +kernel
theorem dX9_cipher_0 : decode cX9_cipher 0 = .ok (.iload_n 1, 1) := by decide +kernel
theorem dX9_cipher_1 : decode cX9_cipher 1 = .ok (.invokestatic 144, 3) := by decide +kernel
theorem dX9_cipher_4 : decode cX9_cipher 4 = .ok (.istore_n 2, 1) := by decide +kernel
theorem dX9_cipher_5 : decode cX9_cipher 5 = .ok (.aload_n 0, 1) := by decide +kernel
theorem dX9_cipher_6 : decode cX9_cipher 6 = .ok (.getfield 14, 3) := by decide +kernel
theorem dX9_cipher_9 : decode cX9_cipher 9 = .ok (.invokevirtual 41, 3) := by decide +kernel
theorem dX9_cipher_12 : decode cX9_cipher 12 = .ok (.iload_n 2, 1) := by decide +kernel
theorem dX9_cipher_13 : decode cX9_cipher 13 = .ok (.bipush 16, 2) := by decide +kernel
theorem dX9_cipher_15 : decode cX9_cipher 15 = .ok (.iadd, 1) := by decide +kernel
theorem dX9_cipher_16 : decode cX9_cipher 16 = .ok (.if_icmp .eq 5, 3) := by decide +kernel
theorem dX9_cipher_19 : decode cX9_cipher 19 = .ok (.iconst 0, 1) := by decide +kernel
theorem dX9_cipher_20 : decode cX9_cipher 20 = .ok (.ireturn, 1) := by decide +kernel
theorem dX9_cipher_21 : decode cX9_cipher 21 = .ok (.aload_n 0, 1) := by decide +kernel
theorem dX9_cipher_22 : decode cX9_cipher 22 = .ok (.getfield 31, 3) := by decide +kernel
theorem dX9_cipher_25 : decode cX9_cipher 25 = .ok (.aload_n 0, 1) := by decide +kernel
theorem dX9_cipher_26 : decode cX9_cipher 26 = .ok (.getfield 14, 3) := by decide +kernel
theorem dX9_cipher_29 : decode cX9_cipher 29 = .ok (.iload_n 2, 1) := by decide +kernel
theorem dX9_cipher_30 : decode cX9_cipher 30 = .ok (.invokevirtual 150, 3) := by decide +kernel
theorem dX9_cipher_33 : decode cX9_cipher 33 = .ok (.aload_n 0, 1) := by decide +kernel
theorem dX9_cipher_34 : decode cX9_cipher 34 = .ok (.getfield 31, 3) := by decide +kernel
theorem dX9_cipher_37 : decode cX9_cipher 37 = .ok (.getfield 154, 3) := by decide +kernel
theorem dX9_cipher_40 : decode cX9_cipher 40 = .ok (.aload_n 0, 1) := by decide +kernel
theorem dX9_cipher_41 : decode cX9_cipher 41 = .ok (.getfield 31, 3) := by decide +kernel
theorem dX9_cipher_44 : decode cX9_cipher 44 = .ok (.getfield 158, 3) := by decide +kernel
theorem dX9_cipher_47 : decode cX9_cipher 47 = .ok (.invokevirtual 161, 3) := by decide +kernel
theorem dX9_cipher_50 : decode cX9_cipher 50 = .ok (.aload_n 0, 1) := by decide +kernel
theorem dX9_cipher_51 : decode cX9_cipher 51 = .ok (.getfield 31, 3) := by decide +kernel
theorem dX9_cipher_54 : decode cX9_cipher 54 = .ok (.getfield 154, 3) := by decide +kernel
theorem dX9_cipher_57 : decode cX9_cipher 57 = .ok (.aload_n 0, 1) := by decide +kernel
theorem dX9_cipher_58 : decode cX9_cipher 58 = .ok (.getfield 31, 3) := by decide +kernel
theorem dX9_cipher_61 : decode cX9_cipher 61 = .ok (.getfield 164, 3) := by decide +kernel
theorem dX9_cipher_64 : decode cX9_cipher 64 = .ok (.aload_n 0, 1) := by decide +kernel
theorem dX9_cipher_65 : decode cX9_cipher 65 = .ok (.getfield 18, 3) := by decide +kernel
theorem dX9_cipher_68 : decode cX9_cipher 68 = .ok (.invokevirtual 167, 3) := by decide +kernel
theorem dX9_cipher_71 : decode cX9_cipher 71 = .ok (.iconst 1, 1) := by decide +kernel
theorem dX9_cipher_72 : decode cX9_cipher 72 = .ok (.ireturn, 1) := by decide +kernel
theorem dX9_mac_0 : decode cX9_mac 0 = .ok (.aload_n 0, 1) := by decide +kernel
theorem dX9_mac_1 : decode cX9_mac 1 = .ok (.getfield 31, 3) := by decide +kernel
theorem dX9_mac_4 : decode cX9_mac 4 = .ok (.iload_n 1, 1) := by decide +kernel
theorem dX9_mac_5 : decode cX9_mac 5 = .ok (.invokevirtual 135, 3) := by decide +kernel
theorem dX9_mac_8 : decode cX9_mac 8 = .ok (.astore_n 2, 1) := by decide +kernel
theorem dX9_mac_9 : decode cX9_mac 9 = .ok (.aload_n 0, 1) := by decide +kernel
theorem dX9_mac_10 : decode cX9_mac 10 = .ok (.getfield 14, 3) := by decide +kernel
theorem dX9_mac_13 : decode cX9_mac 13 = .ok (.invokevirtual 41, 3) := by decide +kernel
theorem dX9_mac_16 : decode cX9_mac 16 = .ok (.aload_n 2, 1) := by decide +kernel
theorem dX9_mac_17 : decode cX9_mac 17 = .ok (.getfield 170, 3) := by decide +kernel
theorem dX9_mac_20 : decode cX9_mac 20 = .ok (.if_icmp .ge 5, 3) := by decide +kernel
theorem dX9_mac_23 : decode cX9_mac 23 = .ok (.iconst 0, 1) := by decide +kernel
theorem dX9_mac_24 : decode cX9_mac 24 = .ok (.ireturn, 1) := by decide +kernel
theorem dX9_mac_25 : decode cX9_mac 25 = .ok (.aload_n 0, 1) := by decide +kernel
theorem dX9_mac_26 : decode cX9_mac 26 = .ok (.getfield 31, 3) := by decide +kernel
theorem dX9_mac_29 : decode cX9_mac 29 = .ok (.aload_n 0, 1) := by decide +kernel
theorem dX9_mac_30 : decode cX9_mac 30 = .ok (.getfield 14, 3) := by decide +kernel
theorem dX9_mac_33 : decode cX9_mac 33 = .ok (.aload_n 2, 1) := by decide +kernel
theorem dX9_mac_34 : decode cX9_mac 34 = .ok (.getfield 170, 3) := by decide +kernel
theorem dX9_mac_37 : decode cX9_mac 37 = .ok (.invokevirtual 150, 3) := by decide +kernel
theorem dX9_mac_40 : decode cX9_mac 40 = .ok (.aload_n 2, 1) := by decide +kernel
theorem dX9_mac_41 : decode cX9_mac 41 = .ok (.aload_n 0, 1) := by decide +kernel
theorem dX9_mac_42 : decode cX9_mac 42 = .ok (.getfield 31, 3) := by decide +kernel
theorem dX9_mac_45 : decode cX9_mac 45 = .ok (.getfield 158, 3) := by decide +kernel
theorem dX9_mac_48 : decode cX9_mac 48 = .ok (.aload_n 0, 1) := by decide +kernel
theorem dX9_mac_49 : decode cX9_mac 49 = .ok (.getfield 31, 3) := by decide +kernel
theorem dX9_mac_52 : decode cX9_mac 52 = .ok (.getfield 164, 3) := by decide +kernel
theorem dX9_mac_55 : decode cX9_mac 55 = .ok (.aload_n 0, 1) := by decide +kernel
theorem dX9_mac_56 : decode cX9_mac 56 = .ok (.getfield 18, 3) := by decide +kernel
theorem dX9_mac_59 : decode cX9_mac 59 = .ok (.invokevirtual 172, 3) := by decide +kernel
theorem dX9_mac_62 : decode cX9_mac 62 = .ok (.iconst 1, 1) := by decide +kernel
theorem dX9_mac_63 : decode cX9_mac 63 = .ok (.ireturn, 1) := by decide +kernel
theorem dX9_derive_0 : decode cX9_derive 0 = .ok (.iload_n 1, 1) := by decide +kernel
theorem dX9_derive_1 : decode cX9_derive 1 = .ok (.ifCond .lt 20, 3) := by decide +kernel
theorem dX9_derive_4 : decode cX9_derive 4 = .ok (.iload_n 1, 1) := by decide +kernel
theorem dX9_derive_5 : decode cX9_derive 5 = .ok (.iconst 3, 1) := by decide +kernel
theorem dX9_derive_6 : decode cX9_derive 6 = .ok (.if_icmp .gt 15, 3) := by decide +kernel
theorem dX9_derive_9 : decode cX9_derive 9 = .ok (.iload_n 2, 1) := by decide +kernel
theorem dX9_derive_10 : decode cX9_derive 10 = .ok (.iconst 1, 1) := by decide +kernel
theorem dX9_derive_11 : decode cX9_derive 11 = .ok (.if_icmp .lt 10, 3) := by decide +kernel
theorem dX9_derive_14 : decode cX9_derive 14 = .ok (.iload_n 2, 1) := by decide +kernel
theorem dX9_derive_15 : decode cX9_derive 15 = .ok (.sipush 200, 3) := by decide +kernel
theorem dX9_derive_18 : decode cX9_derive 18 = .ok (.if_icmp .le 5, 3) := by decide +kernel
theorem dX9_derive_21 : decode cX9_derive 21 = .ok (.iconst 0, 1) := by decide +kernel
theorem dX9_derive_22 : decode cX9_derive 22 = .ok (.ireturn, 1) := by decide +kernel
theorem dX9_derive_23 : decode cX9_derive 23 = .ok (.iload_n 1, 1) := by decide +kernel
theorem dX9_derive_24 : decode cX9_derive 24 = .ok (.iconst 1, 1) := by decide +kernel
theorem dX9_derive_25 : decode cX9_derive 25 = .ok (.iand, 1) := by decide +kernel
theorem dX9_derive_26 : decode cX9_derive 26 = .ok (.iconst 1, 1) := by decide +kernel
theorem dX9_derive_27 : decode cX9_derive 27 = .ok (.if_icmp .ne 7, 3) := by decide +kernel
theorem dX9_derive_30 : decode cX9_derive 30 = .ok (.iconst 1, 1) := by decide +kernel
theorem dX9_derive_31 : decode cX9_derive 31 = .ok (.goto 4, 3) := by decide +kernel
theorem dX9_derive_34 : decode cX9_derive 34 = .ok (.iconst 0, 1) := by decide +kernel
theorem dX9_derive_35 : decode cX9_derive 35 = .ok (.istore_n 3, 1) := by decide +kernel
theorem dX9_derive_36 : decode cX9_derive 36 = .ok (.iload_n 1, 1) := by decide +kernel
theorem dX9_derive_37 : decode cX9_derive 37 = .ok (.iconst 2, 1) := by decide +kernel
theorem dX9_derive_38 : decode cX9_derive 38 = .ok (.if_icmp .ge 26, 3) := by decide +kernel
theorem dX9_derive_41 : decode cX9_derive 41 = .ok (.aload_n 0, 1) := by decide +kernel
theorem dX9_derive_42 : decode cX9_derive 42 = .ok (.getfield 31, 3) := by decide +kernel
theorem dX9_derive_45 : decode cX9_derive 45 = .ok (.iload_n 3, 1) := by decide +kernel
theorem dX9_derive_46 : decode cX9_derive 46 = .ok (.invokevirtual 135, 3) := by decide +kernel
theorem dX9_derive_49 : decode cX9_derive 49 = .ok (.aload_n 0, 1) := by decide +kernel
theorem dX9_derive_50 : decode cX9_derive 50 = .ok (.getfield 14, 3) := by decide +kernel
theorem dX9_derive_53 : decode cX9_derive 53 = .ok (.iload_n 2, 1) := by decide +kernel
theorem dX9_derive_54 : decode cX9_derive 54 = .ok (.aload_n 0, 1) := by decide +kernel
theorem dX9_derive_55 : decode cX9_derive 55 = .ok (.getfield 18, 3) := by decide +kernel
theorem dX9_derive_58 : decode cX9_derive 58 = .ok (.invokevirtual 176, 3) := by decide +kernel
theorem dX9_derive_61 : decode cX9_derive 61 = .ok (.goto 26, 3) := by decide +kernel
theorem dX9_derive_64 : decode cX9_derive 64 = .ok (.aload_n 0, 1) := by decide +kernel
theorem dX9_derive_65 : decode cX9_derive 65 = .ok (.getfield 31, 3) := by decide +kernel
theorem dX9_derive_68 : decode cX9_derive 68 = .ok (.getfield 154, 3) := by decide +kernel
theorem dX9_derive_71 : decode cX9_derive 71 = .ok (.iload_n 3, 1) := by decide +kernel
theorem dX9_derive_72 : decode cX9_derive 72 = .ok (.invokestatic 144, 3) := by decide +kernel
theorem dX9_derive_75 : decode cX9_derive 75 = .ok (.aload_n 0, 1) := by decide +kernel
theorem dX9_derive_76 : decode cX9_derive 76 = .ok (.getfield 14, 3) := by decide +kernel
theorem dX9_derive_79 : decode cX9_derive 79 = .ok (.iload_n 2, 1) := by decide +kernel
theorem dX9_derive_80 : decode cX9_derive 80 = .ok (.aload_n 0, 1) := by decide +kernel
theorem dX9_derive_81 : decode cX9_derive 81 = .ok (.getfield 18, 3) := by decide +kernel
theorem dX9_derive_84 : decode cX9_derive 84 = .ok (.invokevirtual 180, 3) := by decide +kernel
theorem dX9_derive_87 : decode cX9_derive 87 = .ok (.iconst 1, 1) := by decide +kernel
theorem dX9_derive_88 : decode cX9_derive 88 = .ok (.ireturn, 1) := by decide +kernel
theorem dX9_size_0 : decode cX9_size 0 = .ok (.aload_n 0, 1) := by decide +kernel
theorem dX9_size_1 : decode cX9_size 1 = .ok (.getfield 18, 3) := by decide +kernel
theorem dX9_size_4 : decode cX9_size 4 = .ok (.invokevirtual 41, 3) := by decide +kernel
theorem dX9_size_7 : decode cX9_size 7 = .ok (.ireturn, 1) := by decide +kernel
theorem dX9_openOne_0 : decode cX9_openOne 0 = .ok (.iload_n 1, 1) := by decide +kernel
theorem dX9_openOne_1 : decode cX9_openOne 1 = .ok (.ifCond .lt 17, 3) := by decide +kernel
theorem dX9_openOne_4 : decode cX9_openOne 4 = .ok (.iload_n 1, 1) := by decide +kernel
theorem dX9_openOne_5 : decode cX9_openOne 5 = .ok (.iconst 4, 1) := by decide +kernel
theorem dX9_openOne_6 : decode cX9_openOne 6 = .ok (.if_icmp .ge 12, 3) := by decide +kernel
theorem dX9_openOne_9 : decode cX9_openOne 9 = .ok (.aload_n 0, 1) := by decide +kernel
theorem dX9_openOne_10 : decode cX9_openOne 10 = .ok (.getfield 37, 3) := by decide +kernel
theorem dX9_openOne_13 : decode cX9_openOne 13 = .ok (.iload_n 1, 1) := by decide +kernel
theorem dX9_openOne_14 : decode cX9_openOne 14 = .ok (.aaload, 1) := by decide +kernel
theorem dX9_openOne_15 : decode cX9_openOne 15 = .ok (.goto 4, 3) := by decide +kernel
theorem dX9_openOne_18 : decode cX9_openOne 18 = .ok (.aconst_null, 1) := by decide +kernel
theorem dX9_openOne_19 : decode cX9_openOne 19 = .ok (.areturn, 1) := by decide +kernel
theorem dX9_freeNumber_0 : decode cX9_freeNumber 0 = .ok (.iconst 0, 1) := by decide +kernel
theorem dX9_freeNumber_1 : decode cX9_freeNumber 1 = .ok (.istore_n 1, 1) := by decide +kernel
theorem dX9_freeNumber_2 : decode cX9_freeNumber 2 = .ok (.iload_n 1, 1) := by decide +kernel
theorem dX9_freeNumber_3 : decode cX9_freeNumber 3 = .ok (.iconst 4, 1) := by decide +kernel
theorem dX9_freeNumber_4 : decode cX9_freeNumber 4 = .ok (.if_icmp .ge 20, 3) := by decide +kernel
theorem dX9_freeNumber_7 : decode cX9_freeNumber 7 = .ok (.aload_n 0, 1) := by decide +kernel
theorem dX9_freeNumber_8 : decode cX9_freeNumber 8 = .ok (.getfield 37, 3) := by decide +kernel
theorem dX9_freeNumber_11 : decode cX9_freeNumber 11 = .ok (.iload_n 1, 1) := by decide +kernel
theorem dX9_freeNumber_12 : decode cX9_freeNumber 12 = .ok (.aaload, 1) := by decide +kernel
theorem dX9_freeNumber_13 : decode cX9_freeNumber 13 = .ok (.ifnonnull 5, 3) := by decide +kernel
theorem dX9_freeNumber_16 : decode cX9_freeNumber 16 = .ok (.iload_n 1, 1) := by decide +kernel
theorem dX9_freeNumber_17 : decode cX9_freeNumber 17 = .ok (.ireturn, 1) := by decide +kernel
theorem dX9_freeNumber_18 : decode cX9_freeNumber 18 = .ok (.iinc 1 1, 3) := by decide +kernel
theorem dX9_freeNumber_21 : decode cX9_freeNumber 21 = .ok (.goto (-19), 3) := by decide +kernel
theorem dX9_freeNumber_24 : decode cX9_freeNumber 24 = .ok (.iconst (-1), 1) := by decide +kernel
theorem dX9_freeNumber_25 : decode cX9_freeNumber 25 = .ok (.ireturn, 1) := by decide +kernel
theorem dX9_makeGenerator_0 : decode cX9_makeGenerator 0 = .ok (.iload_n 1, 1) := by decide +kernel
theorem dX9_makeGenerator_1 : decode cX9_makeGenerator 1 = .ok (.iconst 2, 1) := by decide +kernel
theorem dX9_makeGenerator_2 : decode cX9_makeGenerator 2 = .ok (.if_icmp .ge 20, 3) := by decide +kernel
theorem dX9_makeGenerator_5 : decode cX9_makeGenerator 5 = .ok (.new 183, 3) := by decide +kernel
theorem dX9_makeGenerator_8 : decode cX9_makeGenerator 8 = .ok (.dup, 1) := by decide +kernel
theorem dX9_makeGenerator_9 : decode cX9_makeGenerator 9 = .ok (.iload_n 1, 1) := by decide +kernel
theorem dX9_makeGenerator_10 : decode cX9_makeGenerator 10 = .ok (.iload_n 2, 1) := by decide +kernel
theorem dX9_makeGenerator_11 : decode cX9_makeGenerator 11 = .ok (.iload_n 3, 1) := by decide +kernel
theorem dX9_makeGenerator_12 : decode cX9_makeGenerator 12 = .ok (.iload 4, 2) := by decide +kernel
theorem dX9_makeGenerator_14 : decode cX9_makeGenerator 14 = .ok (.aload_n 0, 1) := by decide +kernel
theorem dX9_makeGenerator_15 : decode cX9_makeGenerator 15 = .ok (.getfield 31, 3) := by decide +kernel
theorem dX9_makeGenerator_18 : decode cX9_makeGenerator 18 = .ok (.invokespecial 185, 3) := by decide +kernel
theorem dX9_makeGenerator_21 : decode cX9_makeGenerator 21 = .ok (.areturn, 1) := by decide +kernel
theorem dX9_makeGenerator_22 : decode cX9_makeGenerator 22 = .ok (.iload_n 1, 1) := by decide +kernel
theorem dX9_makeGenerator_23 : decode cX9_makeGenerator 23 = .ok (.iconst 4, 1) := by decide +kernel
theorem dX9_makeGenerator_24 : decode cX9_makeGenerator 24 = .ok (.if_icmp .ge 20, 3) := by decide +kernel
theorem dX9_makeGenerator_27 : decode cX9_makeGenerator 27 = .ok (.new 188, 3) := by decide +kernel
theorem dX9_makeGenerator_30 : decode cX9_makeGenerator 30 = .ok (.dup, 1) := by decide +kernel
theorem dX9_makeGenerator_31 : decode cX9_makeGenerator 31 = .ok (.iload_n 1, 1) := by decide +kernel
theorem dX9_makeGenerator_32 : decode cX9_makeGenerator 32 = .ok (.iload_n 2, 1) := by decide +kernel
theorem dX9_makeGenerator_33 : decode cX9_makeGenerator 33 = .ok (.iload_n 3, 1) := by decide +kernel
theorem dX9_makeGenerator_34 : decode cX9_makeGenerator 34 = .ok (.iload 4, 2) := by decide +kernel
theorem dX9_makeGenerator_36 : decode cX9_makeGenerator 36 = .ok (.aload_n 0, 1) := by decide +kernel
theorem dX9_makeGenerator_37 : decode cX9_makeGenerator 37 = .ok (.getfield 31, 3) := by decide +kernel
theorem dX9_makeGenerator_40 : decode cX9_makeGenerator 40 = .ok (.invokespecial 190, 3) := by decide +kernel
theorem dX9_makeGenerator_43 : decode cX9_makeGenerator 43 = .ok (.areturn, 1) := by decide +kernel
theorem dX9_makeGenerator_44 : decode cX9_makeGenerator 44 = .ok (.new 191, 3) := by decide +kernel
theorem dX9_makeGenerator_47 : decode cX9_makeGenerator 47 = .ok (.dup, 1) := by decide +kernel
theorem dX9_makeGenerator_48 : decode cX9_makeGenerator 48 = .ok (.iload_n 1, 1) := by decide +kernel
theorem dX9_makeGenerator_49 : decode cX9_makeGenerator 49 = .ok (.iload_n 2, 1) := by decide +kernel
theorem dX9_makeGenerator_50 : decode cX9_makeGenerator 50 = .ok (.iload_n 3, 1) := by decide +kernel
theorem dX9_makeGenerator_51 : decode cX9_makeGenerator 51 = .ok (.iload 4, 2) := by decide +kernel
theorem dX9_makeGenerator_53 : decode cX9_makeGenerator 53 = .ok (.aload_n 0, 1) := by decide +kernel
theorem dX9_makeGenerator_54 : decode cX9_makeGenerator 54 = .ok (.getfield 31, 3) := by decide +kernel
theorem dX9_makeGenerator_57 : decode cX9_makeGenerator 57 = .ok (.invokespecial 193, 3) := by decide +kernel
theorem dX9_makeGenerator_60 : decode cX9_makeGenerator 60 = .ok (.areturn, 1) := by decide +kernel
theorem dX9_refusalToSeed_0 : decode cX9_refusalToSeed 0 = .ok (.aload_n 1, 1) := by decide +kernel
theorem dX9_refusalToSeed_1 : decode cX9_refusalToSeed 1 = .ok (.aload_n 0, 1) := by decide +kernel
theorem dX9_refusalToSeed_2 : decode cX9_refusalToSeed 2 = .ok (.getfield 14, 3) := by decide +kernel
theorem dX9_refusalToSeed_5 : decode cX9_refusalToSeed 5 = .ok (.invokevirtual 117, 3) := by decide +kernel
theorem dX9_refusalToSeed_8 : decode cX9_refusalToSeed 8 = .ok (.ifCond .eq 5, 3) := by decide +kernel
theorem dX9_refusalToSeed_11 : decode cX9_refusalToSeed 11 = .ok (.iconst 4, 1) := by decide +kernel
theorem dX9_refusalToSeed_12 : decode cX9_refusalToSeed 12 = .ok (.ireturn, 1) := by decide +kernel
theorem dX9_refusalToSeed_13 : decode cX9_refusalToSeed 13 = .ok (.iload_n 2, 1) := by decide +kernel
theorem dX9_refusalToSeed_14 : decode cX9_refusalToSeed 14 = .ok (.ifCond .eq 12, 3) := by decide +kernel
theorem dX9_refusalToSeed_17 : decode cX9_refusalToSeed 17 = .ok (.aload_n 1, 1) := by decide +kernel
theorem dX9_refusalToSeed_18 : decode cX9_refusalToSeed 18 = .ok (.getfield 194, 3) := by decide +kernel
theorem dX9_refusalToSeed_21 : decode cX9_refusalToSeed 21 = .ok (.ifCond .ne 5, 3) := by decide +kernel
theorem dX9_refusalToSeed_24 : decode cX9_refusalToSeed 24 = .ok (.iconst 5, 1) := by decide +kernel
theorem dX9_refusalToSeed_25 : decode cX9_refusalToSeed 25 = .ok (.ireturn, 1) := by decide +kernel
theorem dX9_refusalToSeed_26 : decode cX9_refusalToSeed 26 = .ok (.aload_n 1, 1) := by decide +kernel
theorem dX9_refusalToSeed_27 : decode cX9_refusalToSeed 27 = .ok (.invokevirtual 92, 3) := by decide +kernel
theorem dX9_refusalToSeed_30 : decode cX9_refusalToSeed 30 = .ok (.aload_n 0, 1) := by decide +kernel
theorem dX9_refusalToSeed_31 : decode cX9_refusalToSeed 31 = .ok (.getfield 24, 3) := by decide +kernel
theorem dX9_refusalToSeed_34 : decode cX9_refusalToSeed 34 = .ok (.invokevirtual 56, 3) := by decide +kernel
theorem dX9_refusalToSeed_37 : decode cX9_refusalToSeed 37 = .ok (.if_icmp .le 8, 3) := by decide +kernel
theorem dX9_refusalToSeed_40 : decode cX9_refusalToSeed 40 = .ok (.bipush 6, 2) := by decide +kernel
theorem dX9_refusalToSeed_42 : decode cX9_refusalToSeed 42 = .ok (.goto 4, 3) := by decide +kernel
theorem dX9_refusalToSeed_45 : decode cX9_refusalToSeed 45 = .ok (.iconst 0, 1) := by decide +kernel
theorem dX9_refusalToSeed_46 : decode cX9_refusalToSeed 46 = .ok (.ireturn, 1) := by decide +kernel
theorem dX10_init_0 : decode cX10_init 0 = .ok (.aload_n 0, 1) := by decide +kernel
theorem dX10_init_1 : decode cX10_init 1 = .ok (.invokespecial 1, 3) := by decide +kernel
theorem dX10_init_4 : decode cX10_init 4 = .ok (.aload_n 0, 1) := by decide +kernel
theorem dX10_init_5 : decode cX10_init 5 = .ok (.bipush 111, 2) := by decide +kernel
theorem dX10_init_7 : decode cX10_init 7 = .ok (.newarray .int, 2) := by decide +kernel
theorem dX10_init_9 : decode cX10_init 9 = .ok (.putfield 7, 3) := by decide +kernel
theorem dX10_init_12 : decode cX10_init 12 = .ok (.aload_n 0, 1) := by decide +kernel
theorem dX10_init_13 : decode cX10_init 13 = .ok (.bipush 111, 2) := by decide +kernel
theorem dX10_init_15 : decode cX10_init 15 = .ok (.newarray .int, 2) := by decide +kernel
theorem dX10_init_17 : decode cX10_init 17 = .ok (.putfield 13, 3) := by decide +kernel
theorem dX10_init_20 : decode cX10_init 20 = .ok (.return_, 1) := by decide +kernel
theorem dX10_isGreat_0 : decode cX10_isGreat 0 = .ok (.aload_n 0, 1) := by decide +kernel
theorem dX10_isGreat_1 : decode cX10_isGreat 1 = .ok (.getfield 16, 3) := by decide +kernel
theorem dX10_isGreat_4 : decode cX10_isGreat 4 = .ok (.iconst 1, 1) := by decide +kernel
theorem dX10_isGreat_5 : decode cX10_isGreat 5 = .ok (.if_icmp .eq 11, 3) := by decide +kernel
theorem dX10_isGreat_8 : decode cX10_isGreat 8 = .ok (.aload_n 0, 1) := by decide +kernel
theorem dX10_isGreat_9 : decode cX10_isGreat 9 = .ok (.getfield 16, 3) := by decide +kernel
theorem dX10_isGreat_12 : decode cX10_isGreat 12 = .ok (.iconst 3, 1) := by decide +kernel
theorem dX10_isGreat_13 : decode cX10_isGreat 13 = .ok (.if_icmp .ne 7, 3) := by decide +kernel
theorem dX10_isGreat_16 : decode cX10_isGreat 16 = .ok (.iconst 1, 1) := by decide +kernel
theorem dX10_isGreat_17 : decode cX10_isGreat 17 = .ok (.goto 4, 3) := by decide +kernel
theorem dX10_isGreat_20 : decode cX10_isGreat 20 = .ok (.iconst 0, 1) := by decide +kernel
theorem dX10_isGreat_21 : decode cX10_isGreat 21 = .ok (.ireturn, 1) := by decide +kernel
theorem dX10_keySize_0 : decode cX10_keySize 0 = .ok (.aload_n 0, 1) := by decide +kernel
theorem dX10_keySize_1 : decode cX10_keySize 1 = .ok (.getfield 16, 3) := by decide +kernel
theorem dX10_keySize_4 : decode cX10_keySize 4 = .ok (.iconst 2, 1) := by decide +kernel
theorem dX10_keySize_5 : decode cX10_keySize 5 = .ok (.irem, 1) := by decide +kernel
theorem dX10_keySize_6 : decode cX10_keySize 6 = .ok (.ifCond .ne 8, 3) := by decide +kernel
theorem dX10_keySize_9 : decode cX10_keySize 9 = .ok (.bipush 16, 2) := by decide +kernel
theorem dX10_keySize_11 : decode cX10_keySize 11 = .ok (.goto 5, 3) := by decide +kernel
theorem dX10_keySize_14 : decode cX10_keySize 14 = .ok (.bipush 32, 2) := by decide +kernel
theorem dX10_keySize_16 : decode cX10_keySize 16 = .ok (.ireturn, 1) := by decide +kernel
theorem dX10_seed_0 : decode cX10_seed 0 = .ok (.aload_n 0, 1) := by decide +kernel
theorem dX10_seed_1 : decode cX10_seed 1 = .ok (.getfield 16, 3) := by decide +kernel
theorem dX10_seed_4 : decode cX10_seed 4 = .ok (.ifCond .ne 8, 3) := by decide +kernel
theorem dX10_seed_7 : decode cX10_seed 7 = .ok (.bipush 55, 2) := by decide +kernel
theorem dX10_seed_9 : decode cX10_seed 9 = .ok (.goto 41, 3) := by decide +kernel
theorem dX10_seed_12 : decode cX10_seed 12 = .ok (.aload_n 0, 1) := by decide +kernel
theorem dX10_seed_13 : decode cX10_seed 13 = .ok (.getfield 16, 3) := by decide +kernel
theorem dX10_seed_16 : decode cX10_seed 16 = .ok (.iconst 1, 1) := by decide +kernel
theorem dX10_seed_17 : decode cX10_seed 17 = .ok (.if_icmp .ne 8, 3) := by decide +kernel
theorem dX10_seed_20 : decode cX10_seed 20 = .ok (.bipush 111, 2) := by decide +kernel
theorem dX10_seed_22 : decode cX10_seed 22 = .ok (.goto 28, 3) := by decide +kernel
theorem dX10_seed_25 : decode cX10_seed 25 = .ok (.aload_n 0, 1) := by decide +kernel
theorem dX10_seed_26 : decode cX10_seed 26 = .ok (.getfield 16, 3) := by decide +kernel
theorem dX10_seed_29 : decode cX10_seed 29 = .ok (.iconst 4, 1) := by decide +kernel
theorem dX10_seed_30 : decode cX10_seed 30 = .ok (.if_icmp .ge 13, 3) := by decide +kernel
theorem dX10_seed_33 : decode cX10_seed 33 = .ok (.aload_n 0, 1) := by decide +kernel
theorem dX10_seed_34 : decode cX10_seed 34 = .ok (.invokevirtual 20, 3) := by decide +kernel
theorem dX10_seed_37 : decode cX10_seed 37 = .ok (.invokestatic 24, 3) := by decide +kernel
theorem dX10_seed_40 : decode cX10_seed 40 = .ok (.goto 10, 3) := by decide +kernel
theorem dX10_seed_43 : decode cX10_seed 43 = .ok (.bipush 16, 2) := by decide +kernel
theorem dX10_seed_45 : decode cX10_seed 45 = .ok (.aload_n 0, 1) := by decide +kernel
theorem dX10_seed_46 : decode cX10_seed 46 = .ok (.invokevirtual 30, 3) := by decide +kernel
theorem dX10_seed_49 : decode cX10_seed 49 = .ok (.iadd, 1) := by decide +kernel
theorem dX10_seed_50 : decode cX10_seed 50 = .ok (.ireturn, 1) := by decide +kernel
theorem dX10_vSize_0 : decode cX10_vSize 0 = .ok (.aload_n 0, 1) := by decide +kernel
theorem dX10_vSize_1 : decode cX10_vSize 1 = .ok (.getfield 16, 3) := by decide +kernel
theorem dX10_vSize_4 : decode cX10_vSize 4 = .ok (.iconst 4, 1) := by decide +kernel
theorem dX10_vSize_5 : decode cX10_vSize 5 = .ok (.if_icmp .ge 10, 3) := by decide +kernel
theorem dX10_vSize_8 : decode cX10_vSize 8 = .ok (.aload_n 0, 1) := by decide +kernel
theorem dX10_vSize_9 : decode cX10_vSize 9 = .ok (.invokevirtual 34, 3) := by decide +kernel
theorem dX10_vSize_12 : decode cX10_vSize 12 = .ok (.goto 5, 3) := by decide +kernel
theorem dX10_vSize_15 : decode cX10_vSize 15 = .ok (.bipush 16, 2) := by decide +kernel
theorem dX10_vSize_17 : decode cX10_vSize 17 = .ok (.ireturn, 1) := by decide +kernel
theorem dX10_cSize_0 : decode cX10_cSize 0 = .ok (.aload_n 0, 1) := by decide +kernel
theorem dX10_cSize_1 : decode cX10_cSize 1 = .ok (.getfield 16, 3) := by decide +kernel
theorem dX10_cSize_4 : decode cX10_cSize 4 = .ok (.iconst 4, 1) := by decide +kernel
theorem dX10_cSize_5 : decode cX10_cSize 5 = .ok (.if_icmp .ge 10, 3) := by decide +kernel
theorem dX10_cSize_8 : decode cX10_cSize 8 = .ok (.aload_n 0, 1) := by decide +kernel
theorem dX10_cSize_9 : decode cX10_cSize 9 = .ok (.invokevirtual 34, 3) := by decide +kernel
theorem dX10_cSize_12 : decode cX10_cSize 12 = .ok (.goto 7, 3) := by decide +kernel
theorem dX10_cSize_15 : decode cX10_cSize 15 = .ok (.aload_n 0, 1) := by decide +kernel
theorem dX10_cSize_16 : decode cX10_cSize 16 = .ok (.invokevirtual 30, 3) := by decide +kernel
theorem dX10_cSize_19 : decode cX10_cSize 19 = .ok (.ireturn, 1) := by decide +kernel
theorem dX10_fresh_0 : decode cX10_fresh 0 = .ok (.aload_n 0, 1) := by decide +kernel
theorem dX10_fresh_1 : decode cX10_fresh 1 = .ok (.getfield 16, 3) := by decide +kernel
theorem dX10_fresh_4 : decode cX10_fresh 4 = .ok (.iconst 5, 1) := by decide +kernel
theorem dX10_fresh_5 : decode cX10_fresh 5 = .ok (.if_icmp .le 10, 3) := by decide +kernel
theorem dX10_fresh_8 : decode cX10_fresh 8 = .ok (.aload_n 0, 1) := by decide +kernel
theorem dX10_fresh_9 : decode cX10_fresh 9 = .ok (.invokevirtual 34, 3) := by decide +kernel
theorem dX10_fresh_12 : decode cX10_fresh 12 = .ok (.goto 10, 3) := by decide +kernel
theorem dX10_fresh_15 : decode cX10_fresh 15 = .ok (.aload_n 0, 1) := by decide +kernel
theorem dX10_fresh_16 : decode cX10_fresh 16 = .ok (.getfield 37, 3) := by decide +kernel
theorem dX10_fresh_19 : decode cX10_fresh 19 = .ok (.bipush 8, 2) := by decide +kernel
theorem dX10_fresh_21 : decode cX10_fresh 21 = .ok (.idiv, 1) := by decide +kernel
theorem dX10_fresh_22 : decode cX10_fresh 22 = .ok (.ireturn, 1) := by decide +kernel
theorem dX11_init_0 : decode cX11_init 0 = .ok (.aload_n 0, 1) := by decide +kernel
theorem dX11_init_1 : decode cX11_init 1 = .ok (.invokespecial 1, 3) := by decide +kernel
theorem dX11_init_4 : decode cX11_init 4 = .ok (.aload_n 0, 1) := by decide +kernel
theorem dX11_init_5 : decode cX11_init 5 = .ok (.bipush 80, 2) := by decide +kernel
theorem dX11_init_7 : decode cX11_init 7 = .ok (.newarray .long, 2) := by decide +kernel
theorem dX11_init_9 : decode cX11_init 9 = .ok (.putfield 7, 3) := by decide +kernel
theorem dX11_init_12 : decode cX11_init 12 = .ok (.aload_n 0, 1) := by decide +kernel
theorem dX11_init_13 : decode cX11_init 13 = .ok (.bipush 8, 2) := by decide +kernel
theorem dX11_init_15 : decode cX11_init 15 = .ok (.newarray .long, 2) := by decide +kernel
theorem dX11_init_17 : decode cX11_init 17 = .ok (.putfield 13, 3) := by decide +kernel
theorem dX11_init_20 : decode cX11_init 20 = .ok (.aload_n 0, 1) := by decide +kernel
theorem dX11_init_21 : decode cX11_init 21 = .ok (.iconst 5, 1) := by decide +kernel
theorem dX11_init_22 : decode cX11_init 22 = .ok (.newarray .int, 2) := by decide +kernel
theorem dX11_init_24 : decode cX11_init 24 = .ok (.putfield 16, 3) := by decide +kernel
theorem dX11_init_27 : decode cX11_init 27 = .ok (.aload_n 0, 1) := by decide +kernel
theorem dX11_init_28 : decode cX11_init 28 = .ok (.bipush 16, 2) := by decide +kernel
theorem dX11_init_30 : decode cX11_init 30 = .ok (.newarray .int, 2) := by decide +kernel
theorem dX11_init_32 : decode cX11_init 32 = .ok (.putfield 20, 3) := by decide +kernel
theorem dX11_init_35 : decode cX11_init 35 = .ok (.aload_n 0, 1) := by decide +kernel
theorem dX11_init_36 : decode cX11_init 36 = .ok (.bipush 16, 2) := by decide +kernel
theorem dX11_init_38 : decode cX11_init 38 = .ok (.newarray .int, 2) := by decide +kernel
theorem dX11_init_40 : decode cX11_init 40 = .ok (.putfield 23, 3) := by decide +kernel
theorem dX11_init_43 : decode cX11_init 43 = .ok (.aload_n 0, 1) := by decide +kernel
theorem dX11_init_44 : decode cX11_init 44 = .ok (.sipush 1200, 3) := by decide +kernel
theorem dX11_init_47 : decode cX11_init 47 = .ok (.newarray .int, 2) := by decide +kernel
theorem dX11_init_49 : decode cX11_init 49 = .ok (.putfield 26, 3) := by decide +kernel
theorem dX11_init_52 : decode cX11_init 52 = .ok (.aload_n 0, 1) := by decide +kernel
theorem dX11_init_53 : decode cX11_init 53 = .ok (.bipush 80, 2) := by decide +kernel
theorem dX11_init_55 : decode cX11_init 55 = .ok (.newarray .long, 2) := by decide +kernel
theorem dX11_init_57 : decode cX11_init 57 = .ok (.putfield 29, 3) := by decide +kernel
theorem dX11_init_60 : decode cX11_init 60 = .ok (.aload_n 0, 1) := by decide +kernel
theorem dX11_init_61 : decode cX11_init 61 = .ok (.bipush 8, 2) := by decide +kernel
theorem dX11_init_63 : decode cX11_init 63 = .ok (.newarray .long, 2) := by decide +kernel
theorem dX11_init_65 : decode cX11_init 65 = .ok (.putfield 32, 3) := by decide +kernel
theorem dX11_init_68 : decode cX11_init 68 = .ok (.aload_n 0, 1) := by decide +kernel
theorem dX11_init_69 : decode cX11_init 69 = .ok (.bipush 8, 2) := by decide +kernel
theorem dX11_init_71 : decode cX11_init 71 = .ok (.newarray .long, 2) := by decide +kernel
theorem dX11_init_73 : decode cX11_init 73 = .ok (.putfield 35, 3) := by decide +kernel
theorem dX11_init_76 : decode cX11_init 76 = .ok (.aload_n 0, 1) := by decide +kernel
theorem dX11_init_77 : decode cX11_init 77 = .ok (.bipush 64, 2) := by decide +kernel
theorem dX11_init_79 : decode cX11_init 79 = .ok (.newarray .int, 2) := by decide +kernel
theorem dX11_init_81 : decode cX11_init 81 = .ok (.putfield 38, 3) := by decide +kernel
theorem dX11_init_84 : decode cX11_init 84 = .ok (.aload_n 0, 1) := by decide +kernel
theorem dX11_init_85 : decode cX11_init 85 = .ok (.sipush 1000, 3) := by decide +kernel
theorem dX11_init_88 : decode cX11_init 88 = .ok (.newarray .int, 2) := by decide +kernel
theorem dX11_init_90 : decode cX11_init 90 = .ok (.putfield 41, 3) := by decide +kernel
theorem dX11_init_93 : decode cX11_init 93 = .ok (.aload_n 0, 1) := by decide +kernel
theorem dX11_init_94 : decode cX11_init 94 = .ok (.sipush 1000, 3) := by decide +kernel
theorem dX11_init_97 : decode cX11_init 97 = .ok (.newarray .int, 2) := by decide +kernel
theorem dX11_init_99 : decode cX11_init 99 = .ok (.putfield 44, 3) := by decide +kernel
theorem dX11_init_102 : decode cX11_init 102 = .ok (.aload_n 0, 1) := by decide +kernel
theorem dX11_init_103 : decode cX11_init 103 = .ok (.sipush 256, 3) := by decide +kernel
theorem dX11_init_106 : decode cX11_init 106 = .ok (.newarray .int, 2) := by decide +kernel
theorem dX11_init_108 : decode cX11_init 108 = .ok (.putfield 47, 3) := by decide +kernel
theorem dX11_init_111 : decode cX11_init 111 = .ok (.aload_n 0, 1) := by decide +kernel
theorem dX11_init_112 : decode cX11_init 112 = .ok (.sipush 240, 3) := by decide +kernel
theorem dX11_init_115 : decode cX11_init 115 = .ok (.newarray .int, 2) := by decide +kernel
theorem dX11_init_117 : decode cX11_init 117 = .ok (.putfield 50, 3) := by decide +kernel
theorem dX11_init_120 : decode cX11_init 120 = .ok (.aload_n 0, 1) := by decide +kernel
theorem dX11_init_121 : decode cX11_init 121 = .ok (.bipush 16, 2) := by decide +kernel
theorem dX11_init_123 : decode cX11_init 123 = .ok (.newarray .int, 2) := by decide +kernel
theorem dX11_init_125 : decode cX11_init 125 = .ok (.putfield 53, 3) := by decide +kernel
theorem dX11_init_128 : decode cX11_init 128 = .ok (.aload_n 0, 1) := by decide +kernel
theorem dX11_init_129 : decode cX11_init 129 = .ok (.bipush 16, 2) := by decide +kernel
theorem dX11_init_131 : decode cX11_init 131 = .ok (.newarray .int, 2) := by decide +kernel
theorem dX11_init_133 : decode cX11_init 133 = .ok (.putfield 56, 3) := by decide +kernel
theorem dX11_init_136 : decode cX11_init 136 = .ok (.aload_n 0, 1) := by decide +kernel
theorem dX11_init_137 : decode cX11_init 137 = .ok (.sipush 1000, 3) := by decide +kernel
theorem dX11_init_140 : decode cX11_init 140 = .ok (.newarray .int, 2) := by decide +kernel
theorem dX11_init_142 : decode cX11_init 142 = .ok (.putfield 59, 3) := by decide +kernel
theorem dX11_init_145 : decode cX11_init 145 = .ok (.aload_n 0, 1) := by decide +kernel
theorem dX11_init_146 : decode cX11_init 146 = .ok (.bipush 32, 2) := by decide +kernel
theorem dX11_init_148 : decode cX11_init 148 = .ok (.newarray .int, 2) := by decide +kernel
theorem dX11_init_150 : decode cX11_init 150 = .ok (.putfield 62, 3) := by decide +kernel
theorem dX11_init_153 : decode cX11_init 153 = .ok (.aload_n 0, 1) := by decide +kernel
theorem dX11_init_154 : decode cX11_init 154 = .ok (.bipush 48, 2) := by decide +kernel
theorem dX11_init_156 : decode cX11_init 156 = .ok (.newarray .int, 2) := by decide +kernel
theorem dX11_init_158 : decode cX11_init 158 = .ok (.putfield 65, 3) := by decide +kernel
theorem dX11_init_161 : decode cX11_init 161 = .ok (.aload_n 0, 1) := by decide +kernel
theorem dX11_init_162 : decode cX11_init 162 = .ok (.sipush 1000, 3) := by decide +kernel
theorem dX11_init_165 : decode cX11_init 165 = .ok (.newarray .int, 2) := by decide +kernel
theorem dX11_init_167 : decode cX11_init 167 = .ok (.putfield 68, 3) := by decide +kernel
theorem dX11_init_170 : decode cX11_init 170 = .ok (.aload_n 0, 1) := by decide +kernel
theorem dX11_init_171 : decode cX11_init 171 = .ok (.iconst 5, 1) := by decide +kernel
theorem dX11_init_172 : decode cX11_init 172 = .ok (.putfield 71, 3) := by decide +kernel
theorem dX11_init_175 : decode cX11_init 175 = .ok (.aload_n 0, 1) := by decide +kernel
theorem dX11_init_176 : decode cX11_init 176 = .ok (.sipush 512, 3) := by decide +kernel
theorem dX11_init_179 : decode cX11_init 179 = .ok (.putfield 75, 3) := by decide +kernel
theorem dX11_init_182 : decode cX11_init 182 = .ok (.aload_n 0, 1) := by decide +kernel
theorem dX11_init_183 : decode cX11_init 183 = .ok (.bipush 40, 2) := by decide +kernel
theorem dX11_init_185 : decode cX11_init 185 = .ok (.putfield 78, 3) := by decide +kernel
theorem dX11_init_188 : decode cX11_init 188 = .ok (.aload_n 0, 1) := by decide +kernel
theorem dX11_init_189 : decode cX11_init 189 = .ok (.iconst (-1), 1) := by decide +kernel
theorem dX11_init_190 : decode cX11_init 190 = .ok (.putfield 81, 3) := by decide +kernel
theorem dX11_init_193 : decode cX11_init 193 = .ok (.aload_n 0, 1) := by decide +kernel
theorem dX11_init_194 : decode cX11_init 194 = .ok (.iconst (-1), 1) := by decide +kernel
theorem dX11_init_195 : decode cX11_init 195 = .ok (.putfield 84, 3) := by decide +kernel
theorem dX11_init_198 : decode cX11_init 198 = .ok (.aload_n 0, 1) := by decide +kernel
theorem dX11_init_199 : decode cX11_init 199 = .ok (.bipush 100, 2) := by decide +kernel
theorem dX11_init_201 : decode cX11_init 201 = .ok (.newarray .int, 2) := by decide +kernel
theorem dX11_init_203 : decode cX11_init 203 = .ok (.putfield 87, 3) := by decide +kernel
theorem dX11_init_206 : decode cX11_init 206 = .ok (.aload_n 0, 1) := by decide +kernel
theorem dX11_init_207 : decode cX11_init 207 = .ok (.iconst 4, 1) := by decide +kernel
theorem dX11_init_208 : decode cX11_init 208 = .ok (.anewarray 90, 3) := by decide +kernel
theorem dX11_init_211 : decode cX11_init 211 = .ok (.putfield 92, 3) := by decide +kernel
theorem dX11_init_214 : decode cX11_init 214 = .ok (.aload_n 0, 1) := by decide +kernel
theorem dX11_init_215 : decode cX11_init 215 = .ok (.sipush 1000, 3) := by decide +kernel
theorem dX11_init_218 : decode cX11_init 218 = .ok (.newarray .int, 2) := by decide +kernel
theorem dX11_init_220 : decode cX11_init 220 = .ok (.putfield 96, 3) := by decide +kernel
theorem dX11_init_223 : decode cX11_init 223 = .ok (.aload_n 0, 1) := by decide +kernel
theorem dX11_init_224 : decode cX11_init 224 = .ok (.iconst 4, 1) := by decide +kernel
theorem dX11_init_225 : decode cX11_init 225 = .ok (.newarray .int, 2) := by decide +kernel
theorem dX11_init_227 : decode cX11_init 227 = .ok (.putfield 99, 3) := by decide +kernel
theorem dX11_init_230 : decode cX11_init 230 = .ok (.aload_n 0, 1) := by decide +kernel
theorem dX11_init_231 : decode cX11_init 231 = .ok (.bipush 111, 2) := by decide +kernel
theorem dX11_init_233 : decode cX11_init 233 = .ok (.newarray .int, 2) := by decide +kernel
theorem dX11_init_235 : decode cX11_init 235 = .ok (.putfield 102, 3) := by decide +kernel
theorem dX11_init_238 : decode cX11_init 238 = .ok (.aload_n 0, 1) := by decide +kernel
theorem dX11_init_239 : decode cX11_init 239 = .ok (.sipush 400, 3) := by decide +kernel
theorem dX11_init_242 : decode cX11_init 242 = .ok (.newarray .int, 2) := by decide +kernel
theorem dX11_init_244 : decode cX11_init 244 = .ok (.putfield 105, 3) := by decide +kernel
theorem dX11_init_247 : decode cX11_init 247 = .ok (.aload_n 0, 1) := by decide +kernel
theorem dX11_init_248 : decode cX11_init 248 = .ok (.bipush 16, 2) := by decide +kernel
theorem dX11_init_250 : decode cX11_init 250 = .ok (.newarray .int, 2) := by decide +kernel
theorem dX11_init_252 : decode cX11_init 252 = .ok (.putfield 108, 3) := by decide +kernel
theorem dX11_init_255 : decode cX11_init 255 = .ok (.aload_n 0, 1) := by decide +kernel
theorem dX11_init_256 : decode cX11_init 256 = .ok (.bipush 48, 2) := by decide +kernel
theorem dX11_init_258 : decode cX11_init 258 = .ok (.newarray .int, 2) := by decide +kernel
theorem dX11_init_260 : decode cX11_init 260 = .ok (.putfield 111, 3) := by decide +kernel
theorem dX11_init_263 : decode cX11_init 263 = .ok (.aload_n 0, 1) := by decide +kernel
theorem dX11_init_264 : decode cX11_init 264 = .ok (.sipush 240, 3) := by decide +kernel
theorem dX11_init_267 : decode cX11_init 267 = .ok (.newarray .int, 2) := by decide +kernel
theorem dX11_init_269 : decode cX11_init 269 = .ok (.putfield 114, 3) := by decide +kernel
theorem dX11_init_272 : decode cX11_init 272 = .ok (.aload_n 0, 1) := by decide +kernel
theorem dX11_init_273 : decode cX11_init 273 = .ok (.sipush 4096, 3) := by decide +kernel
theorem dX11_init_276 : decode cX11_init 276 = .ok (.newarray .int, 2) := by decide +kernel
theorem dX11_init_278 : decode cX11_init 278 = .ok (.putfield 117, 3) := by decide +kernel
theorem dX11_init_281 : decode cX11_init 281 = .ok (.iconst 0, 1) := by decide +kernel
theorem dX11_init_282 : decode cX11_init 282 = .ok (.istore_n 1, 1) := by decide +kernel
theorem dX11_init_283 : decode cX11_init 283 = .ok (.iload_n 1, 1) := by decide +kernel
theorem dX11_init_284 : decode cX11_init 284 = .ok (.iconst 4, 1) := by decide +kernel
theorem dX11_init_285 : decode cX11_init 285 = .ok (.if_icmp .ge 22, 3) := by decide +kernel
theorem dX11_init_288 : decode cX11_init 288 = .ok (.aload_n 0, 1) := by decide +kernel
theorem dX11_init_289 : decode cX11_init 289 = .ok (.getfield 92, 3) := by decide +kernel
theorem dX11_init_292 : decode cX11_init 292 = .ok (.iload_n 1, 1) := by decide +kernel
theorem dX11_init_293 : decode cX11_init 293 = .ok (.new 90, 3) := by decide +kernel
theorem dX11_init_296 : decode cX11_init 296 = .ok (.dup, 1) := by decide +kernel
theorem dX11_init_297 : decode cX11_init 297 = .ok (.invokespecial 120, 3) := by decide +kernel
theorem dX11_init_300 : decode cX11_init 300 = .ok (.aastore, 1) := by decide +kernel
theorem dX11_init_301 : decode cX11_init 301 = .ok (.iinc 1 1, 3) := by decide +kernel
theorem dX11_init_304 : decode cX11_init 304 = .ok (.goto (-21), 3) := by decide +kernel
theorem dX11_init_307 : decode cX11_init 307 = .ok (.iconst 0, 1) := by decide +kernel
theorem dX11_init_308 : decode cX11_init 308 = .ok (.istore_n 1, 1) := by decide +kernel
theorem dX11_init_309 : decode cX11_init 309 = .ok (.iconst 2, 1) := by decide +kernel
theorem dX11_init_310 : decode cX11_init 310 = .ok (.istore_n 2, 1) := by decide +kernel
theorem dX11_init_311 : decode cX11_init 311 = .ok (.iload_n 1, 1) := by decide +kernel
theorem dX11_init_312 : decode cX11_init 312 = .ok (.bipush 80, 2) := by decide +kernel
theorem dX11_init_314 : decode cX11_init 314 = .ok (.if_icmp .ge 52, 3) := by decide +kernel
theorem dX11_init_317 : decode cX11_init 317 = .ok (.iload_n 2, 1) := by decide +kernel
theorem dX11_init_318 : decode cX11_init 318 = .ok (.invokestatic 121, 3) := by decide +kernel
theorem dX11_init_321 : decode cX11_init 321 = .ok (.ifCond .ne 6, 3) := by decide +kernel
theorem dX11_init_324 : decode cX11_init 324 = .ok (.goto 36, 3) := by decide +kernel
theorem dX11_init_327 : decode cX11_init 327 = .ok (.aload_n 0, 1) := by decide +kernel
theorem dX11_init_328 : decode cX11_init 328 = .ok (.getfield 7, 3) := by decide +kernel
theorem dX11_init_331 : decode cX11_init 331 = .ok (.iload_n 1, 1) := by decide +kernel
theorem dX11_init_332 : decode cX11_init 332 = .ok (.aload_n 0, 1) := by decide +kernel
theorem dX11_init_333 : decode cX11_init 333 = .ok (.iload_n 2, 1) := by decide +kernel
theorem dX11_init_334 : decode cX11_init 334 = .ok (.iconst 3, 1) := by decide +kernel
theorem dX11_init_335 : decode cX11_init 335 = .ok (.invokevirtual 125, 3) := by decide +kernel
theorem dX11_init_338 : decode cX11_init 338 = .ok (.lastore, 1) := by decide +kernel
theorem dX11_init_339 : decode cX11_init 339 = .ok (.iload_n 1, 1) := by decide +kernel
theorem dX11_init_340 : decode cX11_init 340 = .ok (.bipush 8, 2) := by decide +kernel
theorem dX11_init_342 : decode cX11_init 342 = .ok (.if_icmp .ge 15, 3) := by decide +kernel
theorem dX11_init_345 : decode cX11_init 345 = .ok (.aload_n 0, 1) := by decide +kernel
theorem dX11_init_346 : decode cX11_init 346 = .ok (.getfield 13, 3) := by decide +kernel
theorem dX11_init_349 : decode cX11_init 349 = .ok (.iload_n 1, 1) := by decide +kernel
theorem dX11_init_350 : decode cX11_init 350 = .ok (.aload_n 0, 1) := by decide +kernel
theorem dX11_init_351 : decode cX11_init 351 = .ok (.iload_n 2, 1) := by decide +kernel
theorem dX11_init_352 : decode cX11_init 352 = .ok (.iconst 2, 1) := by decide +kernel
theorem dX11_init_353 : decode cX11_init 353 = .ok (.invokevirtual 125, 3) := by decide +kernel
theorem dX11_init_356 : decode cX11_init 356 = .ok (.lastore, 1) := by decide +kernel
theorem dX11_init_357 : decode cX11_init 357 = .ok (.iinc 1 1, 3) := by decide +kernel
theorem dX11_init_360 : decode cX11_init 360 = .ok (.iinc 2 1, 3) := by decide +kernel
theorem dX11_init_363 : decode cX11_init 363 = .ok (.goto (-52), 3) := by decide +kernel
theorem dX11_init_366 : decode cX11_init 366 = .ok (.iconst 0, 1) := by decide +kernel
theorem dX11_init_367 : decode cX11_init 367 = .ok (.istore_n 2, 1) := by decide +kernel
theorem dX11_init_368 : decode cX11_init 368 = .ok (.iload_n 2, 1) := by decide +kernel
theorem dX11_init_369 : decode cX11_init 369 = .ok (.sipush 256, 3) := by decide +kernel
theorem dX11_init_372 : decode cX11_init 372 = .ok (.if_icmp .ge 19, 3) := by decide +kernel
theorem dX11_init_375 : decode cX11_init 375 = .ok (.aload_n 0, 1) := by decide +kernel
theorem dX11_init_376 : decode cX11_init 376 = .ok (.getfield 47, 3) := by decide +kernel
theorem dX11_init_379 : decode cX11_init 379 = .ok (.iload_n 2, 1) := by decide +kernel
theorem dX11_init_380 : decode cX11_init 380 = .ok (.iload_n 2, 1) := by decide +kernel
theorem dX11_init_381 : decode cX11_init 381 = .ok (.invokestatic 129, 3) := by decide +kernel
theorem dX11_init_384 : decode cX11_init 384 = .ok (.iastore, 1) := by decide +kernel
theorem dX11_init_385 : decode cX11_init 385 = .ok (.iinc 2 1, 3) := by decide +kernel
theorem dX11_init_388 : decode cX11_init 388 = .ok (.goto (-20), 3) := by decide +kernel
theorem dX11_init_391 : decode cX11_init 391 = .ok (.return_, 1) := by decide +kernel
theorem dX11_in_0 : decode cX11_in 0 = .ok (.iload_n 0, 1) := by decide +kernel
theorem dX11_in_1 : decode cX11_in 1 = .ok (.iload_n 1, 1) := by decide +kernel
theorem dX11_in_2 : decode cX11_in 2 = .ok (.if_icmp .lt 12, 3) := by decide +kernel
theorem dX11_in_5 : decode cX11_in 5 = .ok (.iload_n 0, 1) := by decide +kernel
theorem dX11_in_6 : decode cX11_in 6 = .ok (.iload_n 2, 1) := by decide +kernel
theorem dX11_in_7 : decode cX11_in 7 = .ok (.if_icmp .gt 7, 3) := by decide +kernel
theorem dX11_in_10 : decode cX11_in 10 = .ok (.iconst 1, 1) := by decide +kernel
theorem dX11_in_11 : decode cX11_in 11 = .ok (.goto 4, 3) := by decide +kernel
theorem dX11_in_14 : decode cX11_in 14 = .ok (.iconst 0, 1) := by decide +kernel
theorem dX11_in_15 : decode cX11_in 15 = .ok (.ireturn, 1) := by decide +kernel
theorem dX11_isPrime_0 : decode cX11_isPrime 0 = .ok (.iconst 1, 1) := by decide +kernel
theorem dX11_isPrime_1 : decode cX11_isPrime 1 = .ok (.istore_n 1, 1) := by decide +kernel
theorem dX11_isPrime_2 : decode cX11_isPrime 2 = .ok (.iconst 2, 1) := by decide +kernel
theorem dX11_isPrime_3 : decode cX11_isPrime 3 = .ok (.istore_n 2, 1) := by decide +kernel
theorem dX11_isPrime_4 : decode cX11_isPrime 4 = .ok (.iload_n 2, 1) := by decide +kernel
theorem dX11_isPrime_5 : decode cX11_isPrime 5 = .ok (.iload_n 2, 1) := by decide +kernel
theorem dX11_isPrime_6 : decode cX11_isPrime 6 = .ok (.imul, 1) := by decide +kernel
theorem dX11_isPrime_7 : decode cX11_isPrime 7 = .ok (.iload_n 0, 1) := by decide +kernel
theorem dX11_isPrime_8 : decode cX11_isPrime 8 = .ok (.if_icmp .gt 25, 3) := by decide +kernel
theorem dX11_isPrime_11 : decode cX11_isPrime 11 = .ok (.iload_n 1, 1) := by decide +kernel
theorem dX11_isPrime_12 : decode cX11_isPrime 12 = .ok (.ifCond .eq 13, 3) := by decide +kernel
theorem dX11_isPrime_15 : decode cX11_isPrime 15 = .ok (.iload_n 0, 1) := by decide +kernel
theorem dX11_isPrime_16 : decode cX11_isPrime 16 = .ok (.iload_n 2, 1) := by decide +kernel
theorem dX11_isPrime_17 : decode cX11_isPrime 17 = .ok (.irem, 1) := by decide +kernel
theorem dX11_isPrime_18 : decode cX11_isPrime 18 = .ok (.ifCond .le 7, 3) := by decide +kernel
theorem dX11_isPrime_21 : decode cX11_isPrime 21 = .ok (.iconst 1, 1) := by decide +kernel
theorem dX11_isPrime_22 : decode cX11_isPrime 22 = .ok (.goto 4, 3) := by decide +kernel
theorem dX11_isPrime_25 : decode cX11_isPrime 25 = .ok (.iconst 0, 1) := by decide +kernel
theorem dX11_isPrime_26 : decode cX11_isPrime 26 = .ok (.istore_n 1, 1) := by decide +kernel
theorem dX11_isPrime_27 : decode cX11_isPrime 27 = .ok (.iinc 2 1, 3) := by decide +kernel
theorem dX11_isPrime_30 : decode cX11_isPrime 30 = .ok (.goto (-26), 3) := by decide +kernel
theorem dX11_isPrime_33 : decode cX11_isPrime 33 = .ok (.iload_n 1, 1) := by decide +kernel
theorem dX11_isPrime_34 : decode cX11_isPrime 34 = .ok (.ireturn, 1) := by decide +kernel
theorem dX11_root_0 : decode cX11_root 0 = .ok (.iconst 0, 1) := by decide +kernel
theorem dX11_root_1 : decode cX11_root 1 = .ok (.istore_n 3, 1) := by decide +kernel
theorem dX11_root_2 : decode cX11_root 2 = .ok (.iload_n 3, 1) := by decide +kernel
theorem dX11_root_3 : decode cX11_root 3 = .ok (.iconst 5, 1) := by decide +kernel
theorem dX11_root_4 : decode cX11_root 4 = .ok (.if_icmp .ge 16, 3) := by decide +kernel
theorem dX11_root_7 : decode cX11_root 7 = .ok (.aload_n 0, 1) := by decide +kernel
theorem dX11_root_8 : decode cX11_root 8 = .ok (.getfield 16, 3) := by decide +kernel
theorem dX11_root_11 : decode cX11_root 11 = .ok (.iload_n 3, 1) := by decide +kernel
theorem dX11_root_12 : decode cX11_root 12 = .ok (.iconst 0, 1) := by decide +kernel
theorem dX11_root_13 : decode cX11_root 13 = .ok (.iastore, 1) := by decide +kernel
theorem dX11_root_14 : decode cX11_root 14 = .ok (.iinc 3 1, 3) := by decide +kernel
theorem dX11_root_17 : decode cX11_root 17 = .ok (.goto (-15), 3) := by decide +kernel
theorem dX11_root_20 : decode cX11_root 20 = .ok (.bipush 69, 2) := by decide +kernel
theorem dX11_root_22 : decode cX11_root 22 = .ok (.istore_n 3, 1) := by decide +kernel
theorem dX11_root_23 : decode cX11_root 23 = .ok (.iload_n 3, 1) := by decide +kernel
theorem dX11_root_24 : decode cX11_root 24 = .ok (.ifCond .lt 56, 3) := by decide +kernel
theorem dX11_root_27 : decode cX11_root 27 = .ok (.aload_n 0, 1) := by decide +kernel
theorem dX11_root_28 : decode cX11_root 28 = .ok (.getfield 16, 3) := by decide +kernel
theorem dX11_root_31 : decode cX11_root 31 = .ok (.iload_n 3, 1) := by decide +kernel
theorem dX11_root_32 : decode cX11_root 32 = .ok (.bipush 16, 2) := by decide +kernel
theorem dX11_root_34 : decode cX11_root 34 = .ok (.idiv, 1) := by decide +kernel
theorem dX11_root_35 : decode cX11_root 35 = .ok (.dup2, 1) := by decide +kernel
theorem dX11_root_36 : decode cX11_root 36 = .ok (.iaload, 1) := by decide +kernel
theorem dX11_root_37 : decode cX11_root 37 = .ok (.iconst 1, 1) := by decide +kernel
theorem dX11_root_38 : decode cX11_root 38 = .ok (.iload_n 3, 1) := by decide +kernel
theorem dX11_root_39 : decode cX11_root 39 = .ok (.bipush 16, 2) := by decide +kernel
theorem dX11_root_41 : decode cX11_root 41 = .ok (.irem, 1) := by decide +kernel
theorem dX11_root_42 : decode cX11_root 42 = .ok (.ishl, 1) := by decide +kernel
theorem dX11_root_43 : decode cX11_root 43 = .ok (.ior, 1) := by decide +kernel
theorem dX11_root_44 : decode cX11_root 44 = .ok (.iastore, 1) := by decide +kernel
theorem dX11_root_45 : decode cX11_root 45 = .ok (.aload_n 0, 1) := by decide +kernel
theorem dX11_root_46 : decode cX11_root 46 = .ok (.iload_n 1, 1) := by decide +kernel
theorem dX11_root_47 : decode cX11_root 47 = .ok (.iload_n 2, 1) := by decide +kernel
theorem dX11_root_48 : decode cX11_root 48 = .ok (.invokevirtual 136, 3) := by decide +kernel
theorem dX11_root_51 : decode cX11_root 51 = .ok (.ifCond .eq 23, 3) := by decide +kernel
theorem dX11_root_54 : decode cX11_root 54 = .ok (.aload_n 0, 1) := by decide +kernel
theorem dX11_root_55 : decode cX11_root 55 = .ok (.getfield 16, 3) := by decide +kernel
theorem dX11_root_58 : decode cX11_root 58 = .ok (.iload_n 3, 1) := by decide +kernel
theorem dX11_root_59 : decode cX11_root 59 = .ok (.bipush 16, 2) := by decide +kernel
theorem dX11_root_61 : decode cX11_root 61 = .ok (.idiv, 1) := by decide +kernel
theorem dX11_root_62 : decode cX11_root 62 = .ok (.dup2, 1) := by decide +kernel
theorem dX11_root_63 : decode cX11_root 63 = .ok (.iaload, 1) := by decide +kernel
theorem dX11_root_64 : decode cX11_root 64 = .ok (.iconst 1, 1) := by decide +kernel
theorem dX11_root_65 : decode cX11_root 65 = .ok (.iload_n 3, 1) := by decide +kernel
theorem dX11_root_66 : decode cX11_root 66 = .ok (.bipush 16, 2) := by decide +kernel
theorem dX11_root_68 : decode cX11_root 68 = .ok (.irem, 1) := by decide +kernel
theorem dX11_root_69 : decode cX11_root 69 = .ok (.ishl, 1) := by decide +kernel
theorem dX11_root_70 : decode cX11_root 70 = .ok (.iconst (-1), 1) := by decide +kernel
theorem dX11_root_71 : decode cX11_root 71 = .ok (.ixor, 1) := by decide +kernel
theorem dX11_root_72 : decode cX11_root 72 = .ok (.iand, 1) := by decide +kernel
theorem dX11_root_73 : decode cX11_root 73 = .ok (.iastore, 1) := by decide +kernel
theorem dX11_root_74 : decode cX11_root 74 = .ok (.iinc 3 (-1), 3) := by decide +kernel
theorem dX11_root_77 : decode cX11_root 77 = .ok (.goto (-54), 3) := by decide +kernel
theorem dX11_root_80 : decode cX11_root 80 = .ok (.lconst 0, 1) := by decide +kernel
theorem dX11_root_81 : decode cX11_root 81 = .ok (.lstore_n 3, 1) := by decide +kernel
theorem dX11_root_82 : decode cX11_root 82 = .ok (.iconst 3, 1) := by decide +kernel
theorem dX11_root_83 : decode cX11_root 83 = .ok (.istore 5, 2) := by decide +kernel
theorem dX11_root_85 : decode cX11_root 85 = .ok (.iload 5, 2) := by decide +kernel
theorem dX11_root_87 : decode cX11_root 87 = .ok (.ifCond .lt 23, 3) := by decide +kernel
theorem dX11_root_90 : decode cX11_root 90 = .ok (.lload_n 3, 1) := by decide +kernel
theorem dX11_root_91 : decode cX11_root 91 = .ok (.bipush 16, 2) := by decide +kernel
theorem dX11_root_93 : decode cX11_root 93 = .ok (.lshl, 1) := by decide +kernel
theorem dX11_root_94 : decode cX11_root 94 = .ok (.aload_n 0, 1) := by decide +kernel
theorem dX11_root_95 : decode cX11_root 95 = .ok (.getfield 16, 3) := by decide +kernel
theorem dX11_root_98 : decode cX11_root 98 = .ok (.iload 5, 2) := by decide +kernel
theorem dX11_root_100 : decode cX11_root 100 = .ok (.iaload, 1) := by decide +kernel
theorem dX11_root_101 : decode cX11_root 101 = .ok (.i2l, 1) := by decide +kernel
theorem dX11_root_102 : decode cX11_root 102 = .ok (.lor, 1) := by decide +kernel
theorem dX11_root_103 : decode cX11_root 103 = .ok (.lstore_n 3, 1) := by decide +kernel
theorem dX11_root_104 : decode cX11_root 104 = .ok (.iinc 5 (-1), 3) := by decide +kernel
theorem dX11_root_107 : decode cX11_root 107 = .ok (.goto (-22), 3) := by decide +kernel
theorem dX11_root_110 : decode cX11_root 110 = .ok (.lload_n 3, 1) := by decide +kernel
theorem dX11_root_111 : decode cX11_root 111 = .ok (.lreturn, 1) := by decide +kernel
theorem dX11_isBeyond_0 : decode cX11_isBeyond 0 = .ok (.iconst 0, 1) := by decide +kernel
theorem dX11_isBeyond_1 : decode cX11_isBeyond 1 = .ok (.istore_n 3, 1) := by decide +kernel
theorem dX11_isBeyond_2 : decode cX11_isBeyond 2 = .ok (.iload_n 3, 1) := by decide +kernel
theorem dX11_isBeyond_3 : decode cX11_isBeyond 3 = .ok (.bipush 16, 2) := by decide +kernel
theorem dX11_isBeyond_5 : decode cX11_isBeyond 5 = .ok (.if_icmp .ge 30, 3) := by decide +kernel
theorem dX11_isBeyond_8 : decode cX11_isBeyond 8 = .ok (.aload_n 0, 1) := by decide +kernel
theorem dX11_isBeyond_9 : decode cX11_isBeyond 9 = .ok (.getfield 20, 3) := by decide +kernel
theorem dX11_isBeyond_12 : decode cX11_isBeyond 12 = .ok (.iload_n 3, 1) := by decide +kernel
theorem dX11_isBeyond_13 : decode cX11_isBeyond 13 = .ok (.iload_n 3, 1) := by decide +kernel
theorem dX11_isBeyond_14 : decode cX11_isBeyond 14 = .ok (.iconst 5, 1) := by decide +kernel
theorem dX11_isBeyond_15 : decode cX11_isBeyond 15 = .ok (.if_icmp .ge 12, 3) := by decide +kernel
theorem dX11_isBeyond_18 : decode cX11_isBeyond 18 = .ok (.aload_n 0, 1) := by decide +kernel
theorem dX11_isBeyond_19 : decode cX11_isBeyond 19 = .ok (.getfield 16, 3) := by decide +kernel
theorem dX11_isBeyond_22 : decode cX11_isBeyond 22 = .ok (.iload_n 3, 1) := by decide +kernel
theorem dX11_isBeyond_23 : decode cX11_isBeyond 23 = .ok (.iaload, 1) := by decide +kernel
theorem dX11_isBeyond_24 : decode cX11_isBeyond 24 = .ok (.goto 4, 3) := by decide +kernel
theorem dX11_isBeyond_27 : decode cX11_isBeyond 27 = .ok (.iconst 0, 1) := by decide +kernel
theorem dX11_isBeyond_28 : decode cX11_isBeyond 28 = .ok (.iastore, 1) := by decide +kernel
theorem dX11_isBeyond_29 : decode cX11_isBeyond 29 = .ok (.iinc 3 1, 3) := by decide +kernel
theorem dX11_isBeyond_32 : decode cX11_isBeyond 32 = .ok (.goto (-30), 3) := by decide +kernel
theorem dX11_isBeyond_35 : decode cX11_isBeyond 35 = .ok (.iconst 1, 1) := by decide +kernel
theorem dX11_isBeyond_36 : decode cX11_isBeyond 36 = .ok (.istore_n 3, 1) := by decide +kernel
theorem dX11_isBeyond_37 : decode cX11_isBeyond 37 = .ok (.iload_n 3, 1) := by decide +kernel
theorem dX11_isBeyond_38 : decode cX11_isBeyond 38 = .ok (.iload_n 2, 1) := by decide +kernel
theorem dX11_isBeyond_39 : decode cX11_isBeyond 39 = .ok (.if_icmp .ge 158, 3) := by decide +kernel
theorem dX11_isBeyond_42 : decode cX11_isBeyond 42 = .ok (.iconst 0, 1) := by decide +kernel
theorem dX11_isBeyond_43 : decode cX11_isBeyond 43 = .ok (.istore 4, 2) := by decide +kernel
theorem dX11_isBeyond_45 : decode cX11_isBeyond 45 = .ok (.iload 4, 2) := by decide +kernel
theorem dX11_isBeyond_47 : decode cX11_isBeyond 47 = .ok (.bipush 16, 2) := by decide +kernel
theorem dX11_isBeyond_49 : decode cX11_isBeyond 49 = .ok (.if_icmp .ge 17, 3) := by decide +kernel
theorem dX11_isBeyond_52 : decode cX11_isBeyond 52 = .ok (.aload_n 0, 1) := by decide +kernel
theorem dX11_isBeyond_53 : decode cX11_isBeyond 53 = .ok (.getfield 23, 3) := by decide +kernel
theorem dX11_isBeyond_56 : decode cX11_isBeyond 56 = .ok (.iload 4, 2) := by decide +kernel
theorem dX11_isBeyond_58 : decode cX11_isBeyond 58 = .ok (.iconst 0, 1) := by decide +kernel
theorem dX11_isBeyond_59 : decode cX11_isBeyond 59 = .ok (.iastore, 1) := by decide +kernel
theorem dX11_isBeyond_60 : decode cX11_isBeyond 60 = .ok (.iinc 4 1, 3) := by decide +kernel
theorem dX11_isBeyond_63 : decode cX11_isBeyond 63 = .ok (.goto (-18), 3) := by decide +kernel
theorem dX11_isBeyond_66 : decode cX11_isBeyond 66 = .ok (.iconst 0, 1) := by decide +kernel
theorem dX11_isBeyond_67 : decode cX11_isBeyond 67 = .ok (.istore 4, 2) := by decide +kernel
theorem dX11_isBeyond_69 : decode cX11_isBeyond 69 = .ok (.iload 4, 2) := by decide +kernel
theorem dX11_isBeyond_71 : decode cX11_isBeyond 71 = .ok (.iconst 5, 1) := by decide +kernel
theorem dX11_isBeyond_72 : decode cX11_isBeyond 72 = .ok (.if_icmp .ge 89, 3) := by decide +kernel
theorem dX11_isBeyond_75 : decode cX11_isBeyond 75 = .ok (.lconst 0, 1) := by decide +kernel
theorem dX11_isBeyond_76 : decode cX11_isBeyond 76 = .ok (.lstore 5, 2) := by decide +kernel
theorem dX11_isBeyond_78 : decode cX11_isBeyond 78 = .ok (.iconst 0, 1) := by decide +kernel
theorem dX11_isBeyond_79 : decode cX11_isBeyond 79 = .ok (.istore 7, 2) := by decide +kernel
theorem dX11_isBeyond_81 : decode cX11_isBeyond 81 = .ok (.iload 4, 2) := by decide +kernel
theorem dX11_isBeyond_83 : decode cX11_isBeyond 83 = .ok (.iload 7, 2) := by decide +kernel
theorem dX11_isBeyond_85 : decode cX11_isBeyond 85 = .ok (.iadd, 1) := by decide +kernel
theorem dX11_isBeyond_86 : decode cX11_isBeyond 86 = .ok (.bipush 16, 2) := by decide +kernel
theorem dX11_isBeyond_88 : decode cX11_isBeyond 88 = .ok (.if_icmp .ge 67, 3) := by decide +kernel
theorem dX11_isBeyond_91 : decode cX11_isBeyond 91 = .ok (.aload_n 0, 1) := by decide +kernel
theorem dX11_isBeyond_92 : decode cX11_isBeyond 92 = .ok (.getfield 23, 3) := by decide +kernel
theorem dX11_isBeyond_95 : decode cX11_isBeyond 95 = .ok (.iload 4, 2) := by decide +kernel
theorem dX11_isBeyond_97 : decode cX11_isBeyond 97 = .ok (.iload 7, 2) := by decide +kernel
theorem dX11_isBeyond_99 : decode cX11_isBeyond 99 = .ok (.iadd, 1) := by decide +kernel
theorem dX11_isBeyond_100 : decode cX11_isBeyond 100 = .ok (.iaload, 1) := by decide +kernel
theorem dX11_isBeyond_101 : decode cX11_isBeyond 101 = .ok (.i2l, 1) := by decide +kernel
theorem dX11_isBeyond_102 : decode cX11_isBeyond 102 = .ok (.aload_n 0, 1) := by decide +kernel
theorem dX11_isBeyond_103 : decode cX11_isBeyond 103 = .ok (.getfield 16, 3) := by decide +kernel
theorem dX11_isBeyond_106 : decode cX11_isBeyond 106 = .ok (.iload 4, 2) := by decide +kernel
theorem dX11_isBeyond_108 : decode cX11_isBeyond 108 = .ok (.iaload, 1) := by decide +kernel
theorem dX11_isBeyond_109 : decode cX11_isBeyond 109 = .ok (.i2l, 1) := by decide +kernel
theorem dX11_isBeyond_110 : decode cX11_isBeyond 110 = .ok (.aload_n 0, 1) := by decide +kernel
theorem dX11_isBeyond_111 : decode cX11_isBeyond 111 = .ok (.getfield 20, 3) := by decide +kernel
theorem dX11_isBeyond_114 : decode cX11_isBeyond 114 = .ok (.iload 7, 2) := by decide +kernel
theorem dX11_isBeyond_116 : decode cX11_isBeyond 116 = .ok (.iaload, 1) := by decide +kernel
theorem dX11_isBeyond_117 : decode cX11_isBeyond 117 = .ok (.i2l, 1) := by decide +kernel
theorem dX11_isBeyond_118 : decode cX11_isBeyond 118 = .ok (.lmul, 1) := by decide +kernel
theorem dX11_isBeyond_119 : decode cX11_isBeyond 119 = .ok (.ladd, 1) := by decide +kernel
theorem dX11_isBeyond_120 : decode cX11_isBeyond 120 = .ok (.lload 5, 2) := by decide +kernel
theorem dX11_isBeyond_122 : decode cX11_isBeyond 122 = .ok (.ladd, 1) := by decide +kernel
theorem dX11_isBeyond_123 : decode cX11_isBeyond 123 = .ok (.lstore 8, 2) := by decide +kernel
theorem dX11_isBeyond_125 : decode cX11_isBeyond 125 = .ok (.aload_n 0, 1) := by decide +kernel
theorem dX11_isBeyond_126 : decode cX11_isBeyond 126 = .ok (.getfield 23, 3) := by decide +kernel
theorem dX11_isBeyond_129 : decode cX11_isBeyond 129 = .ok (.iload 4, 2) := by decide +kernel
theorem dX11_isBeyond_131 : decode cX11_isBeyond 131 = .ok (.iload 7, 2) := by decide +kernel
theorem dX11_isBeyond_133 : decode cX11_isBeyond 133 = .ok (.iadd, 1) := by decide +kernel
theorem dX11_isBeyond_134 : decode cX11_isBeyond 134 = .ok (.lload 8, 2) := by decide +kernel
theorem dX11_isBeyond_136 : decode cX11_isBeyond 136 = .ok (.ldc2_w 140, 3) := by decide +kernel
theorem dX11_isBeyond_139 : decode cX11_isBeyond 139 = .ok (.land, 1) := by decide +kernel
theorem dX11_isBeyond_140 : decode cX11_isBeyond 140 = .ok (.l2i, 1) := by decide +kernel
theorem dX11_isBeyond_141 : decode cX11_isBeyond 141 = .ok (.iastore, 1) := by decide +kernel
theorem dX11_isBeyond_142 : decode cX11_isBeyond 142 = .ok (.lload 8, 2) := by decide +kernel
theorem dX11_isBeyond_144 : decode cX11_isBeyond 144 = .ok (.bipush 16, 2) := by decide +kernel
theorem dX11_isBeyond_146 : decode cX11_isBeyond 146 = .ok (.lshr, 1) := by decide +kernel
theorem dX11_isBeyond_147 : decode cX11_isBeyond 147 = .ok (.lstore 5, 2) := by decide +kernel
theorem dX11_isBeyond_149 : decode cX11_isBeyond 149 = .ok (.iinc 7 1, 3) := by decide +kernel
theorem dX11_isBeyond_152 : decode cX11_isBeyond 152 = .ok (.goto (-71), 3) := by decide +kernel
theorem dX11_isBeyond_155 : decode cX11_isBeyond 155 = .ok (.iinc 4 1, 3) := by decide +kernel
theorem dX11_isBeyond_158 : decode cX11_isBeyond 158 = .ok (.goto (-89), 3) := by decide +kernel
theorem dX11_isBeyond_161 : decode cX11_isBeyond 161 = .ok (.iconst 0, 1) := by decide +kernel
theorem dX11_isBeyond_162 : decode cX11_isBeyond 162 = .ok (.istore 4, 2) := by decide +kernel
theorem dX11_isBeyond_164 : decode cX11_isBeyond 164 = .ok (.iload 4, 2) := by decide +kernel
theorem dX11_isBeyond_166 : decode cX11_isBeyond 166 = .ok (.bipush 16, 2) := by decide +kernel
theorem dX11_isBeyond_168 : decode cX11_isBeyond 168 = .ok (.if_icmp .ge 23, 3) := by decide +kernel
theorem dX11_isBeyond_171 : decode cX11_isBeyond 171 = .ok (.aload_n 0, 1) := by decide +kernel
theorem dX11_isBeyond_172 : decode cX11_isBeyond 172 = .ok (.getfield 20, 3) := by decide +kernel
theorem dX11_isBeyond_175 : decode cX11_isBeyond 175 = .ok (.iload 4, 2) := by decide +kernel
theorem dX11_isBeyond_177 : decode cX11_isBeyond 177 = .ok (.aload_n 0, 1) := by decide +kernel
theorem dX11_isBeyond_178 : decode cX11_isBeyond 178 = .ok (.getfield 23, 3) := by decide +kernel
theorem dX11_isBeyond_181 : decode cX11_isBeyond 181 = .ok (.iload 4, 2) := by decide +kernel
theorem dX11_isBeyond_183 : decode cX11_isBeyond 183 = .ok (.iaload, 1) := by decide +kernel
theorem dX11_isBeyond_184 : decode cX11_isBeyond 184 = .ok (.iastore, 1) := by decide +kernel
theorem dX11_isBeyond_185 : decode cX11_isBeyond 185 = .ok (.iinc 4 1, 3) := by decide +kernel
theorem dX11_isBeyond_188 : decode cX11_isBeyond 188 = .ok (.goto (-24), 3) := by decide +kernel
theorem dX11_isBeyond_191 : decode cX11_isBeyond 191 = .ok (.iinc 3 1, 3) := by decide +kernel
theorem dX11_isBeyond_194 : decode cX11_isBeyond 194 = .ok (.goto (-157), 3) := by decide +kernel
theorem dX11_isBeyond_197 : decode cX11_isBeyond 197 = .ok (.iconst 4, 1) := by decide +kernel
theorem dX11_isBeyond_198 : decode cX11_isBeyond 198 = .ok (.iload_n 2, 1) := by decide +kernel
theorem dX11_isBeyond_199 : decode cX11_isBeyond 199 = .ok (.imul, 1) := by decide +kernel
theorem dX11_isBeyond_200 : decode cX11_isBeyond 200 = .ok (.istore_n 3, 1) := by decide +kernel
theorem dX11_isBeyond_201 : decode cX11_isBeyond 201 = .ok (.lconst 0, 1) := by decide +kernel
theorem dX11_isBeyond_202 : decode cX11_isBeyond 202 = .ok (.lstore 4, 2) := by decide +kernel
theorem dX11_isBeyond_204 : decode cX11_isBeyond 204 = .ok (.bipush 15, 2) := by decide +kernel
theorem dX11_isBeyond_206 : decode cX11_isBeyond 206 = .ok (.istore 6, 2) := by decide +kernel
theorem dX11_isBeyond_208 : decode cX11_isBeyond 208 = .ok (.iload 6, 2) := by decide +kernel
theorem dX11_isBeyond_210 : decode cX11_isBeyond 210 = .ok (.iload_n 3, 1) := by decide +kernel
theorem dX11_isBeyond_211 : decode cX11_isBeyond 211 = .ok (.if_icmp .lt 25, 3) := by decide +kernel
theorem dX11_isBeyond_214 : decode cX11_isBeyond 214 = .ok (.lload 4, 2) := by decide +kernel
theorem dX11_isBeyond_216 : decode cX11_isBeyond 216 = .ok (.bipush 16, 2) := by decide +kernel
theorem dX11_isBeyond_218 : decode cX11_isBeyond 218 = .ok (.lshl, 1) := by decide +kernel
theorem dX11_isBeyond_219 : decode cX11_isBeyond 219 = .ok (.aload_n 0, 1) := by decide +kernel
theorem dX11_isBeyond_220 : decode cX11_isBeyond 220 = .ok (.getfield 20, 3) := by decide +kernel
theorem dX11_isBeyond_223 : decode cX11_isBeyond 223 = .ok (.iload 6, 2) := by decide +kernel
theorem dX11_isBeyond_225 : decode cX11_isBeyond 225 = .ok (.iaload, 1) := by decide +kernel
theorem dX11_isBeyond_226 : decode cX11_isBeyond 226 = .ok (.i2l, 1) := by decide +kernel
theorem dX11_isBeyond_227 : decode cX11_isBeyond 227 = .ok (.lor, 1) := by decide +kernel
theorem dX11_isBeyond_228 : decode cX11_isBeyond 228 = .ok (.lstore 4, 2) := by decide +kernel
theorem dX11_isBeyond_230 : decode cX11_isBeyond 230 = .ok (.iinc 6 (-1), 3) := by decide +kernel
theorem dX11_isBeyond_233 : decode cX11_isBeyond 233 = .ok (.goto (-25), 3) := by decide +kernel
theorem dX11_isBeyond_236 : decode cX11_isBeyond 236 = .ok (.lload 4, 2) := by decide +kernel
theorem dX11_isBeyond_238 : decode cX11_isBeyond 238 = .ok (.iload_n 1, 1) := by decide +kernel
theorem dX11_isBeyond_239 : decode cX11_isBeyond 239 = .ok (.i2l, 1) := by decide +kernel
theorem dX11_isBeyond_240 : decode cX11_isBeyond 240 = .ok (.lcmp, 1) := by decide +kernel
theorem dX11_isBeyond_241 : decode cX11_isBeyond 241 = .ok (.ifCond .eq 17, 3) := by decide +kernel
theorem dX11_isBeyond_244 : decode cX11_isBeyond 244 = .ok (.lload 4, 2) := by decide +kernel
theorem dX11_isBeyond_246 : decode cX11_isBeyond 246 = .ok (.iload_n 1, 1) := by decide +kernel
theorem dX11_isBeyond_247 : decode cX11_isBeyond 247 = .ok (.i2l, 1) := by decide +kernel
theorem dX11_isBeyond_248 : decode cX11_isBeyond 248 = .ok (.lcmp, 1) := by decide +kernel
theorem dX11_isBeyond_249 : decode cX11_isBeyond 249 = .ok (.ifCond .le 7, 3) := by decide +kernel
theorem dX11_isBeyond_252 : decode cX11_isBeyond 252 = .ok (.iconst 1, 1) := by decide +kernel
theorem dX11_isBeyond_253 : decode cX11_isBeyond 253 = .ok (.goto 4, 3) := by decide +kernel
theorem dX11_isBeyond_256 : decode cX11_isBeyond 256 = .ok (.iconst 0, 1) := by decide +kernel
theorem dX11_isBeyond_257 : decode cX11_isBeyond 257 = .ok (.ireturn, 1) := by decide +kernel
theorem dX11_isBeyond_258 : decode cX11_isBeyond 258 = .ok (.iconst 0, 1) := by decide +kernel
theorem dX11_isBeyond_259 : decode cX11_isBeyond 259 = .ok (.istore 6, 2) := by decide +kernel
theorem dX11_isBeyond_261 : decode cX11_isBeyond 261 = .ok (.iconst 0, 1) := by decide +kernel
theorem dX11_isBeyond_262 : decode cX11_isBeyond 262 = .ok (.istore 7, 2) := by decide +kernel
theorem dX11_isBeyond_264 : decode cX11_isBeyond 264 = .ok (.iload 7, 2) := by decide +kernel
theorem dX11_isBeyond_266 : decode cX11_isBeyond 266 = .ok (.iload_n 3, 1) := by decide +kernel
theorem dX11_isBeyond_267 : decode cX11_isBeyond 267 = .ok (.if_icmp .ge 31, 3) := by decide +kernel
theorem dX11_isBeyond_270 : decode cX11_isBeyond 270 = .ok (.iload 6, 2) := by decide +kernel
theorem dX11_isBeyond_272 : decode cX11_isBeyond 272 = .ok (.ifCond .ne 13, 3) := by decide +kernel
theorem dX11_isBeyond_275 : decode cX11_isBeyond 275 = .ok (.aload_n 0, 1) := by decide +kernel
theorem dX11_isBeyond_276 : decode cX11_isBeyond 276 = .ok (.getfield 20, 3) := by decide +kernel
theorem dX11_isBeyond_279 : decode cX11_isBeyond 279 = .ok (.iload 7, 2) := by decide +kernel
theorem dX11_isBeyond_281 : decode cX11_isBeyond 281 = .ok (.iaload, 1) := by decide +kernel
theorem dX11_isBeyond_282 : decode cX11_isBeyond 282 = .ok (.ifCond .le 7, 3) := by decide +kernel
theorem dX11_isBeyond_285 : decode cX11_isBeyond 285 = .ok (.iconst 1, 1) := by decide +kernel
theorem dX11_isBeyond_286 : decode cX11_isBeyond 286 = .ok (.goto 4, 3) := by decide +kernel
theorem dX11_isBeyond_289 : decode cX11_isBeyond 289 = .ok (.iconst 0, 1) := by decide +kernel
theorem dX11_isBeyond_290 : decode cX11_isBeyond 290 = .ok (.istore 6, 2) := by decide +kernel
theorem dX11_isBeyond_292 : decode cX11_isBeyond 292 = .ok (.iinc 7 1, 3) := by decide +kernel
theorem dX11_isBeyond_295 : decode cX11_isBeyond 295 = .ok (.goto (-31), 3) := by decide +kernel
theorem dX11_isBeyond_298 : decode cX11_isBeyond 298 = .ok (.iload 6, 2) := by decide +kernel
theorem dX11_isBeyond_300 : decode cX11_isBeyond 300 = .ok (.ireturn, 1) := by decide +kernel
theorem dX11_turned_0 : decode cX11_turned 0 = .ok (.iload_n 3, 1) := by decide +kernel
theorem dX11_turned_1 : decode cX11_turned 1 = .ok (.bipush 64, 2) := by decide +kernel
theorem dX11_turned_3 : decode cX11_turned 3 = .ok (.if_icmp .ne 16, 3) := by decide +kernel
theorem dX11_turned_6 : decode cX11_turned 6 = .ok (.lload_n 0, 1) := by decide +kernel
theorem dX11_turned_7 : decode cX11_turned 7 = .ok (.iload_n 2, 1) := by decide +kernel
theorem dX11_turned_8 : decode cX11_turned 8 = .ok (.lushr, 1) := by decide +kernel
theorem dX11_turned_9 : decode cX11_turned 9 = .ok (.lload_n 0, 1) := by decide +kernel
theorem dX11_turned_10 : decode cX11_turned 10 = .ok (.bipush 64, 2) := by decide +kernel
theorem dX11_turned_12 : decode cX11_turned 12 = .ok (.iload_n 2, 1) := by decide +kernel
theorem dX11_turned_13 : decode cX11_turned 13 = .ok (.isub, 1) := by decide +kernel
theorem dX11_turned_14 : decode cX11_turned 14 = .ok (.lshl, 1) := by decide +kernel
theorem dX11_turned_15 : decode cX11_turned 15 = .ok (.lor, 1) := by decide +kernel
theorem dX11_turned_16 : decode cX11_turned 16 = .ok (.goto 17, 3) := by decide +kernel
theorem dX11_turned_19 : decode cX11_turned 19 = .ok (.lload_n 0, 1) := by decide +kernel
theorem dX11_turned_20 : decode cX11_turned 20 = .ok (.iload_n 2, 1) := by decide +kernel
theorem dX11_turned_21 : decode cX11_turned 21 = .ok (.lushr, 1) := by decide +kernel
theorem dX11_turned_22 : decode cX11_turned 22 = .ok (.lload_n 0, 1) := by decide +kernel
theorem dX11_turned_23 : decode cX11_turned 23 = .ok (.bipush 32, 2) := by decide +kernel
theorem dX11_turned_25 : decode cX11_turned 25 = .ok (.iload_n 2, 1) := by decide +kernel
theorem dX11_turned_26 : decode cX11_turned 26 = .ok (.isub, 1) := by decide +kernel
theorem dX11_turned_27 : decode cX11_turned 27 = .ok (.lshl, 1) := by decide +kernel
theorem dX11_turned_28 : decode cX11_turned 28 = .ok (.lor, 1) := by decide +kernel
theorem dX11_turned_29 : decode cX11_turned 29 = .ok (.ldc2_w 142, 3) := by decide +kernel
theorem dX11_turned_32 : decode cX11_turned 32 = .ok (.land, 1) := by decide +kernel
theorem dX11_turned_33 : decode cX11_turned 33 = .ok (.lreturn, 1) := by decide +kernel
theorem dX11_cut_0 : decode cX11_cut 0 = .ok (.iload_n 2, 1) := by decide +kernel
theorem dX11_cut_1 : decode cX11_cut 1 = .ok (.bipush 64, 2) := by decide +kernel
theorem dX11_cut_3 : decode cX11_cut 3 = .ok (.if_icmp .ne 7, 3) := by decide +kernel
