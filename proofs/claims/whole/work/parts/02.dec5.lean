theorem dX11_comes_135 : decode cX11_comes 135 = .ok (.iload_n 2, 1) := by decide +kernel
theorem dX11_comes_136 : decode cX11_comes 136 = .ok (.ifCond .eq 26, 3) := by decide +kernel
theorem dX11_comes_139 : decode cX11_comes 139 = .ok (.aload_n 0, 1) := by decide +kernel
theorem dX11_comes_140 : decode cX11_comes 140 = .ok (.iconst 1, 1) := by decide +kernel
theorem dX11_comes_141 : decode cX11_comes 141 = .ok (.putfield 199, 3) := by decide +kernel
theorem dX11_comes_144 : decode cX11_comes 144 = .ok (.aload_n 0, 1) := by decide +kernel
theorem dX11_comes_145 : decode cX11_comes 145 = .ok (.dup, 1) := by decide +kernel
theorem dX11_comes_146 : decode cX11_comes 146 = .ok (.getfield 203, 3) := by decide +kernel
theorem dX11_comes_149 : decode cX11_comes 149 = .ok (.iconst 1, 1) := by decide +kernel
theorem dX11_comes_150 : decode cX11_comes 150 = .ok (.iadd, 1) := by decide +kernel
theorem dX11_comes_151 : decode cX11_comes 151 = .ok (.putfield 203, 3) := by decide +kernel
theorem dX11_comes_154 : decode cX11_comes 154 = .ok (.aload_n 0, 1) := by decide +kernel
theorem dX11_comes_155 : decode cX11_comes 155 = .ok (.iconst 0, 1) := by decide +kernel
theorem dX11_comes_156 : decode cX11_comes 156 = .ok (.putfield 206, 3) := by decide +kernel
theorem dX11_comes_159 : decode cX11_comes 159 = .ok (.goto 23, 3) := by decide +kernel
theorem dX11_comes_162 : decode cX11_comes 162 = .ok (.aload_n 0, 1) := by decide +kernel
theorem dX11_comes_163 : decode cX11_comes 163 = .ok (.getfield 68, 3) := by decide +kernel
theorem dX11_comes_166 : decode cX11_comes 166 = .ok (.aload_n 0, 1) := by decide +kernel
theorem dX11_comes_167 : decode cX11_comes 167 = .ok (.getfield 206, 3) := by decide +kernel
theorem dX11_comes_170 : decode cX11_comes 170 = .ok (.iload_n 1, 1) := by decide +kernel
theorem dX11_comes_171 : decode cX11_comes 171 = .ok (.iastore, 1) := by decide +kernel
theorem dX11_comes_172 : decode cX11_comes 172 = .ok (.aload_n 0, 1) := by decide +kernel
theorem dX11_comes_173 : decode cX11_comes 173 = .ok (.dup, 1) := by decide +kernel
theorem dX11_comes_174 : decode cX11_comes 174 = .ok (.getfield 206, 3) := by decide +kernel
theorem dX11_comes_177 : decode cX11_comes 177 = .ok (.iconst 1, 1) := by decide +kernel
theorem dX11_comes_178 : decode cX11_comes 178 = .ok (.iadd, 1) := by decide +kernel
theorem dX11_comes_179 : decode cX11_comes 179 = .ok (.putfield 206, 3) := by decide +kernel
theorem dX11_comes_182 : decode cX11_comes 182 = .ok (.return_, 1) := by decide +kernel
theorem dX11_take_0 : decode cX11_take 0 = .ok (.iconst 0, 1) := by decide +kernel
theorem dX11_take_1 : decode cX11_take 1 = .ok (.istore_n 2, 1) := by decide +kernel
theorem dX11_take_2 : decode cX11_take 2 = .ok (.iload_n 2, 1) := by decide +kernel
theorem dX11_take_3 : decode cX11_take 3 = .ok (.iload_n 1, 1) := by decide +kernel
theorem dX11_take_4 : decode cX11_take 4 = .ok (.if_icmp .ge 21, 3) := by decide +kernel
theorem dX11_take_7 : decode cX11_take 7 = .ok (.aload_n 0, 1) := by decide +kernel
theorem dX11_take_8 : decode cX11_take 8 = .ok (.getfield 87, 3) := by decide +kernel
theorem dX11_take_11 : decode cX11_take 11 = .ok (.iload_n 2, 1) := by decide +kernel
theorem dX11_take_12 : decode cX11_take 12 = .ok (.aload_n 0, 1) := by decide +kernel
theorem dX11_take_13 : decode cX11_take 13 = .ok (.getfield 68, 3) := by decide +kernel
theorem dX11_take_16 : decode cX11_take 16 = .ok (.iload_n 2, 1) := by decide +kernel
theorem dX11_take_17 : decode cX11_take 17 = .ok (.iaload, 1) := by decide +kernel
theorem dX11_take_18 : decode cX11_take 18 = .ok (.iastore, 1) := by decide +kernel
theorem dX11_take_19 : decode cX11_take 19 = .ok (.iinc 2 1, 3) := by decide +kernel
theorem dX11_take_22 : decode cX11_take 22 = .ok (.goto (-20), 3) := by decide +kernel
theorem dX11_take_25 : decode cX11_take 25 = .ok (.iload_n 1, 1) := by decide +kernel
theorem dX11_take_26 : decode cX11_take 26 = .ok (.istore_n 2, 1) := by decide +kernel
theorem dX11_take_27 : decode cX11_take 27 = .ok (.iload_n 2, 1) := by decide +kernel
theorem dX11_take_28 : decode cX11_take 28 = .ok (.aload_n 0, 1) := by decide +kernel
theorem dX11_take_29 : decode cX11_take 29 = .ok (.getfield 206, 3) := by decide +kernel
theorem dX11_take_32 : decode cX11_take 32 = .ok (.if_icmp .ge 23, 3) := by decide +kernel
theorem dX11_take_35 : decode cX11_take 35 = .ok (.aload_n 0, 1) := by decide +kernel
theorem dX11_take_36 : decode cX11_take 36 = .ok (.getfield 68, 3) := by decide +kernel
theorem dX11_take_39 : decode cX11_take 39 = .ok (.iload_n 2, 1) := by decide +kernel
theorem dX11_take_40 : decode cX11_take 40 = .ok (.iload_n 1, 1) := by decide +kernel
theorem dX11_take_41 : decode cX11_take 41 = .ok (.isub, 1) := by decide +kernel
theorem dX11_take_42 : decode cX11_take 42 = .ok (.aload_n 0, 1) := by decide +kernel
theorem dX11_take_43 : decode cX11_take 43 = .ok (.getfield 68, 3) := by decide +kernel
theorem dX11_take_46 : decode cX11_take 46 = .ok (.iload_n 2, 1) := by decide +kernel
theorem dX11_take_47 : decode cX11_take 47 = .ok (.iaload, 1) := by decide +kernel
theorem dX11_take_48 : decode cX11_take 48 = .ok (.iastore, 1) := by decide +kernel
theorem dX11_take_49 : decode cX11_take 49 = .ok (.iinc 2 1, 3) := by decide +kernel
theorem dX11_take_52 : decode cX11_take 52 = .ok (.goto (-25), 3) := by decide +kernel
theorem dX11_take_55 : decode cX11_take 55 = .ok (.aload_n 0, 1) := by decide +kernel
theorem dX11_take_56 : decode cX11_take 56 = .ok (.dup, 1) := by decide +kernel
theorem dX11_take_57 : decode cX11_take 57 = .ok (.getfield 206, 3) := by decide +kernel
theorem dX11_take_60 : decode cX11_take 60 = .ok (.iload_n 1, 1) := by decide +kernel
theorem dX11_take_61 : decode cX11_take 61 = .ok (.isub, 1) := by decide +kernel
theorem dX11_take_62 : decode cX11_take 62 = .ok (.putfield 206, 3) := by decide +kernel
theorem dX11_take_65 : decode cX11_take 65 = .ok (.aload_n 0, 1) := by decide +kernel
theorem dX11_take_66 : decode cX11_take 66 = .ok (.dup, 1) := by decide +kernel
theorem dX11_take_67 : decode cX11_take 67 = .ok (.getfield 209, 3) := by decide +kernel
theorem dX11_take_70 : decode cX11_take 70 = .ok (.iload_n 1, 1) := by decide +kernel
theorem dX11_take_71 : decode cX11_take 71 = .ok (.iadd, 1) := by decide +kernel
theorem dX11_take_72 : decode cX11_take 72 = .ok (.putfield 209, 3) := by decide +kernel
theorem dX11_take_75 : decode cX11_take 75 = .ok (.return_, 1) := by decide +kernel
theorem dX11_begin_0 : decode cX11_begin 0 = .ok (.aload_n 0, 1) := by decide +kernel
theorem dX11_begin_1 : decode cX11_begin 1 = .ok (.iconst 0, 1) := by decide +kernel
theorem dX11_begin_2 : decode cX11_begin 2 = .ok (.putfield 212, 3) := by decide +kernel
theorem dX11_begin_5 : decode cX11_begin 5 = .ok (.return_, 1) := by decide +kernel
theorem dX11_put_0 : decode cX11_put 0 = .ok (.aload_n 0, 1) := by decide +kernel
theorem dX11_put_1 : decode cX11_put 1 = .ok (.getfield 96, 3) := by decide +kernel
theorem dX11_put_4 : decode cX11_put 4 = .ok (.aload_n 0, 1) := by decide +kernel
theorem dX11_put_5 : decode cX11_put 5 = .ok (.getfield 212, 3) := by decide +kernel
theorem dX11_put_8 : decode cX11_put 8 = .ok (.iload_n 1, 1) := by decide +kernel
theorem dX11_put_9 : decode cX11_put 9 = .ok (.iastore, 1) := by decide +kernel
theorem dX11_put_10 : decode cX11_put 10 = .ok (.aload_n 0, 1) := by decide +kernel
theorem dX11_put_11 : decode cX11_put 11 = .ok (.dup, 1) := by decide +kernel
theorem dX11_put_12 : decode cX11_put 12 = .ok (.getfield 212, 3) := by decide +kernel
theorem dX11_put_15 : decode cX11_put 15 = .ok (.iconst 1, 1) := by decide +kernel
theorem dX11_put_16 : decode cX11_put 16 = .ok (.iadd, 1) := by decide +kernel
theorem dX11_put_17 : decode cX11_put 17 = .ok (.putfield 212, 3) := by decide +kernel
theorem dX11_put_20 : decode cX11_put 20 = .ok (.return_, 1) := by decide +kernel
theorem dX11_put__0 : decode cX11_put_ 0 = .ok (.iconst 0, 1) := by decide +kernel
theorem dX11_put__1 : decode cX11_put_ 1 = .ok (.istore_n 3, 1) := by decide +kernel
theorem dX11_put__2 : decode cX11_put_ 2 = .ok (.iload_n 3, 1) := by decide +kernel
theorem dX11_put__3 : decode cX11_put_ 3 = .ok (.iload_n 2, 1) := by decide +kernel
theorem dX11_put__4 : decode cX11_put_ 4 = .ok (.if_icmp .ge 16, 3) := by decide +kernel
theorem dX11_put__7 : decode cX11_put_ 7 = .ok (.aload_n 0, 1) := by decide +kernel
theorem dX11_put__8 : decode cX11_put_ 8 = .ok (.aload_n 1, 1) := by decide +kernel
theorem dX11_put__9 : decode cX11_put_ 9 = .ok (.iload_n 3, 1) := by decide +kernel
theorem dX11_put__10 : decode cX11_put_ 10 = .ok (.iaload, 1) := by decide +kernel
theorem dX11_put__11 : decode cX11_put_ 11 = .ok (.invokevirtual 215, 3) := by decide +kernel
theorem dX11_put__14 : decode cX11_put_ 14 = .ok (.iinc 3 1, 3) := by decide +kernel
theorem dX11_put__17 : decode cX11_put_ 17 = .ok (.goto (-15), 3) := by decide +kernel
theorem dX11_put__20 : decode cX11_put_ 20 = .ok (.return_, 1) := by decide +kernel
theorem dX11_adds_0 : decode cX11_adds 0 = .ok (.iconst 0, 1) := by decide +kernel
theorem dX11_adds_1 : decode cX11_adds 1 = .ok (.istore 4, 2) := by decide +kernel
theorem dX11_adds_3 : decode cX11_adds 3 = .ok (.iconst 0, 1) := by decide +kernel
theorem dX11_adds_4 : decode cX11_adds 4 = .ok (.istore 5, 2) := by decide +kernel
theorem dX11_adds_6 : decode cX11_adds 6 = .ok (.iload 5, 2) := by decide +kernel
theorem dX11_adds_8 : decode cX11_adds 8 = .ok (.iload_n 1, 1) := by decide +kernel
theorem dX11_adds_9 : decode cX11_adds 9 = .ok (.if_icmp .ge 62, 3) := by decide +kernel
theorem dX11_adds_12 : decode cX11_adds 12 = .ok (.aload_n 0, 1) := by decide +kernel
theorem dX11_adds_13 : decode cX11_adds 13 = .ok (.iload_n 1, 1) := by decide +kernel
theorem dX11_adds_14 : decode cX11_adds 14 = .ok (.iconst 1, 1) := by decide +kernel
theorem dX11_adds_15 : decode cX11_adds 15 = .ok (.isub, 1) := by decide +kernel
theorem dX11_adds_16 : decode cX11_adds 16 = .ok (.iload 5, 2) := by decide +kernel
theorem dX11_adds_18 : decode cX11_adds 18 = .ok (.isub, 1) := by decide +kernel
theorem dX11_adds_19 : decode cX11_adds 19 = .ok (.iaload, 1) := by decide +kernel
theorem dX11_adds_20 : decode cX11_adds 20 = .ok (.iload 5, 2) := by decide +kernel
theorem dX11_adds_22 : decode cX11_adds 22 = .ok (.iload_n 3, 1) := by decide +kernel
theorem dX11_adds_23 : decode cX11_adds 23 = .ok (.if_icmp .ge 14, 3) := by decide +kernel
theorem dX11_adds_26 : decode cX11_adds 26 = .ok (.aload_n 2, 1) := by decide +kernel
theorem dX11_adds_27 : decode cX11_adds 27 = .ok (.iload_n 3, 1) := by decide +kernel
theorem dX11_adds_28 : decode cX11_adds 28 = .ok (.iconst 1, 1) := by decide +kernel
theorem dX11_adds_29 : decode cX11_adds 29 = .ok (.isub, 1) := by decide +kernel
theorem dX11_adds_30 : decode cX11_adds 30 = .ok (.iload 5, 2) := by decide +kernel
theorem dX11_adds_32 : decode cX11_adds 32 = .ok (.isub, 1) := by decide +kernel
theorem dX11_adds_33 : decode cX11_adds 33 = .ok (.iaload, 1) := by decide +kernel
theorem dX11_adds_34 : decode cX11_adds 34 = .ok (.goto 4, 3) := by decide +kernel
theorem dX11_adds_37 : decode cX11_adds 37 = .ok (.iconst 0, 1) := by decide +kernel
theorem dX11_adds_38 : decode cX11_adds 38 = .ok (.iadd, 1) := by decide +kernel
theorem dX11_adds_39 : decode cX11_adds 39 = .ok (.iload 4, 2) := by decide +kernel
theorem dX11_adds_41 : decode cX11_adds 41 = .ok (.iadd, 1) := by decide +kernel
theorem dX11_adds_42 : decode cX11_adds 42 = .ok (.istore 6, 2) := by decide +kernel
theorem dX11_adds_44 : decode cX11_adds 44 = .ok (.aload_n 0, 1) := by decide +kernel
theorem dX11_adds_45 : decode cX11_adds 45 = .ok (.iload_n 1, 1) := by decide +kernel
theorem dX11_adds_46 : decode cX11_adds 46 = .ok (.iconst 1, 1) := by decide +kernel
theorem dX11_adds_47 : decode cX11_adds 47 = .ok (.isub, 1) := by decide +kernel
theorem dX11_adds_48 : decode cX11_adds 48 = .ok (.iload 5, 2) := by decide +kernel
theorem dX11_adds_50 : decode cX11_adds 50 = .ok (.isub, 1) := by decide +kernel
theorem dX11_adds_51 : decode cX11_adds 51 = .ok (.iload 6, 2) := by decide +kernel
theorem dX11_adds_53 : decode cX11_adds 53 = .ok (.sipush 255, 3) := by decide +kernel
theorem dX11_adds_56 : decode cX11_adds 56 = .ok (.iand, 1) := by decide +kernel
theorem dX11_adds_57 : decode cX11_adds 57 = .ok (.iastore, 1) := by decide +kernel
theorem dX11_adds_58 : decode cX11_adds 58 = .ok (.iload 6, 2) := by decide +kernel
theorem dX11_adds_60 : decode cX11_adds 60 = .ok (.bipush 8, 2) := by decide +kernel
theorem dX11_adds_62 : decode cX11_adds 62 = .ok (.ishr, 1) := by decide +kernel
theorem dX11_adds_63 : decode cX11_adds 63 = .ok (.istore 4, 2) := by decide +kernel
theorem dX11_adds_65 : decode cX11_adds 65 = .ok (.iinc 5 1, 3) := by decide +kernel
theorem dX11_adds_68 : decode cX11_adds 68 = .ok (.goto (-62), 3) := by decide +kernel
theorem dX11_adds_71 : decode cX11_adds 71 = .ok (.return_, 1) := by decide +kernel
theorem dX11_addsNumber_0 : decode cX11_addsNumber 0 = .ok (.aload_n 0, 1) := by decide +kernel
theorem dX11_addsNumber_1 : decode cX11_addsNumber 1 = .ok (.getfield 99, 3) := by decide +kernel
theorem dX11_addsNumber_4 : decode cX11_addsNumber 4 = .ok (.iconst 0, 1) := by decide +kernel
theorem dX11_addsNumber_5 : decode cX11_addsNumber 5 = .ok (.iload_n 3, 1) := by decide +kernel
theorem dX11_addsNumber_6 : decode cX11_addsNumber 6 = .ok (.iconst 4, 1) := by decide +kernel
theorem dX11_addsNumber_7 : decode cX11_addsNumber 7 = .ok (.invokestatic 174, 3) := by decide +kernel
theorem dX11_addsNumber_10 : decode cX11_addsNumber 10 = .ok (.aload_n 1, 1) := by decide +kernel
theorem dX11_addsNumber_11 : decode cX11_addsNumber 11 = .ok (.iload_n 2, 1) := by decide +kernel
theorem dX11_addsNumber_12 : decode cX11_addsNumber 12 = .ok (.aload_n 0, 1) := by decide +kernel
theorem dX11_addsNumber_13 : decode cX11_addsNumber 13 = .ok (.getfield 99, 3) := by decide +kernel
theorem dX11_addsNumber_16 : decode cX11_addsNumber 16 = .ok (.iconst 4, 1) := by decide +kernel
theorem dX11_addsNumber_17 : decode cX11_addsNumber 17 = .ok (.invokestatic 219, 3) := by decide +kernel
theorem dX11_addsNumber_20 : decode cX11_addsNumber 20 = .ok (.return_, 1) := by decide +kernel
theorem dX11_seedDigest_0 : decode cX11_seedDigest 0 = .ok (.aload_n 0, 1) := by decide +kernel
theorem dX11_seedDigest_1 : decode cX11_seedDigest 1 = .ok (.invokevirtual 223, 3) := by decide +kernel
theorem dX11_seedDigest_4 : decode cX11_seedDigest 4 = .ok (.iload_n 2, 1) := by decide +kernel
theorem dX11_seedDigest_5 : decode cX11_seedDigest 5 = .ok (.ifCond .ne 20, 3) := by decide +kernel
theorem dX11_seedDigest_8 : decode cX11_seedDigest 8 = .ok (.aload_n 0, 1) := by decide +kernel
theorem dX11_seedDigest_9 : decode cX11_seedDigest 9 = .ok (.iconst 1, 1) := by decide +kernel
theorem dX11_seedDigest_10 : decode cX11_seedDigest 10 = .ok (.invokevirtual 215, 3) := by decide +kernel
theorem dX11_seedDigest_13 : decode cX11_seedDigest 13 = .ok (.aload_n 0, 1) := by decide +kernel
theorem dX11_seedDigest_14 : decode cX11_seedDigest 14 = .ok (.aload_n 1, 1) := by decide +kernel
theorem dX11_seedDigest_15 : decode cX11_seedDigest 15 = .ok (.getfield 226, 3) := by decide +kernel
theorem dX11_seedDigest_18 : decode cX11_seedDigest 18 = .ok (.aload_n 1, 1) := by decide +kernel
theorem dX11_seedDigest_19 : decode cX11_seedDigest 19 = .ok (.invokevirtual 229, 3) := by decide +kernel
theorem dX11_seedDigest_22 : decode cX11_seedDigest 22 = .ok (.invokevirtual 233, 3) := by decide +kernel
theorem dX11_seedDigest_25 : decode cX11_seedDigest 25 = .ok (.aload_n 0, 1) := by decide +kernel
theorem dX11_seedDigest_26 : decode cX11_seedDigest 26 = .ok (.aload_n 0, 1) := by decide +kernel
theorem dX11_seedDigest_27 : decode cX11_seedDigest 27 = .ok (.getfield 87, 3) := by decide +kernel
theorem dX11_seedDigest_30 : decode cX11_seedDigest 30 = .ok (.iload_n 3, 1) := by decide +kernel
theorem dX11_seedDigest_31 : decode cX11_seedDigest 31 = .ok (.invokevirtual 233, 3) := by decide +kernel
theorem dX11_seedDigest_34 : decode cX11_seedDigest 34 = .ok (.aload_n 0, 1) := by decide +kernel
theorem dX11_seedDigest_35 : decode cX11_seedDigest 35 = .ok (.aload_n 0, 1) := by decide +kernel
theorem dX11_seedDigest_36 : decode cX11_seedDigest 36 = .ok (.getfield 114, 3) := by decide +kernel
theorem dX11_seedDigest_39 : decode cX11_seedDigest 39 = .ok (.iload 4, 2) := by decide +kernel
theorem dX11_seedDigest_41 : decode cX11_seedDigest 41 = .ok (.invokevirtual 233, 3) := by decide +kernel
theorem dX11_seedDigest_44 : decode cX11_seedDigest 44 = .ok (.aload_n 0, 1) := by decide +kernel
theorem dX11_seedDigest_45 : decode cX11_seedDigest 45 = .ok (.aload_n 1, 1) := by decide +kernel
theorem dX11_seedDigest_46 : decode cX11_seedDigest 46 = .ok (.invokevirtual 235, 3) := by decide +kernel
theorem dX11_seedDigest_49 : decode cX11_seedDigest 49 = .ok (.aload_n 0, 1) := by decide +kernel
theorem dX11_seedDigest_50 : decode cX11_seedDigest 50 = .ok (.getfield 96, 3) := by decide +kernel
theorem dX11_seedDigest_53 : decode cX11_seedDigest 53 = .ok (.aload_n 0, 1) := by decide +kernel
theorem dX11_seedDigest_54 : decode cX11_seedDigest 54 = .ok (.getfield 212, 3) := by decide +kernel
theorem dX11_seedDigest_57 : decode cX11_seedDigest 57 = .ok (.aload_n 0, 1) := by decide +kernel
theorem dX11_seedDigest_58 : decode cX11_seedDigest 58 = .ok (.getfield 102, 3) := by decide +kernel
theorem dX11_seedDigest_61 : decode cX11_seedDigest 61 = .ok (.aload_n 1, 1) := by decide +kernel
theorem dX11_seedDigest_62 : decode cX11_seedDigest 62 = .ok (.invokevirtual 229, 3) := by decide +kernel
theorem dX11_seedDigest_65 : decode cX11_seedDigest 65 = .ok (.invokevirtual 239, 3) := by decide +kernel
theorem dX11_seedDigest_68 : decode cX11_seedDigest 68 = .ok (.iconst 0, 1) := by decide +kernel
theorem dX11_seedDigest_69 : decode cX11_seedDigest 69 = .ok (.istore 5, 2) := by decide +kernel
theorem dX11_seedDigest_71 : decode cX11_seedDigest 71 = .ok (.iload 5, 2) := by decide +kernel
theorem dX11_seedDigest_73 : decode cX11_seedDigest 73 = .ok (.aload_n 1, 1) := by decide +kernel
theorem dX11_seedDigest_74 : decode cX11_seedDigest 74 = .ok (.invokevirtual 229, 3) := by decide +kernel
theorem dX11_seedDigest_77 : decode cX11_seedDigest 77 = .ok (.if_icmp .ge 23, 3) := by decide +kernel
theorem dX11_seedDigest_80 : decode cX11_seedDigest 80 = .ok (.aload_n 1, 1) := by decide +kernel
theorem dX11_seedDigest_81 : decode cX11_seedDigest 81 = .ok (.getfield 226, 3) := by decide +kernel
theorem dX11_seedDigest_84 : decode cX11_seedDigest 84 = .ok (.iload 5, 2) := by decide +kernel
theorem dX11_seedDigest_86 : decode cX11_seedDigest 86 = .ok (.aload_n 0, 1) := by decide +kernel
theorem dX11_seedDigest_87 : decode cX11_seedDigest 87 = .ok (.getfield 102, 3) := by decide +kernel
theorem dX11_seedDigest_90 : decode cX11_seedDigest 90 = .ok (.iload 5, 2) := by decide +kernel
theorem dX11_seedDigest_92 : decode cX11_seedDigest 92 = .ok (.iaload, 1) := by decide +kernel
theorem dX11_seedDigest_93 : decode cX11_seedDigest 93 = .ok (.iastore, 1) := by decide +kernel
theorem dX11_seedDigest_94 : decode cX11_seedDigest 94 = .ok (.iinc 5 1, 3) := by decide +kernel
theorem dX11_seedDigest_97 : decode cX11_seedDigest 97 = .ok (.goto (-26), 3) := by decide +kernel
theorem dX11_seedDigest_100 : decode cX11_seedDigest 100 = .ok (.aload_n 0, 1) := by decide +kernel
theorem dX11_seedDigest_101 : decode cX11_seedDigest 101 = .ok (.invokevirtual 223, 3) := by decide +kernel
theorem dX11_seedDigest_104 : decode cX11_seedDigest 104 = .ok (.aload_n 0, 1) := by decide +kernel
theorem dX11_seedDigest_105 : decode cX11_seedDigest 105 = .ok (.iconst 0, 1) := by decide +kernel
theorem dX11_seedDigest_106 : decode cX11_seedDigest 106 = .ok (.invokevirtual 215, 3) := by decide +kernel
theorem dX11_seedDigest_109 : decode cX11_seedDigest 109 = .ok (.aload_n 0, 1) := by decide +kernel
theorem dX11_seedDigest_110 : decode cX11_seedDigest 110 = .ok (.aload_n 1, 1) := by decide +kernel
theorem dX11_seedDigest_111 : decode cX11_seedDigest 111 = .ok (.getfield 226, 3) := by decide +kernel
theorem dX11_seedDigest_114 : decode cX11_seedDigest 114 = .ok (.aload_n 1, 1) := by decide +kernel
theorem dX11_seedDigest_115 : decode cX11_seedDigest 115 = .ok (.invokevirtual 229, 3) := by decide +kernel
theorem dX11_seedDigest_118 : decode cX11_seedDigest 118 = .ok (.invokevirtual 233, 3) := by decide +kernel
theorem dX11_seedDigest_121 : decode cX11_seedDigest 121 = .ok (.aload_n 0, 1) := by decide +kernel
theorem dX11_seedDigest_122 : decode cX11_seedDigest 122 = .ok (.aload_n 1, 1) := by decide +kernel
theorem dX11_seedDigest_123 : decode cX11_seedDigest 123 = .ok (.invokevirtual 235, 3) := by decide +kernel
theorem dX11_seedDigest_126 : decode cX11_seedDigest 126 = .ok (.aload_n 0, 1) := by decide +kernel
theorem dX11_seedDigest_127 : decode cX11_seedDigest 127 = .ok (.getfield 96, 3) := by decide +kernel
theorem dX11_seedDigest_130 : decode cX11_seedDigest 130 = .ok (.aload_n 0, 1) := by decide +kernel
theorem dX11_seedDigest_131 : decode cX11_seedDigest 131 = .ok (.getfield 212, 3) := by decide +kernel
theorem dX11_seedDigest_134 : decode cX11_seedDigest 134 = .ok (.aload_n 1, 1) := by decide +kernel
theorem dX11_seedDigest_135 : decode cX11_seedDigest 135 = .ok (.getfield 243, 3) := by decide +kernel
theorem dX11_seedDigest_138 : decode cX11_seedDigest 138 = .ok (.aload_n 1, 1) := by decide +kernel
theorem dX11_seedDigest_139 : decode cX11_seedDigest 139 = .ok (.invokevirtual 229, 3) := by decide +kernel
theorem dX11_seedDigest_142 : decode cX11_seedDigest 142 = .ok (.invokevirtual 239, 3) := by decide +kernel
theorem dX11_seedDigest_145 : decode cX11_seedDigest 145 = .ok (.return_, 1) := by decide +kernel
theorem dX11_drawDigest_0 : decode cX11_drawDigest 0 = .ok (.aload_n 1, 1) := by decide +kernel
theorem dX11_drawDigest_1 : decode cX11_drawDigest 1 = .ok (.invokevirtual 235, 3) := by decide +kernel
theorem dX11_drawDigest_4 : decode cX11_drawDigest 4 = .ok (.invokestatic 166, 3) := by decide +kernel
theorem dX11_drawDigest_7 : decode cX11_drawDigest 7 = .ok (.istore 4, 2) := by decide +kernel
theorem dX11_drawDigest_9 : decode cX11_drawDigest 9 = .ok (.iload_n 3, 1) := by decide +kernel
theorem dX11_drawDigest_10 : decode cX11_drawDigest 10 = .ok (.ifCond .le 66, 3) := by decide +kernel
theorem dX11_drawDigest_13 : decode cX11_drawDigest 13 = .ok (.aload_n 0, 1) := by decide +kernel
theorem dX11_drawDigest_14 : decode cX11_drawDigest 14 = .ok (.invokevirtual 223, 3) := by decide +kernel
theorem dX11_drawDigest_17 : decode cX11_drawDigest 17 = .ok (.aload_n 0, 1) := by decide +kernel
theorem dX11_drawDigest_18 : decode cX11_drawDigest 18 = .ok (.iconst 2, 1) := by decide +kernel
theorem dX11_drawDigest_19 : decode cX11_drawDigest 19 = .ok (.invokevirtual 215, 3) := by decide +kernel
theorem dX11_drawDigest_22 : decode cX11_drawDigest 22 = .ok (.aload_n 0, 1) := by decide +kernel
theorem dX11_drawDigest_23 : decode cX11_drawDigest 23 = .ok (.aload_n 1, 1) := by decide +kernel
theorem dX11_drawDigest_24 : decode cX11_drawDigest 24 = .ok (.getfield 226, 3) := by decide +kernel
theorem dX11_drawDigest_27 : decode cX11_drawDigest 27 = .ok (.aload_n 1, 1) := by decide +kernel
theorem dX11_drawDigest_28 : decode cX11_drawDigest 28 = .ok (.invokevirtual 229, 3) := by decide +kernel
theorem dX11_drawDigest_31 : decode cX11_drawDigest 31 = .ok (.invokevirtual 233, 3) := by decide +kernel
theorem dX11_drawDigest_34 : decode cX11_drawDigest 34 = .ok (.aload_n 0, 1) := by decide +kernel
theorem dX11_drawDigest_35 : decode cX11_drawDigest 35 = .ok (.aload_n 0, 1) := by decide +kernel
theorem dX11_drawDigest_36 : decode cX11_drawDigest 36 = .ok (.getfield 114, 3) := by decide +kernel
theorem dX11_drawDigest_39 : decode cX11_drawDigest 39 = .ok (.iload_n 3, 1) := by decide +kernel
theorem dX11_drawDigest_40 : decode cX11_drawDigest 40 = .ok (.invokevirtual 233, 3) := by decide +kernel
theorem dX11_drawDigest_43 : decode cX11_drawDigest 43 = .ok (.aload_n 0, 1) := by decide +kernel
theorem dX11_drawDigest_44 : decode cX11_drawDigest 44 = .ok (.aload_n 1, 1) := by decide +kernel
theorem dX11_drawDigest_45 : decode cX11_drawDigest 45 = .ok (.invokevirtual 235, 3) := by decide +kernel
theorem dX11_drawDigest_48 : decode cX11_drawDigest 48 = .ok (.aload_n 0, 1) := by decide +kernel
theorem dX11_drawDigest_49 : decode cX11_drawDigest 49 = .ok (.getfield 96, 3) := by decide +kernel
theorem dX11_drawDigest_52 : decode cX11_drawDigest 52 = .ok (.aload_n 0, 1) := by decide +kernel
theorem dX11_drawDigest_53 : decode cX11_drawDigest 53 = .ok (.getfield 212, 3) := by decide +kernel
theorem dX11_drawDigest_56 : decode cX11_drawDigest 56 = .ok (.invokevirtual 170, 3) := by decide +kernel
theorem dX11_drawDigest_59 : decode cX11_drawDigest 59 = .ok (.aload_n 1, 1) := by decide +kernel
theorem dX11_drawDigest_60 : decode cX11_drawDigest 60 = .ok (.getfield 226, 3) := by decide +kernel
theorem dX11_drawDigest_63 : decode cX11_drawDigest 63 = .ok (.aload_n 1, 1) := by decide +kernel
theorem dX11_drawDigest_64 : decode cX11_drawDigest 64 = .ok (.invokevirtual 229, 3) := by decide +kernel
theorem dX11_drawDigest_67 : decode cX11_drawDigest 67 = .ok (.aload_n 0, 1) := by decide +kernel
theorem dX11_drawDigest_68 : decode cX11_drawDigest 68 = .ok (.getfield 38, 3) := by decide +kernel
theorem dX11_drawDigest_71 : decode cX11_drawDigest 71 = .ok (.iload 4, 2) := by decide +kernel
theorem dX11_drawDigest_73 : decode cX11_drawDigest 73 = .ok (.invokestatic 219, 3) := by decide +kernel
theorem dX11_drawDigest_76 : decode cX11_drawDigest 76 = .ok (.iconst 0, 1) := by decide +kernel
theorem dX11_drawDigest_77 : decode cX11_drawDigest 77 = .ok (.istore 5, 2) := by decide +kernel
theorem dX11_drawDigest_79 : decode cX11_drawDigest 79 = .ok (.iload 5, 2) := by decide +kernel
theorem dX11_drawDigest_81 : decode cX11_drawDigest 81 = .ok (.aload_n 1, 1) := by decide +kernel
theorem dX11_drawDigest_82 : decode cX11_drawDigest 82 = .ok (.invokevirtual 229, 3) := by decide +kernel
theorem dX11_drawDigest_85 : decode cX11_drawDigest 85 = .ok (.if_icmp .ge 23, 3) := by decide +kernel
theorem dX11_drawDigest_88 : decode cX11_drawDigest 88 = .ok (.aload_n 0, 1) := by decide +kernel
theorem dX11_drawDigest_89 : decode cX11_drawDigest 89 = .ok (.getfield 102, 3) := by decide +kernel
theorem dX11_drawDigest_92 : decode cX11_drawDigest 92 = .ok (.iload 5, 2) := by decide +kernel
theorem dX11_drawDigest_94 : decode cX11_drawDigest 94 = .ok (.aload_n 1, 1) := by decide +kernel
theorem dX11_drawDigest_95 : decode cX11_drawDigest 95 = .ok (.getfield 226, 3) := by decide +kernel
theorem dX11_drawDigest_98 : decode cX11_drawDigest 98 = .ok (.iload 5, 2) := by decide +kernel
theorem dX11_drawDigest_100 : decode cX11_drawDigest 100 = .ok (.iaload, 1) := by decide +kernel
theorem dX11_drawDigest_101 : decode cX11_drawDigest 101 = .ok (.iastore, 1) := by decide +kernel
theorem dX11_drawDigest_102 : decode cX11_drawDigest 102 = .ok (.iinc 5 1, 3) := by decide +kernel
theorem dX11_drawDigest_105 : decode cX11_drawDigest 105 = .ok (.goto (-26), 3) := by decide +kernel
theorem dX11_drawDigest_108 : decode cX11_drawDigest 108 = .ok (.iconst 0, 1) := by decide +kernel
theorem dX11_drawDigest_109 : decode cX11_drawDigest 109 = .ok (.istore 5, 2) := by decide +kernel
theorem dX11_drawDigest_111 : decode cX11_drawDigest 111 = .ok (.iload 5, 2) := by decide +kernel
theorem dX11_drawDigest_113 : decode cX11_drawDigest 113 = .ok (.iload_n 2, 1) := by decide +kernel
theorem dX11_drawDigest_114 : decode cX11_drawDigest 114 = .ok (.if_icmp .ge 84, 3) := by decide +kernel
theorem dX11_drawDigest_117 : decode cX11_drawDigest 117 = .ok (.aload_n 0, 1) := by decide +kernel
theorem dX11_drawDigest_118 : decode cX11_drawDigest 118 = .ok (.aload_n 1, 1) := by decide +kernel
theorem dX11_drawDigest_119 : decode cX11_drawDigest 119 = .ok (.invokevirtual 235, 3) := by decide +kernel
theorem dX11_drawDigest_122 : decode cX11_drawDigest 122 = .ok (.aload_n 0, 1) := by decide +kernel
theorem dX11_drawDigest_123 : decode cX11_drawDigest 123 = .ok (.getfield 102, 3) := by decide +kernel
theorem dX11_drawDigest_126 : decode cX11_drawDigest 126 = .ok (.aload_n 1, 1) := by decide +kernel
theorem dX11_drawDigest_127 : decode cX11_drawDigest 127 = .ok (.invokevirtual 229, 3) := by decide +kernel
theorem dX11_drawDigest_130 : decode cX11_drawDigest 130 = .ok (.invokevirtual 170, 3) := by decide +kernel
theorem dX11_drawDigest_133 : decode cX11_drawDigest 133 = .ok (.iconst 0, 1) := by decide +kernel
theorem dX11_drawDigest_134 : decode cX11_drawDigest 134 = .ok (.istore 6, 2) := by decide +kernel
theorem dX11_drawDigest_136 : decode cX11_drawDigest 136 = .ok (.iload 6, 2) := by decide +kernel
theorem dX11_drawDigest_138 : decode cX11_drawDigest 138 = .ok (.iload 4, 2) := by decide +kernel
theorem dX11_drawDigest_140 : decode cX11_drawDigest 140 = .ok (.if_icmp .ge 35, 3) := by decide +kernel
theorem dX11_drawDigest_143 : decode cX11_drawDigest 143 = .ok (.iload 5, 2) := by decide +kernel
theorem dX11_drawDigest_145 : decode cX11_drawDigest 145 = .ok (.iload 6, 2) := by decide +kernel
theorem dX11_drawDigest_147 : decode cX11_drawDigest 147 = .ok (.iadd, 1) := by decide +kernel
theorem dX11_drawDigest_148 : decode cX11_drawDigest 148 = .ok (.iload_n 2, 1) := by decide +kernel
theorem dX11_drawDigest_149 : decode cX11_drawDigest 149 = .ok (.if_icmp .ge 26, 3) := by decide +kernel
theorem dX11_drawDigest_152 : decode cX11_drawDigest 152 = .ok (.aload_n 0, 1) := by decide +kernel
theorem dX11_drawDigest_153 : decode cX11_drawDigest 153 = .ok (.getfield 117, 3) := by decide +kernel
theorem dX11_drawDigest_156 : decode cX11_drawDigest 156 = .ok (.iload 5, 2) := by decide +kernel
theorem dX11_drawDigest_158 : decode cX11_drawDigest 158 = .ok (.iload 6, 2) := by decide +kernel
theorem dX11_drawDigest_160 : decode cX11_drawDigest 160 = .ok (.iadd, 1) := by decide +kernel
theorem dX11_drawDigest_161 : decode cX11_drawDigest 161 = .ok (.aload_n 0, 1) := by decide +kernel
theorem dX11_drawDigest_162 : decode cX11_drawDigest 162 = .ok (.getfield 38, 3) := by decide +kernel
theorem dX11_drawDigest_165 : decode cX11_drawDigest 165 = .ok (.iload 6, 2) := by decide +kernel
theorem dX11_drawDigest_167 : decode cX11_drawDigest 167 = .ok (.iaload, 1) := by decide +kernel
theorem dX11_drawDigest_168 : decode cX11_drawDigest 168 = .ok (.iastore, 1) := by decide +kernel
theorem dX11_drawDigest_169 : decode cX11_drawDigest 169 = .ok (.iinc 6 1, 3) := by decide +kernel
theorem dX11_drawDigest_172 : decode cX11_drawDigest 172 = .ok (.goto (-36), 3) := by decide +kernel
theorem dX11_drawDigest_175 : decode cX11_drawDigest 175 = .ok (.aload_n 0, 1) := by decide +kernel
theorem dX11_drawDigest_176 : decode cX11_drawDigest 176 = .ok (.aload_n 0, 1) := by decide +kernel
theorem dX11_drawDigest_177 : decode cX11_drawDigest 177 = .ok (.getfield 102, 3) := by decide +kernel
theorem dX11_drawDigest_180 : decode cX11_drawDigest 180 = .ok (.aload_n 1, 1) := by decide +kernel
theorem dX11_drawDigest_181 : decode cX11_drawDigest 181 = .ok (.invokevirtual 229, 3) := by decide +kernel
theorem dX11_drawDigest_184 : decode cX11_drawDigest 184 = .ok (.iconst 1, 1) := by decide +kernel
theorem dX11_drawDigest_185 : decode cX11_drawDigest 185 = .ok (.invokevirtual 246, 3) := by decide +kernel
theorem dX11_drawDigest_188 : decode cX11_drawDigest 188 = .ok (.iload 5, 2) := by decide +kernel
theorem dX11_drawDigest_190 : decode cX11_drawDigest 190 = .ok (.iload 4, 2) := by decide +kernel
theorem dX11_drawDigest_192 : decode cX11_drawDigest 192 = .ok (.iadd, 1) := by decide +kernel
theorem dX11_drawDigest_193 : decode cX11_drawDigest 193 = .ok (.istore 5, 2) := by decide +kernel
theorem dX11_drawDigest_195 : decode cX11_drawDigest 195 = .ok (.goto (-84), 3) := by decide +kernel
theorem dX11_drawDigest_198 : decode cX11_drawDigest 198 = .ok (.aload_n 0, 1) := by decide +kernel
theorem dX11_drawDigest_199 : decode cX11_drawDigest 199 = .ok (.invokevirtual 223, 3) := by decide +kernel
theorem dX11_drawDigest_202 : decode cX11_drawDigest 202 = .ok (.aload_n 0, 1) := by decide +kernel
theorem dX11_drawDigest_203 : decode cX11_drawDigest 203 = .ok (.iconst 3, 1) := by decide +kernel
theorem dX11_drawDigest_204 : decode cX11_drawDigest 204 = .ok (.invokevirtual 215, 3) := by decide +kernel
theorem dX11_drawDigest_207 : decode cX11_drawDigest 207 = .ok (.aload_n 0, 1) := by decide +kernel
theorem dX11_drawDigest_208 : decode cX11_drawDigest 208 = .ok (.aload_n 1, 1) := by decide +kernel
theorem dX11_drawDigest_209 : decode cX11_drawDigest 209 = .ok (.getfield 226, 3) := by decide +kernel
theorem dX11_drawDigest_212 : decode cX11_drawDigest 212 = .ok (.aload_n 1, 1) := by decide +kernel
theorem dX11_drawDigest_213 : decode cX11_drawDigest 213 = .ok (.invokevirtual 229, 3) := by decide +kernel
theorem dX11_drawDigest_216 : decode cX11_drawDigest 216 = .ok (.invokevirtual 233, 3) := by decide +kernel
theorem dX11_drawDigest_219 : decode cX11_drawDigest 219 = .ok (.aload_n 0, 1) := by decide +kernel
theorem dX11_drawDigest_220 : decode cX11_drawDigest 220 = .ok (.aload_n 1, 1) := by decide +kernel
theorem dX11_drawDigest_221 : decode cX11_drawDigest 221 = .ok (.invokevirtual 235, 3) := by decide +kernel
theorem dX11_drawDigest_224 : decode cX11_drawDigest 224 = .ok (.aload_n 0, 1) := by decide +kernel
theorem dX11_drawDigest_225 : decode cX11_drawDigest 225 = .ok (.getfield 96, 3) := by decide +kernel
theorem dX11_drawDigest_228 : decode cX11_drawDigest 228 = .ok (.aload_n 0, 1) := by decide +kernel
theorem dX11_drawDigest_229 : decode cX11_drawDigest 229 = .ok (.getfield 212, 3) := by decide +kernel
theorem dX11_drawDigest_232 : decode cX11_drawDigest 232 = .ok (.invokevirtual 170, 3) := by decide +kernel
theorem dX11_drawDigest_235 : decode cX11_drawDigest 235 = .ok (.aload_n 1, 1) := by decide +kernel
theorem dX11_drawDigest_236 : decode cX11_drawDigest 236 = .ok (.getfield 226, 3) := by decide +kernel
theorem dX11_drawDigest_239 : decode cX11_drawDigest 239 = .ok (.aload_n 1, 1) := by decide +kernel
theorem dX11_drawDigest_240 : decode cX11_drawDigest 240 = .ok (.invokevirtual 229, 3) := by decide +kernel
theorem dX11_drawDigest_243 : decode cX11_drawDigest 243 = .ok (.aload_n 0, 1) := by decide +kernel
theorem dX11_drawDigest_244 : decode cX11_drawDigest 244 = .ok (.getfield 38, 3) := by decide +kernel
theorem dX11_drawDigest_247 : decode cX11_drawDigest 247 = .ok (.iload 4, 2) := by decide +kernel
theorem dX11_drawDigest_249 : decode cX11_drawDigest 249 = .ok (.invokestatic 219, 3) := by decide +kernel
theorem dX11_drawDigest_252 : decode cX11_drawDigest 252 = .ok (.aload_n 1, 1) := by decide +kernel
theorem dX11_drawDigest_253 : decode cX11_drawDigest 253 = .ok (.getfield 226, 3) := by decide +kernel
theorem dX11_drawDigest_256 : decode cX11_drawDigest 256 = .ok (.aload_n 1, 1) := by decide +kernel
theorem dX11_drawDigest_257 : decode cX11_drawDigest 257 = .ok (.invokevirtual 229, 3) := by decide +kernel
theorem dX11_drawDigest_260 : decode cX11_drawDigest 260 = .ok (.aload_n 1, 1) := by decide +kernel
theorem dX11_drawDigest_261 : decode cX11_drawDigest 261 = .ok (.getfield 243, 3) := by decide +kernel
theorem dX11_drawDigest_264 : decode cX11_drawDigest 264 = .ok (.aload_n 1, 1) := by decide +kernel
theorem dX11_drawDigest_265 : decode cX11_drawDigest 265 = .ok (.invokevirtual 229, 3) := by decide +kernel
theorem dX11_drawDigest_268 : decode cX11_drawDigest 268 = .ok (.invokestatic 219, 3) := by decide +kernel
theorem dX11_drawDigest_271 : decode cX11_drawDigest 271 = .ok (.aload_n 0, 1) := by decide +kernel
theorem dX11_drawDigest_272 : decode cX11_drawDigest 272 = .ok (.aload_n 1, 1) := by decide +kernel
theorem dX11_drawDigest_273 : decode cX11_drawDigest 273 = .ok (.getfield 226, 3) := by decide +kernel
theorem dX11_drawDigest_276 : decode cX11_drawDigest 276 = .ok (.aload_n 1, 1) := by decide +kernel
theorem dX11_drawDigest_277 : decode cX11_drawDigest 277 = .ok (.invokevirtual 229, 3) := by decide +kernel
theorem dX11_drawDigest_280 : decode cX11_drawDigest 280 = .ok (.aload_n 1, 1) := by decide +kernel
theorem dX11_drawDigest_281 : decode cX11_drawDigest 281 = .ok (.getfield 250, 3) := by decide +kernel
theorem dX11_drawDigest_284 : decode cX11_drawDigest 284 = .ok (.invokevirtual 246, 3) := by decide +kernel
theorem dX11_drawDigest_287 : decode cX11_drawDigest 287 = .ok (.return_, 1) := by decide +kernel
theorem dX11_mixMac_0 : decode cX11_mixMac 0 = .ok (.aload_n 1, 1) := by decide +kernel
theorem dX11_mixMac_1 : decode cX11_mixMac 1 = .ok (.invokevirtual 229, 3) := by decide +kernel
theorem dX11_mixMac_4 : decode cX11_mixMac 4 = .ok (.istore_n 3, 1) := by decide +kernel
theorem dX11_mixMac_5 : decode cX11_mixMac 5 = .ok (.iconst 0, 1) := by decide +kernel
theorem dX11_mixMac_6 : decode cX11_mixMac 6 = .ok (.istore 4, 2) := by decide +kernel
theorem dX11_mixMac_8 : decode cX11_mixMac 8 = .ok (.iload 4, 2) := by decide +kernel
theorem dX11_mixMac_10 : decode cX11_mixMac 10 = .ok (.iload_n 2, 1) := by decide +kernel
theorem dX11_mixMac_11 : decode cX11_mixMac 11 = .ok (.ifCond .le 7, 3) := by decide +kernel
theorem dX11_mixMac_14 : decode cX11_mixMac 14 = .ok (.iconst 2, 1) := by decide +kernel
theorem dX11_mixMac_15 : decode cX11_mixMac 15 = .ok (.goto 4, 3) := by decide +kernel
theorem dX11_mixMac_18 : decode cX11_mixMac 18 = .ok (.iconst 1, 1) := by decide +kernel
theorem dX11_mixMac_19 : decode cX11_mixMac 19 = .ok (.if_icmp .ge 91, 3) := by decide +kernel
theorem dX11_mixMac_22 : decode cX11_mixMac 22 = .ok (.aload_n 0, 1) := by decide +kernel
theorem dX11_mixMac_23 : decode cX11_mixMac 23 = .ok (.invokevirtual 223, 3) := by decide +kernel
theorem dX11_mixMac_26 : decode cX11_mixMac 26 = .ok (.aload_n 0, 1) := by decide +kernel
theorem dX11_mixMac_27 : decode cX11_mixMac 27 = .ok (.aload_n 1, 1) := by decide +kernel
theorem dX11_mixMac_28 : decode cX11_mixMac 28 = .ok (.getfield 226, 3) := by decide +kernel
theorem dX11_mixMac_31 : decode cX11_mixMac 31 = .ok (.iload_n 3, 1) := by decide +kernel
theorem dX11_mixMac_32 : decode cX11_mixMac 32 = .ok (.invokevirtual 233, 3) := by decide +kernel
theorem dX11_mixMac_35 : decode cX11_mixMac 35 = .ok (.aload_n 0, 1) := by decide +kernel
theorem dX11_mixMac_36 : decode cX11_mixMac 36 = .ok (.iload 4, 2) := by decide +kernel
theorem dX11_mixMac_38 : decode cX11_mixMac 38 = .ok (.invokevirtual 215, 3) := by decide +kernel
theorem dX11_mixMac_41 : decode cX11_mixMac 41 = .ok (.aload_n 0, 1) := by decide +kernel
theorem dX11_mixMac_42 : decode cX11_mixMac 42 = .ok (.aload_n 0, 1) := by decide +kernel
theorem dX11_mixMac_43 : decode cX11_mixMac 43 = .ok (.getfield 105, 3) := by decide +kernel
theorem dX11_mixMac_46 : decode cX11_mixMac 46 = .ok (.iload_n 2, 1) := by decide +kernel
theorem dX11_mixMac_47 : decode cX11_mixMac 47 = .ok (.invokevirtual 233, 3) := by decide +kernel
theorem dX11_mixMac_50 : decode cX11_mixMac 50 = .ok (.aload_n 0, 1) := by decide +kernel
theorem dX11_mixMac_51 : decode cX11_mixMac 51 = .ok (.aload_n 1, 1) := by decide +kernel
theorem dX11_mixMac_52 : decode cX11_mixMac 52 = .ok (.invokevirtual 235, 3) := by decide +kernel
theorem dX11_mixMac_55 : decode cX11_mixMac 55 = .ok (.aload_n 1, 1) := by decide +kernel
theorem dX11_mixMac_56 : decode cX11_mixMac 56 = .ok (.getfield 243, 3) := by decide +kernel
theorem dX11_mixMac_59 : decode cX11_mixMac 59 = .ok (.aload_n 0, 1) := by decide +kernel
theorem dX11_mixMac_60 : decode cX11_mixMac 60 = .ok (.getfield 96, 3) := by decide +kernel
theorem dX11_mixMac_63 : decode cX11_mixMac 63 = .ok (.aload_n 0, 1) := by decide +kernel
theorem dX11_mixMac_64 : decode cX11_mixMac 64 = .ok (.getfield 212, 3) := by decide +kernel
theorem dX11_mixMac_67 : decode cX11_mixMac 67 = .ok (.invokevirtual 253, 3) := by decide +kernel
theorem dX11_mixMac_70 : decode cX11_mixMac 70 = .ok (.iconst 0, 1) := by decide +kernel
theorem dX11_mixMac_71 : decode cX11_mixMac 71 = .ok (.istore 5, 2) := by decide +kernel
theorem dX11_mixMac_73 : decode cX11_mixMac 73 = .ok (.iload 5, 2) := by decide +kernel
theorem dX11_mixMac_75 : decode cX11_mixMac 75 = .ok (.iload_n 3, 1) := by decide +kernel
theorem dX11_mixMac_76 : decode cX11_mixMac 76 = .ok (.if_icmp .ge 23, 3) := by decide +kernel
theorem dX11_mixMac_79 : decode cX11_mixMac 79 = .ok (.aload_n 1, 1) := by decide +kernel
theorem dX11_mixMac_80 : decode cX11_mixMac 80 = .ok (.getfield 243, 3) := by decide +kernel
theorem dX11_mixMac_83 : decode cX11_mixMac 83 = .ok (.iload 5, 2) := by decide +kernel
theorem dX11_mixMac_85 : decode cX11_mixMac 85 = .ok (.aload_n 0, 1) := by decide +kernel
theorem dX11_mixMac_86 : decode cX11_mixMac 86 = .ok (.getfield 38, 3) := by decide +kernel
theorem dX11_mixMac_89 : decode cX11_mixMac 89 = .ok (.iload 5, 2) := by decide +kernel
theorem dX11_mixMac_91 : decode cX11_mixMac 91 = .ok (.iaload, 1) := by decide +kernel
theorem dX11_mixMac_92 : decode cX11_mixMac 92 = .ok (.iastore, 1) := by decide +kernel
theorem dX11_mixMac_93 : decode cX11_mixMac 93 = .ok (.iinc 5 1, 3) := by decide +kernel
theorem dX11_mixMac_96 : decode cX11_mixMac 96 = .ok (.goto (-23), 3) := by decide +kernel
theorem dX11_mixMac_99 : decode cX11_mixMac 99 = .ok (.aload_n 0, 1) := by decide +kernel
theorem dX11_mixMac_100 : decode cX11_mixMac 100 = .ok (.aload_n 1, 1) := by decide +kernel
theorem dX11_mixMac_101 : decode cX11_mixMac 101 = .ok (.invokevirtual 257, 3) := by decide +kernel
theorem dX11_mixMac_104 : decode cX11_mixMac 104 = .ok (.iinc 4 1, 3) := by decide +kernel
theorem dX11_mixMac_107 : decode cX11_mixMac 107 = .ok (.goto (-99), 3) := by decide +kernel
theorem dX11_mixMac_110 : decode cX11_mixMac 110 = .ok (.return_, 1) := by decide +kernel
theorem dX11_step_0 : decode cX11_step 0 = .ok (.aload_n 0, 1) := by decide +kernel
theorem dX11_step_1 : decode cX11_step 1 = .ok (.aload_n 1, 1) := by decide +kernel
theorem dX11_step_2 : decode cX11_step 2 = .ok (.invokevirtual 235, 3) := by decide +kernel
theorem dX11_step_5 : decode cX11_step 5 = .ok (.aload_n 1, 1) := by decide +kernel
theorem dX11_step_6 : decode cX11_step 6 = .ok (.getfield 243, 3) := by decide +kernel
theorem dX11_step_9 : decode cX11_step 9 = .ok (.aload_n 1, 1) := by decide +kernel
theorem dX11_step_10 : decode cX11_step 10 = .ok (.getfield 226, 3) := by decide +kernel
theorem dX11_step_13 : decode cX11_step 13 = .ok (.aload_n 1, 1) := by decide +kernel
theorem dX11_step_14 : decode cX11_step 14 = .ok (.invokevirtual 229, 3) := by decide +kernel
theorem dX11_step_17 : decode cX11_step 17 = .ok (.invokevirtual 253, 3) := by decide +kernel
theorem dX11_step_20 : decode cX11_step 20 = .ok (.iconst 0, 1) := by decide +kernel
theorem dX11_step_21 : decode cX11_step 21 = .ok (.istore_n 2, 1) := by decide +kernel
theorem dX11_step_22 : decode cX11_step 22 = .ok (.iload_n 2, 1) := by decide +kernel
theorem dX11_step_23 : decode cX11_step 23 = .ok (.aload_n 1, 1) := by decide +kernel
theorem dX11_step_24 : decode cX11_step 24 = .ok (.invokevirtual 229, 3) := by decide +kernel
theorem dX11_step_27 : decode cX11_step 27 = .ok (.if_icmp .ge 21, 3) := by decide +kernel
theorem dX11_step_30 : decode cX11_step 30 = .ok (.aload_n 1, 1) := by decide +kernel
theorem dX11_step_31 : decode cX11_step 31 = .ok (.getfield 226, 3) := by decide +kernel
theorem dX11_step_34 : decode cX11_step 34 = .ok (.iload_n 2, 1) := by decide +kernel
theorem dX11_step_35 : decode cX11_step 35 = .ok (.aload_n 0, 1) := by decide +kernel
theorem dX11_step_36 : decode cX11_step 36 = .ok (.getfield 38, 3) := by decide +kernel
theorem dX11_step_39 : decode cX11_step 39 = .ok (.iload_n 2, 1) := by decide +kernel
theorem dX11_step_40 : decode cX11_step 40 = .ok (.iaload, 1) := by decide +kernel
theorem dX11_step_41 : decode cX11_step 41 = .ok (.iastore, 1) := by decide +kernel
theorem dX11_step_42 : decode cX11_step 42 = .ok (.iinc 2 1, 3) := by decide +kernel
theorem dX11_step_45 : decode cX11_step 45 = .ok (.goto (-23), 3) := by decide +kernel
theorem dX11_step_48 : decode cX11_step 48 = .ok (.return_, 1) := by decide +kernel
theorem dX11_drawMac_0 : decode cX11_drawMac 0 = .ok (.aload_n 1, 1) := by decide +kernel
theorem dX11_drawMac_1 : decode cX11_drawMac 1 = .ok (.invokevirtual 229, 3) := by decide +kernel
theorem dX11_drawMac_4 : decode cX11_drawMac 4 = .ok (.istore 4, 2) := by decide +kernel
theorem dX11_drawMac_6 : decode cX11_drawMac 6 = .ok (.iconst 0, 1) := by decide +kernel
theorem dX11_drawMac_7 : decode cX11_drawMac 7 = .ok (.istore 5, 2) := by decide +kernel
theorem dX11_drawMac_9 : decode cX11_drawMac 9 = .ok (.iload 5, 2) := by decide +kernel
theorem dX11_drawMac_11 : decode cX11_drawMac 11 = .ok (.iload_n 3, 1) := by decide +kernel
theorem dX11_drawMac_12 : decode cX11_drawMac 12 = .ok (.if_icmp .ge 23, 3) := by decide +kernel
theorem dX11_drawMac_15 : decode cX11_drawMac 15 = .ok (.aload_n 0, 1) := by decide +kernel
theorem dX11_drawMac_16 : decode cX11_drawMac 16 = .ok (.getfield 105, 3) := by decide +kernel
theorem dX11_drawMac_19 : decode cX11_drawMac 19 = .ok (.iload 5, 2) := by decide +kernel
theorem dX11_drawMac_21 : decode cX11_drawMac 21 = .ok (.aload_n 0, 1) := by decide +kernel
theorem dX11_drawMac_22 : decode cX11_drawMac 22 = .ok (.getfield 114, 3) := by decide +kernel
theorem dX11_drawMac_25 : decode cX11_drawMac 25 = .ok (.iload 5, 2) := by decide +kernel
theorem dX11_drawMac_27 : decode cX11_drawMac 27 = .ok (.iaload, 1) := by decide +kernel
theorem dX11_drawMac_28 : decode cX11_drawMac 28 = .ok (.iastore, 1) := by decide +kernel
theorem dX11_drawMac_29 : decode cX11_drawMac 29 = .ok (.iinc 5 1, 3) := by decide +kernel
theorem dX11_drawMac_32 : decode cX11_drawMac 32 = .ok (.goto (-23), 3) := by decide +kernel
theorem dX11_drawMac_35 : decode cX11_drawMac 35 = .ok (.iload_n 3, 1) := by decide +kernel
theorem dX11_drawMac_36 : decode cX11_drawMac 36 = .ok (.ifCond .le 9, 3) := by decide +kernel
theorem dX11_drawMac_39 : decode cX11_drawMac 39 = .ok (.aload_n 0, 1) := by decide +kernel
theorem dX11_drawMac_40 : decode cX11_drawMac 40 = .ok (.aload_n 1, 1) := by decide +kernel
theorem dX11_drawMac_41 : decode cX11_drawMac 41 = .ok (.iload_n 3, 1) := by decide +kernel
theorem dX11_drawMac_42 : decode cX11_drawMac 42 = .ok (.invokevirtual 261, 3) := by decide +kernel
theorem dX11_drawMac_45 : decode cX11_drawMac 45 = .ok (.iconst 0, 1) := by decide +kernel
theorem dX11_drawMac_46 : decode cX11_drawMac 46 = .ok (.istore 5, 2) := by decide +kernel
theorem dX11_drawMac_48 : decode cX11_drawMac 48 = .ok (.iload 5, 2) := by decide +kernel
theorem dX11_drawMac_50 : decode cX11_drawMac 50 = .ok (.iload_n 2, 1) := by decide +kernel
theorem dX11_drawMac_51 : decode cX11_drawMac 51 = .ok (.if_icmp .ge 60, 3) := by decide +kernel
theorem dX11_drawMac_54 : decode cX11_drawMac 54 = .ok (.aload_n 0, 1) := by decide +kernel
theorem dX11_drawMac_55 : decode cX11_drawMac 55 = .ok (.aload_n 1, 1) := by decide +kernel
theorem dX11_drawMac_56 : decode cX11_drawMac 56 = .ok (.invokevirtual 257, 3) := by decide +kernel
theorem dX11_drawMac_59 : decode cX11_drawMac 59 = .ok (.iconst 0, 1) := by decide +kernel
theorem dX11_drawMac_60 : decode cX11_drawMac 60 = .ok (.istore 6, 2) := by decide +kernel
theorem dX11_drawMac_62 : decode cX11_drawMac 62 = .ok (.iload 6, 2) := by decide +kernel
theorem dX11_drawMac_64 : decode cX11_drawMac 64 = .ok (.iload 4, 2) := by decide +kernel
theorem dX11_drawMac_66 : decode cX11_drawMac 66 = .ok (.if_icmp .ge 35, 3) := by decide +kernel
theorem dX11_drawMac_69 : decode cX11_drawMac 69 = .ok (.iload 5, 2) := by decide +kernel
theorem dX11_drawMac_71 : decode cX11_drawMac 71 = .ok (.iload 6, 2) := by decide +kernel
theorem dX11_drawMac_73 : decode cX11_drawMac 73 = .ok (.iadd, 1) := by decide +kernel
theorem dX11_drawMac_74 : decode cX11_drawMac 74 = .ok (.iload_n 2, 1) := by decide +kernel
theorem dX11_drawMac_75 : decode cX11_drawMac 75 = .ok (.if_icmp .ge 26, 3) := by decide +kernel
theorem dX11_drawMac_78 : decode cX11_drawMac 78 = .ok (.aload_n 0, 1) := by decide +kernel
theorem dX11_drawMac_79 : decode cX11_drawMac 79 = .ok (.getfield 117, 3) := by decide +kernel
theorem dX11_drawMac_82 : decode cX11_drawMac 82 = .ok (.iload 5, 2) := by decide +kernel
theorem dX11_drawMac_84 : decode cX11_drawMac 84 = .ok (.iload 6, 2) := by decide +kernel
theorem dX11_drawMac_86 : decode cX11_drawMac 86 = .ok (.iadd, 1) := by decide +kernel
theorem dX11_drawMac_87 : decode cX11_drawMac 87 = .ok (.aload_n 1, 1) := by decide +kernel
theorem dX11_drawMac_88 : decode cX11_drawMac 88 = .ok (.getfield 226, 3) := by decide +kernel
theorem dX11_drawMac_91 : decode cX11_drawMac 91 = .ok (.iload 6, 2) := by decide +kernel
theorem dX11_drawMac_93 : decode cX11_drawMac 93 = .ok (.iaload, 1) := by decide +kernel
theorem dX11_drawMac_94 : decode cX11_drawMac 94 = .ok (.iastore, 1) := by decide +kernel
theorem dX11_drawMac_95 : decode cX11_drawMac 95 = .ok (.iinc 6 1, 3) := by decide +kernel
theorem dX11_drawMac_98 : decode cX11_drawMac 98 = .ok (.goto (-36), 3) := by decide +kernel
theorem dX11_drawMac_101 : decode cX11_drawMac 101 = .ok (.iload 5, 2) := by decide +kernel
theorem dX11_drawMac_103 : decode cX11_drawMac 103 = .ok (.iload 4, 2) := by decide +kernel
theorem dX11_drawMac_105 : decode cX11_drawMac 105 = .ok (.iadd, 1) := by decide +kernel
theorem dX11_drawMac_106 : decode cX11_drawMac 106 = .ok (.istore 5, 2) := by decide +kernel
theorem dX11_drawMac_108 : decode cX11_drawMac 108 = .ok (.goto (-60), 3) := by decide +kernel
theorem dX11_drawMac_111 : decode cX11_drawMac 111 = .ok (.aload_n 0, 1) := by decide +kernel
theorem dX11_drawMac_112 : decode cX11_drawMac 112 = .ok (.aload_n 1, 1) := by decide +kernel
theorem dX11_drawMac_113 : decode cX11_drawMac 113 = .ok (.iload_n 3, 1) := by decide +kernel
theorem dX11_drawMac_114 : decode cX11_drawMac 114 = .ok (.invokevirtual 261, 3) := by decide +kernel
theorem dX11_drawMac_117 : decode cX11_drawMac 117 = .ok (.return_, 1) := by decide +kernel
theorem dX11_blockNext_0 : decode cX11_blockNext 0 = .ok (.aload_n 0, 1) := by decide +kernel
theorem dX11_blockNext_1 : decode cX11_blockNext 1 = .ok (.aload_n 1, 1) := by decide +kernel
theorem dX11_blockNext_2 : decode cX11_blockNext 2 = .ok (.getfield 226, 3) := by decide +kernel
theorem dX11_blockNext_5 : decode cX11_blockNext 5 = .ok (.bipush 16, 2) := by decide +kernel
theorem dX11_blockNext_7 : decode cX11_blockNext 7 = .ok (.iconst 1, 1) := by decide +kernel
theorem dX11_blockNext_8 : decode cX11_blockNext 8 = .ok (.invokevirtual 246, 3) := by decide +kernel
theorem dX11_blockNext_11 : decode cX11_blockNext 11 = .ok (.iconst 0, 1) := by decide +kernel
theorem dX11_blockNext_12 : decode cX11_blockNext 12 = .ok (.istore_n 2, 1) := by decide +kernel
theorem dX11_blockNext_13 : decode cX11_blockNext 13 = .ok (.iload_n 2, 1) := by decide +kernel
theorem dX11_blockNext_14 : decode cX11_blockNext 14 = .ok (.bipush 16, 2) := by decide +kernel
theorem dX11_blockNext_16 : decode cX11_blockNext 16 = .ok (.if_icmp .ge 21, 3) := by decide +kernel
theorem dX11_blockNext_19 : decode cX11_blockNext 19 = .ok (.aload_n 0, 1) := by decide +kernel
theorem dX11_blockNext_20 : decode cX11_blockNext 20 = .ok (.getfield 108, 3) := by decide +kernel
theorem dX11_blockNext_23 : decode cX11_blockNext 23 = .ok (.iload_n 2, 1) := by decide +kernel
theorem dX11_blockNext_24 : decode cX11_blockNext 24 = .ok (.aload_n 1, 1) := by decide +kernel
theorem dX11_blockNext_25 : decode cX11_blockNext 25 = .ok (.getfield 226, 3) := by decide +kernel
theorem dX11_blockNext_28 : decode cX11_blockNext 28 = .ok (.iload_n 2, 1) := by decide +kernel
theorem dX11_blockNext_29 : decode cX11_blockNext 29 = .ok (.iaload, 1) := by decide +kernel
theorem dX11_blockNext_30 : decode cX11_blockNext 30 = .ok (.iastore, 1) := by decide +kernel
theorem dX11_blockNext_31 : decode cX11_blockNext 31 = .ok (.iinc 2 1, 3) := by decide +kernel
theorem dX11_blockNext_34 : decode cX11_blockNext 34 = .ok (.goto (-21), 3) := by decide +kernel
theorem dX11_blockNext_37 : decode cX11_blockNext 37 = .ok (.aload_n 0, 1) := by decide +kernel
theorem dX11_blockNext_38 : decode cX11_blockNext 38 = .ok (.aload_n 1, 1) := by decide +kernel
theorem dX11_blockNext_39 : decode cX11_blockNext 39 = .ok (.getfield 243, 3) := by decide +kernel
theorem dX11_blockNext_42 : decode cX11_blockNext 42 = .ok (.aload_n 1, 1) := by decide +kernel
theorem dX11_blockNext_43 : decode cX11_blockNext 43 = .ok (.invokevirtual 265, 3) := by decide +kernel
theorem dX11_blockNext_46 : decode cX11_blockNext 46 = .ok (.aload_n 0, 1) := by decide +kernel
theorem dX11_blockNext_47 : decode cX11_blockNext 47 = .ok (.getfield 108, 3) := by decide +kernel
theorem dX11_blockNext_50 : decode cX11_blockNext 50 = .ok (.invokevirtual 186, 3) := by decide +kernel
theorem dX11_blockNext_53 : decode cX11_blockNext 53 = .ok (.return_, 1) := by decide +kernel
theorem dX11_mixCounter_0 : decode cX11_mixCounter 0 = .ok (.iconst 0, 1) := by decide +kernel
theorem dX11_mixCounter_1 : decode cX11_mixCounter 1 = .ok (.istore_n 2, 1) := by decide +kernel
theorem dX11_mixCounter_2 : decode cX11_mixCounter 2 = .ok (.iload_n 2, 1) := by decide +kernel
theorem dX11_mixCounter_3 : decode cX11_mixCounter 3 = .ok (.aload_n 1, 1) := by decide +kernel
theorem dX11_mixCounter_4 : decode cX11_mixCounter 4 = .ok (.invokevirtual 229, 3) := by decide +kernel
theorem dX11_mixCounter_7 : decode cX11_mixCounter 7 = .ok (.if_icmp .ge 51, 3) := by decide +kernel
theorem dX11_mixCounter_10 : decode cX11_mixCounter 10 = .ok (.aload_n 0, 1) := by decide +kernel
theorem dX11_mixCounter_11 : decode cX11_mixCounter 11 = .ok (.aload_n 1, 1) := by decide +kernel
theorem dX11_mixCounter_12 : decode cX11_mixCounter 12 = .ok (.invokevirtual 268, 3) := by decide +kernel
theorem dX11_mixCounter_15 : decode cX11_mixCounter 15 = .ok (.iconst 0, 1) := by decide +kernel
theorem dX11_mixCounter_16 : decode cX11_mixCounter 16 = .ok (.istore_n 3, 1) := by decide +kernel
theorem dX11_mixCounter_17 : decode cX11_mixCounter 17 = .ok (.iload_n 3, 1) := by decide +kernel
theorem dX11_mixCounter_18 : decode cX11_mixCounter 18 = .ok (.bipush 16, 2) := by decide +kernel
theorem dX11_mixCounter_20 : decode cX11_mixCounter 20 = .ok (.if_icmp .ge 32, 3) := by decide +kernel
theorem dX11_mixCounter_23 : decode cX11_mixCounter 23 = .ok (.aload_n 0, 1) := by decide +kernel
theorem dX11_mixCounter_24 : decode cX11_mixCounter 24 = .ok (.getfield 102, 3) := by decide +kernel
theorem dX11_mixCounter_27 : decode cX11_mixCounter 27 = .ok (.iload_n 2, 1) := by decide +kernel
theorem dX11_mixCounter_28 : decode cX11_mixCounter 28 = .ok (.iload_n 3, 1) := by decide +kernel
theorem dX11_mixCounter_29 : decode cX11_mixCounter 29 = .ok (.iadd, 1) := by decide +kernel
theorem dX11_mixCounter_30 : decode cX11_mixCounter 30 = .ok (.aload_n 0, 1) := by decide +kernel
theorem dX11_mixCounter_31 : decode cX11_mixCounter 31 = .ok (.getfield 108, 3) := by decide +kernel
theorem dX11_mixCounter_34 : decode cX11_mixCounter 34 = .ok (.iload_n 3, 1) := by decide +kernel
theorem dX11_mixCounter_35 : decode cX11_mixCounter 35 = .ok (.iaload, 1) := by decide +kernel
theorem dX11_mixCounter_36 : decode cX11_mixCounter 36 = .ok (.aload_n 0, 1) := by decide +kernel
theorem dX11_mixCounter_37 : decode cX11_mixCounter 37 = .ok (.getfield 111, 3) := by decide +kernel
theorem dX11_mixCounter_40 : decode cX11_mixCounter 40 = .ok (.iload_n 2, 1) := by decide +kernel
theorem dX11_mixCounter_41 : decode cX11_mixCounter 41 = .ok (.iload_n 3, 1) := by decide +kernel
theorem dX11_mixCounter_42 : decode cX11_mixCounter 42 = .ok (.iadd, 1) := by decide +kernel
theorem dX11_mixCounter_43 : decode cX11_mixCounter 43 = .ok (.iaload, 1) := by decide +kernel
theorem dX11_mixCounter_44 : decode cX11_mixCounter 44 = .ok (.ixor, 1) := by decide +kernel
theorem dX11_mixCounter_45 : decode cX11_mixCounter 45 = .ok (.iastore, 1) := by decide +kernel
theorem dX11_mixCounter_46 : decode cX11_mixCounter 46 = .ok (.iinc 3 1, 3) := by decide +kernel
theorem dX11_mixCounter_49 : decode cX11_mixCounter 49 = .ok (.goto (-32), 3) := by decide +kernel
theorem dX11_mixCounter_52 : decode cX11_mixCounter 52 = .ok (.iinc 2 16, 3) := by decide +kernel
theorem dX11_mixCounter_55 : decode cX11_mixCounter 55 = .ok (.goto (-53), 3) := by decide +kernel
theorem dX11_mixCounter_58 : decode cX11_mixCounter 58 = .ok (.iconst 0, 1) := by decide +kernel
theorem dX11_mixCounter_59 : decode cX11_mixCounter 59 = .ok (.istore_n 2, 1) := by decide +kernel
theorem dX11_mixCounter_60 : decode cX11_mixCounter 60 = .ok (.iload_n 2, 1) := by decide +kernel
theorem dX11_mixCounter_61 : decode cX11_mixCounter 61 = .ok (.aload_n 1, 1) := by decide +kernel
theorem dX11_mixCounter_62 : decode cX11_mixCounter 62 = .ok (.invokevirtual 265, 3) := by decide +kernel
theorem dX11_mixCounter_65 : decode cX11_mixCounter 65 = .ok (.if_icmp .ge 21, 3) := by decide +kernel
theorem dX11_mixCounter_68 : decode cX11_mixCounter 68 = .ok (.aload_n 1, 1) := by decide +kernel
theorem dX11_mixCounter_69 : decode cX11_mixCounter 69 = .ok (.getfield 243, 3) := by decide +kernel
theorem dX11_mixCounter_72 : decode cX11_mixCounter 72 = .ok (.iload_n 2, 1) := by decide +kernel
theorem dX11_mixCounter_73 : decode cX11_mixCounter 73 = .ok (.aload_n 0, 1) := by decide +kernel
theorem dX11_mixCounter_74 : decode cX11_mixCounter 74 = .ok (.getfield 102, 3) := by decide +kernel
theorem dX11_mixCounter_77 : decode cX11_mixCounter 77 = .ok (.iload_n 2, 1) := by decide +kernel
theorem dX11_mixCounter_78 : decode cX11_mixCounter 78 = .ok (.iaload, 1) := by decide +kernel
theorem dX11_mixCounter_79 : decode cX11_mixCounter 79 = .ok (.iastore, 1) := by decide +kernel
theorem dX11_mixCounter_80 : decode cX11_mixCounter 80 = .ok (.iinc 2 1, 3) := by decide +kernel
theorem dX11_mixCounter_83 : decode cX11_mixCounter 83 = .ok (.goto (-23), 3) := by decide +kernel
theorem dX11_mixCounter_86 : decode cX11_mixCounter 86 = .ok (.iconst 0, 1) := by decide +kernel
theorem dX11_mixCounter_87 : decode cX11_mixCounter 87 = .ok (.istore_n 2, 1) := by decide +kernel
theorem dX11_mixCounter_88 : decode cX11_mixCounter 88 = .ok (.iload_n 2, 1) := by decide +kernel
theorem dX11_mixCounter_89 : decode cX11_mixCounter 89 = .ok (.bipush 16, 2) := by decide +kernel
theorem dX11_mixCounter_91 : decode cX11_mixCounter 91 = .ok (.if_icmp .ge 26, 3) := by decide +kernel
theorem dX11_mixCounter_94 : decode cX11_mixCounter 94 = .ok (.aload_n 1, 1) := by decide +kernel
theorem dX11_mixCounter_95 : decode cX11_mixCounter 95 = .ok (.getfield 226, 3) := by decide +kernel
theorem dX11_mixCounter_98 : decode cX11_mixCounter 98 = .ok (.iload_n 2, 1) := by decide +kernel
theorem dX11_mixCounter_99 : decode cX11_mixCounter 99 = .ok (.aload_n 0, 1) := by decide +kernel
theorem dX11_mixCounter_100 : decode cX11_mixCounter 100 = .ok (.getfield 102, 3) := by decide +kernel
theorem dX11_mixCounter_103 : decode cX11_mixCounter 103 = .ok (.aload_n 1, 1) := by decide +kernel
theorem dX11_mixCounter_104 : decode cX11_mixCounter 104 = .ok (.invokevirtual 265, 3) := by decide +kernel
theorem dX11_mixCounter_107 : decode cX11_mixCounter 107 = .ok (.iload_n 2, 1) := by decide +kernel
theorem dX11_mixCounter_108 : decode cX11_mixCounter 108 = .ok (.iadd, 1) := by decide +kernel
theorem dX11_mixCounter_109 : decode cX11_mixCounter 109 = .ok (.iaload, 1) := by decide +kernel
theorem dX11_mixCounter_110 : decode cX11_mixCounter 110 = .ok (.iastore, 1) := by decide +kernel
theorem dX11_mixCounter_111 : decode cX11_mixCounter 111 = .ok (.iinc 2 1, 3) := by decide +kernel
theorem dX11_mixCounter_114 : decode cX11_mixCounter 114 = .ok (.goto (-26), 3) := by decide +kernel
theorem dX11_mixCounter_117 : decode cX11_mixCounter 117 = .ok (.return_, 1) := by decide +kernel
theorem dX11_seedCounter_0 : decode cX11_seedCounter 0 = .ok (.aload_n 1, 1) := by decide +kernel
theorem dX11_seedCounter_1 : decode cX11_seedCounter 1 = .ok (.getfield 271, 3) := by decide +kernel
theorem dX11_seedCounter_4 : decode cX11_seedCounter 4 = .ok (.iconst 5, 1) := by decide +kernel
theorem dX11_seedCounter_5 : decode cX11_seedCounter 5 = .ok (.if_icmp .le 56, 3) := by decide +kernel
theorem dX11_seedCounter_8 : decode cX11_seedCounter 8 = .ok (.iconst 0, 1) := by decide +kernel
theorem dX11_seedCounter_9 : decode cX11_seedCounter 9 = .ok (.istore 4, 2) := by decide +kernel
theorem dX11_seedCounter_11 : decode cX11_seedCounter 11 = .ok (.iload 4, 2) := by decide +kernel
theorem dX11_seedCounter_13 : decode cX11_seedCounter 13 = .ok (.aload_n 1, 1) := by decide +kernel
theorem dX11_seedCounter_14 : decode cX11_seedCounter 14 = .ok (.invokevirtual 229, 3) := by decide +kernel
theorem dX11_seedCounter_17 : decode cX11_seedCounter 17 = .ok (.if_icmp .ge 41, 3) := by decide +kernel
theorem dX11_seedCounter_20 : decode cX11_seedCounter 20 = .ok (.aload_n 0, 1) := by decide +kernel
theorem dX11_seedCounter_21 : decode cX11_seedCounter 21 = .ok (.getfield 111, 3) := by decide +kernel
theorem dX11_seedCounter_24 : decode cX11_seedCounter 24 = .ok (.iload 4, 2) := by decide +kernel
theorem dX11_seedCounter_26 : decode cX11_seedCounter 26 = .ok (.aload_n 0, 1) := by decide +kernel
theorem dX11_seedCounter_27 : decode cX11_seedCounter 27 = .ok (.getfield 87, 3) := by decide +kernel
theorem dX11_seedCounter_30 : decode cX11_seedCounter 30 = .ok (.iload 4, 2) := by decide +kernel
theorem dX11_seedCounter_32 : decode cX11_seedCounter 32 = .ok (.iaload, 1) := by decide +kernel
theorem dX11_seedCounter_33 : decode cX11_seedCounter 33 = .ok (.iload 4, 2) := by decide +kernel
theorem dX11_seedCounter_35 : decode cX11_seedCounter 35 = .ok (.iload_n 3, 1) := by decide +kernel
theorem dX11_seedCounter_36 : decode cX11_seedCounter 36 = .ok (.if_icmp .ge 13, 3) := by decide +kernel
theorem dX11_seedCounter_39 : decode cX11_seedCounter 39 = .ok (.aload_n 0, 1) := by decide +kernel
theorem dX11_seedCounter_40 : decode cX11_seedCounter 40 = .ok (.getfield 114, 3) := by decide +kernel
theorem dX11_seedCounter_43 : decode cX11_seedCounter 43 = .ok (.iload 4, 2) := by decide +kernel
theorem dX11_seedCounter_45 : decode cX11_seedCounter 45 = .ok (.iaload, 1) := by decide +kernel
theorem dX11_seedCounter_46 : decode cX11_seedCounter 46 = .ok (.goto 4, 3) := by decide +kernel
theorem dX11_seedCounter_49 : decode cX11_seedCounter 49 = .ok (.iconst 0, 1) := by decide +kernel
theorem dX11_seedCounter_50 : decode cX11_seedCounter 50 = .ok (.ixor, 1) := by decide +kernel
theorem dX11_seedCounter_51 : decode cX11_seedCounter 51 = .ok (.iastore, 1) := by decide +kernel
theorem dX11_seedCounter_52 : decode cX11_seedCounter 52 = .ok (.iinc 4 1, 3) := by decide +kernel
theorem dX11_seedCounter_55 : decode cX11_seedCounter 55 = .ok (.goto (-44), 3) := by decide +kernel
theorem dX11_seedCounter_58 : decode cX11_seedCounter 58 = .ok (.goto 49, 3) := by decide +kernel
theorem dX11_seedCounter_61 : decode cX11_seedCounter 61 = .ok (.aload_n 0, 1) := by decide +kernel
theorem dX11_seedCounter_62 : decode cX11_seedCounter 62 = .ok (.invokevirtual 223, 3) := by decide +kernel
theorem dX11_seedCounter_65 : decode cX11_seedCounter 65 = .ok (.aload_n 0, 1) := by decide +kernel
theorem dX11_seedCounter_66 : decode cX11_seedCounter 66 = .ok (.aload_n 0, 1) := by decide +kernel
theorem dX11_seedCounter_67 : decode cX11_seedCounter 67 = .ok (.getfield 87, 3) := by decide +kernel
theorem dX11_seedCounter_70 : decode cX11_seedCounter 70 = .ok (.iload_n 2, 1) := by decide +kernel
theorem dX11_seedCounter_71 : decode cX11_seedCounter 71 = .ok (.invokevirtual 233, 3) := by decide +kernel
theorem dX11_seedCounter_74 : decode cX11_seedCounter 74 = .ok (.aload_n 0, 1) := by decide +kernel
theorem dX11_seedCounter_75 : decode cX11_seedCounter 75 = .ok (.aload_n 0, 1) := by decide +kernel
theorem dX11_seedCounter_76 : decode cX11_seedCounter 76 = .ok (.getfield 114, 3) := by decide +kernel
theorem dX11_seedCounter_79 : decode cX11_seedCounter 79 = .ok (.iload_n 3, 1) := by decide +kernel
theorem dX11_seedCounter_80 : decode cX11_seedCounter 80 = .ok (.invokevirtual 233, 3) := by decide +kernel
theorem dX11_seedCounter_83 : decode cX11_seedCounter 83 = .ok (.aload_n 0, 1) := by decide +kernel
theorem dX11_seedCounter_84 : decode cX11_seedCounter 84 = .ok (.aload_n 1, 1) := by decide +kernel
theorem dX11_seedCounter_85 : decode cX11_seedCounter 85 = .ok (.invokevirtual 265, 3) := by decide +kernel
theorem dX11_seedCounter_88 : decode cX11_seedCounter 88 = .ok (.aload_n 0, 1) := by decide +kernel
theorem dX11_seedCounter_89 : decode cX11_seedCounter 89 = .ok (.getfield 96, 3) := by decide +kernel
theorem dX11_seedCounter_92 : decode cX11_seedCounter 92 = .ok (.aload_n 0, 1) := by decide +kernel
theorem dX11_seedCounter_93 : decode cX11_seedCounter 93 = .ok (.getfield 212, 3) := by decide +kernel
theorem dX11_seedCounter_96 : decode cX11_seedCounter 96 = .ok (.aload_n 0, 1) := by decide +kernel
theorem dX11_seedCounter_97 : decode cX11_seedCounter 97 = .ok (.getfield 111, 3) := by decide +kernel
theorem dX11_seedCounter_100 : decode cX11_seedCounter 100 = .ok (.aload_n 1, 1) := by decide +kernel
theorem dX11_seedCounter_101 : decode cX11_seedCounter 101 = .ok (.invokevirtual 229, 3) := by decide +kernel
theorem dX11_seedCounter_104 : decode cX11_seedCounter 104 = .ok (.invokevirtual 274, 3) := by decide +kernel
theorem dX11_seedCounter_107 : decode cX11_seedCounter 107 = .ok (.aload_n 0, 1) := by decide +kernel
theorem dX11_seedCounter_108 : decode cX11_seedCounter 108 = .ok (.aload_n 1, 1) := by decide +kernel
theorem dX11_seedCounter_109 : decode cX11_seedCounter 109 = .ok (.invokevirtual 278, 3) := by decide +kernel
theorem dX11_seedCounter_112 : decode cX11_seedCounter 112 = .ok (.return_, 1) := by decide +kernel
theorem dX11_drawCounter_0 : decode cX11_drawCounter 0 = .ok (.iconst 0, 1) := by decide +kernel
theorem dX11_drawCounter_1 : decode cX11_drawCounter 1 = .ok (.istore 4, 2) := by decide +kernel
theorem dX11_drawCounter_3 : decode cX11_drawCounter 3 = .ok (.iload 4, 2) := by decide +kernel
theorem dX11_drawCounter_5 : decode cX11_drawCounter 5 = .ok (.aload_n 1, 1) := by decide +kernel
theorem dX11_drawCounter_6 : decode cX11_drawCounter 6 = .ok (.invokevirtual 229, 3) := by decide +kernel
theorem dX11_drawCounter_9 : decode cX11_drawCounter 9 = .ok (.if_icmp .ge 33, 3) := by decide +kernel
theorem dX11_drawCounter_12 : decode cX11_drawCounter 12 = .ok (.aload_n 0, 1) := by decide +kernel
theorem dX11_drawCounter_13 : decode cX11_drawCounter 13 = .ok (.getfield 111, 3) := by decide +kernel
theorem dX11_drawCounter_16 : decode cX11_drawCounter 16 = .ok (.iload 4, 2) := by decide +kernel
theorem dX11_drawCounter_18 : decode cX11_drawCounter 18 = .ok (.iload 4, 2) := by decide +kernel
theorem dX11_drawCounter_20 : decode cX11_drawCounter 20 = .ok (.iload_n 3, 1) := by decide +kernel
theorem dX11_drawCounter_21 : decode cX11_drawCounter 21 = .ok (.if_icmp .ge 13, 3) := by decide +kernel
theorem dX11_drawCounter_24 : decode cX11_drawCounter 24 = .ok (.aload_n 0, 1) := by decide +kernel
theorem dX11_drawCounter_25 : decode cX11_drawCounter 25 = .ok (.getfield 114, 3) := by decide +kernel
theorem dX11_drawCounter_28 : decode cX11_drawCounter 28 = .ok (.iload 4, 2) := by decide +kernel
theorem dX11_drawCounter_30 : decode cX11_drawCounter 30 = .ok (.iaload, 1) := by decide +kernel
theorem dX11_drawCounter_31 : decode cX11_drawCounter 31 = .ok (.goto 4, 3) := by decide +kernel
theorem dX11_drawCounter_34 : decode cX11_drawCounter 34 = .ok (.iconst 0, 1) := by decide +kernel
theorem dX11_drawCounter_35 : decode cX11_drawCounter 35 = .ok (.iastore, 1) := by decide +kernel
theorem dX11_drawCounter_36 : decode cX11_drawCounter 36 = .ok (.iinc 4 1, 3) := by decide +kernel
theorem dX11_drawCounter_39 : decode cX11_drawCounter 39 = .ok (.goto (-36), 3) := by decide +kernel
theorem dX11_drawCounter_42 : decode cX11_drawCounter 42 = .ok (.iload_n 3, 1) := by decide +kernel
theorem dX11_drawCounter_43 : decode cX11_drawCounter 43 = .ok (.ifCond .le 38, 3) := by decide +kernel
theorem dX11_drawCounter_46 : decode cX11_drawCounter 46 = .ok (.aload_n 1, 1) := by decide +kernel
theorem dX11_drawCounter_47 : decode cX11_drawCounter 47 = .ok (.getfield 271, 3) := by decide +kernel
theorem dX11_drawCounter_50 : decode cX11_drawCounter 50 = .ok (.bipush 6, 2) := by decide +kernel
theorem dX11_drawCounter_52 : decode cX11_drawCounter 52 = .ok (.if_icmp .ge 24, 3) := by decide +kernel
theorem dX11_drawCounter_55 : decode cX11_drawCounter 55 = .ok (.aload_n 0, 1) := by decide +kernel
theorem dX11_drawCounter_56 : decode cX11_drawCounter 56 = .ok (.aload_n 1, 1) := by decide +kernel
theorem dX11_drawCounter_57 : decode cX11_drawCounter 57 = .ok (.invokevirtual 265, 3) := by decide +kernel
theorem dX11_drawCounter_60 : decode cX11_drawCounter 60 = .ok (.aload_n 0, 1) := by decide +kernel
theorem dX11_drawCounter_61 : decode cX11_drawCounter 61 = .ok (.getfield 114, 3) := by decide +kernel
theorem dX11_drawCounter_64 : decode cX11_drawCounter 64 = .ok (.iload_n 3, 1) := by decide +kernel
theorem dX11_drawCounter_65 : decode cX11_drawCounter 65 = .ok (.aload_n 0, 1) := by decide +kernel
theorem dX11_drawCounter_66 : decode cX11_drawCounter 66 = .ok (.getfield 111, 3) := by decide +kernel
theorem dX11_drawCounter_69 : decode cX11_drawCounter 69 = .ok (.aload_n 1, 1) := by decide +kernel
theorem dX11_drawCounter_70 : decode cX11_drawCounter 70 = .ok (.invokevirtual 229, 3) := by decide +kernel
theorem dX11_drawCounter_73 : decode cX11_drawCounter 73 = .ok (.invokevirtual 274, 3) := by decide +kernel
theorem dX11_drawCounter_76 : decode cX11_drawCounter 76 = .ok (.aload_n 0, 1) := by decide +kernel
theorem dX11_drawCounter_77 : decode cX11_drawCounter 77 = .ok (.aload_n 1, 1) := by decide +kernel
theorem dX11_drawCounter_78 : decode cX11_drawCounter 78 = .ok (.invokevirtual 278, 3) := by decide +kernel
theorem dX11_drawCounter_81 : decode cX11_drawCounter 81 = .ok (.iconst 0, 1) := by decide +kernel
theorem dX11_drawCounter_82 : decode cX11_drawCounter 82 = .ok (.istore 4, 2) := by decide +kernel
theorem dX11_drawCounter_84 : decode cX11_drawCounter 84 = .ok (.iload 4, 2) := by decide +kernel
theorem dX11_drawCounter_86 : decode cX11_drawCounter 86 = .ok (.iload_n 2, 1) := by decide +kernel
theorem dX11_drawCounter_87 : decode cX11_drawCounter 87 = .ok (.if_icmp .ge 56, 3) := by decide +kernel
theorem dX11_drawCounter_90 : decode cX11_drawCounter 90 = .ok (.aload_n 0, 1) := by decide +kernel
theorem dX11_drawCounter_91 : decode cX11_drawCounter 91 = .ok (.aload_n 1, 1) := by decide +kernel
theorem dX11_drawCounter_92 : decode cX11_drawCounter 92 = .ok (.invokevirtual 268, 3) := by decide +kernel
theorem dX11_drawCounter_95 : decode cX11_drawCounter 95 = .ok (.iconst 0, 1) := by decide +kernel
theorem dX11_drawCounter_96 : decode cX11_drawCounter 96 = .ok (.istore 5, 2) := by decide +kernel
theorem dX11_drawCounter_98 : decode cX11_drawCounter 98 = .ok (.iload 5, 2) := by decide +kernel
theorem dX11_drawCounter_100 : decode cX11_drawCounter 100 = .ok (.bipush 16, 2) := by decide +kernel
theorem dX11_drawCounter_102 : decode cX11_drawCounter 102 = .ok (.if_icmp .ge 35, 3) := by decide +kernel
theorem dX11_drawCounter_105 : decode cX11_drawCounter 105 = .ok (.iload 4, 2) := by decide +kernel
theorem dX11_drawCounter_107 : decode cX11_drawCounter 107 = .ok (.iload 5, 2) := by decide +kernel
theorem dX11_drawCounter_109 : decode cX11_drawCounter 109 = .ok (.iadd, 1) := by decide +kernel
theorem dX11_drawCounter_110 : decode cX11_drawCounter 110 = .ok (.iload_n 2, 1) := by decide +kernel
theorem dX11_drawCounter_111 : decode cX11_drawCounter 111 = .ok (.if_icmp .ge 26, 3) := by decide +kernel
theorem dX11_drawCounter_114 : decode cX11_drawCounter 114 = .ok (.aload_n 0, 1) := by decide +kernel
theorem dX11_drawCounter_115 : decode cX11_drawCounter 115 = .ok (.getfield 117, 3) := by decide +kernel
theorem dX11_drawCounter_118 : decode cX11_drawCounter 118 = .ok (.iload 4, 2) := by decide +kernel
theorem dX11_drawCounter_120 : decode cX11_drawCounter 120 = .ok (.iload 5, 2) := by decide +kernel
theorem dX11_drawCounter_122 : decode cX11_drawCounter 122 = .ok (.iadd, 1) := by decide +kernel
theorem dX11_drawCounter_123 : decode cX11_drawCounter 123 = .ok (.aload_n 0, 1) := by decide +kernel
theorem dX11_drawCounter_124 : decode cX11_drawCounter 124 = .ok (.getfield 108, 3) := by decide +kernel
theorem dX11_drawCounter_127 : decode cX11_drawCounter 127 = .ok (.iload 5, 2) := by decide +kernel
theorem dX11_drawCounter_129 : decode cX11_drawCounter 129 = .ok (.iaload, 1) := by decide +kernel
theorem dX11_drawCounter_130 : decode cX11_drawCounter 130 = .ok (.iastore, 1) := by decide +kernel
theorem dX11_drawCounter_131 : decode cX11_drawCounter 131 = .ok (.iinc 5 1, 3) := by decide +kernel
theorem dX11_drawCounter_134 : decode cX11_drawCounter 134 = .ok (.goto (-36), 3) := by decide +kernel
theorem dX11_drawCounter_137 : decode cX11_drawCounter 137 = .ok (.iinc 4 16, 3) := by decide +kernel
theorem dX11_drawCounter_140 : decode cX11_drawCounter 140 = .ok (.goto (-56), 3) := by decide +kernel
theorem dX11_drawCounter_143 : decode cX11_drawCounter 143 = .ok (.aload_n 0, 1) := by decide +kernel
theorem dX11_drawCounter_144 : decode cX11_drawCounter 144 = .ok (.aload_n 1, 1) := by decide +kernel
theorem dX11_drawCounter_145 : decode cX11_drawCounter 145 = .ok (.invokevirtual 278, 3) := by decide +kernel
theorem dX11_drawCounter_148 : decode cX11_drawCounter 148 = .ok (.return_, 1) := by decide +kernel
theorem dX11_seed_0 : decode cX11_seed 0 = .ok (.aload_n 1, 1) := by decide +kernel
theorem dX11_seed_1 : decode cX11_seed 1 = .ok (.invokevirtual 281, 3) := by decide +kernel
theorem dX11_seed_4 : decode cX11_seed 4 = .ok (.iload_n 2, 1) := by decide +kernel
theorem dX11_seed_5 : decode cX11_seed 5 = .ok (.ifCond .eq 21, 3) := by decide +kernel
theorem dX11_seed_8 : decode cX11_seed 8 = .ok (.aload_n 1, 1) := by decide +kernel
theorem dX11_seed_9 : decode cX11_seed 9 = .ok (.getfield 271, 3) := by decide +kernel
theorem dX11_seed_12 : decode cX11_seed 12 = .ok (.bipush 6, 2) := by decide +kernel
theorem dX11_seed_14 : decode cX11_seed 14 = .ok (.if_icmp .ge 12, 3) := by decide +kernel
theorem dX11_seed_17 : decode cX11_seed 17 = .ok (.aload_n 1, 1) := by decide +kernel
theorem dX11_seed_18 : decode cX11_seed 18 = .ok (.invokevirtual 281, 3) := by decide +kernel
theorem dX11_seed_21 : decode cX11_seed 21 = .ok (.iconst 2, 1) := by decide +kernel
theorem dX11_seed_22 : decode cX11_seed 22 = .ok (.idiv, 1) := by decide +kernel
theorem dX11_seed_23 : decode cX11_seed 23 = .ok (.goto 4, 3) := by decide +kernel
theorem dX11_seed_26 : decode cX11_seed 26 = .ok (.iconst 0, 1) := by decide +kernel
theorem dX11_seed_27 : decode cX11_seed 27 = .ok (.iadd, 1) := by decide +kernel
theorem dX11_seed_28 : decode cX11_seed 28 = .ok (.istore 4, 2) := by decide +kernel
theorem dX11_seed_30 : decode cX11_seed 30 = .ok (.aload_n 0, 1) := by decide +kernel
theorem dX11_seed_31 : decode cX11_seed 31 = .ok (.iload 4, 2) := by decide +kernel
theorem dX11_seed_33 : decode cX11_seed 33 = .ok (.invokevirtual 283, 3) := by decide +kernel
theorem dX11_seed_36 : decode cX11_seed 36 = .ok (.iload_n 2, 1) := by decide +kernel
theorem dX11_seed_37 : decode cX11_seed 37 = .ok (.ifCond .eq 55, 3) := by decide +kernel
theorem dX11_seed_40 : decode cX11_seed 40 = .ok (.iconst 0, 1) := by decide +kernel
theorem dX11_seed_41 : decode cX11_seed 41 = .ok (.istore 5, 2) := by decide +kernel
theorem dX11_seed_43 : decode cX11_seed 43 = .ok (.iload 5, 2) := by decide +kernel
theorem dX11_seed_45 : decode cX11_seed 45 = .ok (.bipush 111, 2) := by decide +kernel
theorem dX11_seed_47 : decode cX11_seed 47 = .ok (.if_icmp .ge 45, 3) := by decide +kernel
theorem dX11_seed_50 : decode cX11_seed 50 = .ok (.aload_n 1, 1) := by decide +kernel
theorem dX11_seed_51 : decode cX11_seed 51 = .ok (.getfield 226, 3) := by decide +kernel
theorem dX11_seed_54 : decode cX11_seed 54 = .ok (.iload 5, 2) := by decide +kernel
theorem dX11_seed_56 : decode cX11_seed 56 = .ok (.aload_n 1, 1) := by decide +kernel
theorem dX11_seed_57 : decode cX11_seed 57 = .ok (.getfield 271, 3) := by decide +kernel
theorem dX11_seed_60 : decode cX11_seed 60 = .ok (.iconst 2, 1) := by decide +kernel
theorem dX11_seed_61 : decode cX11_seed 61 = .ok (.if_icmp .eq 11, 3) := by decide +kernel
theorem dX11_seed_64 : decode cX11_seed 64 = .ok (.aload_n 1, 1) := by decide +kernel
theorem dX11_seed_65 : decode cX11_seed 65 = .ok (.getfield 271, 3) := by decide +kernel
theorem dX11_seed_68 : decode cX11_seed 68 = .ok (.iconst 3, 1) := by decide +kernel
theorem dX11_seed_69 : decode cX11_seed 69 = .ok (.if_icmp .ne 7, 3) := by decide +kernel
theorem dX11_seed_72 : decode cX11_seed 72 = .ok (.iconst 1, 1) := by decide +kernel
theorem dX11_seed_73 : decode cX11_seed 73 = .ok (.goto 4, 3) := by decide +kernel
theorem dX11_seed_76 : decode cX11_seed 76 = .ok (.iconst 0, 1) := by decide +kernel
theorem dX11_seed_77 : decode cX11_seed 77 = .ok (.iastore, 1) := by decide +kernel
theorem dX11_seed_78 : decode cX11_seed 78 = .ok (.aload_n 1, 1) := by decide +kernel
theorem dX11_seed_79 : decode cX11_seed 79 = .ok (.getfield 243, 3) := by decide +kernel
theorem dX11_seed_82 : decode cX11_seed 82 = .ok (.iload 5, 2) := by decide +kernel
theorem dX11_seed_84 : decode cX11_seed 84 = .ok (.iconst 0, 1) := by decide +kernel
theorem dX11_seed_85 : decode cX11_seed 85 = .ok (.iastore, 1) := by decide +kernel
theorem dX11_seed_86 : decode cX11_seed 86 = .ok (.iinc 5 1, 3) := by decide +kernel
theorem dX11_seed_89 : decode cX11_seed 89 = .ok (.goto (-46), 3) := by decide +kernel
theorem dX11_seed_92 : decode cX11_seed 92 = .ok (.aload_n 1, 1) := by decide +kernel
theorem dX11_seed_93 : decode cX11_seed 93 = .ok (.getfield 271, 3) := by decide +kernel
theorem dX11_seed_96 : decode cX11_seed 96 = .ok (.iconst 2, 1) := by decide +kernel
theorem dX11_seed_97 : decode cX11_seed 97 = .ok (.if_icmp .ge 15, 3) := by decide +kernel
theorem dX11_seed_100 : decode cX11_seed 100 = .ok (.aload_n 0, 1) := by decide +kernel
theorem dX11_seed_101 : decode cX11_seed 101 = .ok (.aload_n 1, 1) := by decide +kernel
theorem dX11_seed_102 : decode cX11_seed 102 = .ok (.iload_n 2, 1) := by decide +kernel
theorem dX11_seed_103 : decode cX11_seed 103 = .ok (.iload 4, 2) := by decide +kernel
theorem dX11_seed_105 : decode cX11_seed 105 = .ok (.iload_n 3, 1) := by decide +kernel
theorem dX11_seed_106 : decode cX11_seed 106 = .ok (.invokevirtual 286, 3) := by decide +kernel
theorem dX11_seed_109 : decode cX11_seed 109 = .ok (.goto 83, 3) := by decide +kernel
theorem dX11_seed_112 : decode cX11_seed 112 = .ok (.aload_n 1, 1) := by decide +kernel
theorem dX11_seed_113 : decode cX11_seed 113 = .ok (.getfield 271, 3) := by decide +kernel
theorem dX11_seed_116 : decode cX11_seed 116 = .ok (.iconst 4, 1) := by decide +kernel
theorem dX11_seed_117 : decode cX11_seed 117 = .ok (.if_icmp .ge 67, 3) := by decide +kernel
theorem dX11_seed_120 : decode cX11_seed 120 = .ok (.iconst 0, 1) := by decide +kernel
theorem dX11_seed_121 : decode cX11_seed 121 = .ok (.istore 5, 2) := by decide +kernel
theorem dX11_seed_123 : decode cX11_seed 123 = .ok (.iload 5, 2) := by decide +kernel
theorem dX11_seed_125 : decode cX11_seed 125 = .ok (.iload 4, 2) := by decide +kernel
theorem dX11_seed_127 : decode cX11_seed 127 = .ok (.iload_n 3, 1) := by decide +kernel
theorem dX11_seed_128 : decode cX11_seed 128 = .ok (.iadd, 1) := by decide +kernel
theorem dX11_seed_129 : decode cX11_seed 129 = .ok (.if_icmp .ge 43, 3) := by decide +kernel
theorem dX11_seed_132 : decode cX11_seed 132 = .ok (.aload_n 0, 1) := by decide +kernel
theorem dX11_seed_133 : decode cX11_seed 133 = .ok (.getfield 105, 3) := by decide +kernel
theorem dX11_seed_136 : decode cX11_seed 136 = .ok (.iload 5, 2) := by decide +kernel
theorem dX11_seed_138 : decode cX11_seed 138 = .ok (.iload 5, 2) := by decide +kernel
theorem dX11_seed_140 : decode cX11_seed 140 = .ok (.iload 4, 2) := by decide +kernel
theorem dX11_seed_142 : decode cX11_seed 142 = .ok (.if_icmp .ge 13, 3) := by decide +kernel
theorem dX11_seed_145 : decode cX11_seed 145 = .ok (.aload_n 0, 1) := by decide +kernel
theorem dX11_seed_146 : decode cX11_seed 146 = .ok (.getfield 87, 3) := by decide +kernel
theorem dX11_seed_149 : decode cX11_seed 149 = .ok (.iload 5, 2) := by decide +kernel
theorem dX11_seed_151 : decode cX11_seed 151 = .ok (.iaload, 1) := by decide +kernel
theorem dX11_seed_152 : decode cX11_seed 152 = .ok (.goto 13, 3) := by decide +kernel
theorem dX11_seed_155 : decode cX11_seed 155 = .ok (.aload_n 0, 1) := by decide +kernel
theorem dX11_seed_156 : decode cX11_seed 156 = .ok (.getfield 114, 3) := by decide +kernel
theorem dX11_seed_159 : decode cX11_seed 159 = .ok (.iload 5, 2) := by decide +kernel
theorem dX11_seed_161 : decode cX11_seed 161 = .ok (.iload 4, 2) := by decide +kernel
theorem dX11_seed_163 : decode cX11_seed 163 = .ok (.isub, 1) := by decide +kernel
theorem dX11_seed_164 : decode cX11_seed 164 = .ok (.iaload, 1) := by decide +kernel
theorem dX11_seed_165 : decode cX11_seed 165 = .ok (.iastore, 1) := by decide +kernel
theorem dX11_seed_166 : decode cX11_seed 166 = .ok (.iinc 5 1, 3) := by decide +kernel
theorem dX11_seed_169 : decode cX11_seed 169 = .ok (.goto (-46), 3) := by decide +kernel
theorem dX11_seed_172 : decode cX11_seed 172 = .ok (.aload_n 0, 1) := by decide +kernel
theorem dX11_seed_173 : decode cX11_seed 173 = .ok (.aload_n 1, 1) := by decide +kernel
theorem dX11_seed_174 : decode cX11_seed 174 = .ok (.iload 4, 2) := by decide +kernel
theorem dX11_seed_176 : decode cX11_seed 176 = .ok (.iload_n 3, 1) := by decide +kernel
theorem dX11_seed_177 : decode cX11_seed 177 = .ok (.iadd, 1) := by decide +kernel
theorem dX11_seed_178 : decode cX11_seed 178 = .ok (.invokevirtual 261, 3) := by decide +kernel
theorem dX11_seed_181 : decode cX11_seed 181 = .ok (.goto 11, 3) := by decide +kernel
theorem dX11_seed_184 : decode cX11_seed 184 = .ok (.aload_n 0, 1) := by decide +kernel
theorem dX11_seed_185 : decode cX11_seed 185 = .ok (.aload_n 1, 1) := by decide +kernel
theorem dX11_seed_186 : decode cX11_seed 186 = .ok (.iload 4, 2) := by decide +kernel
theorem dX11_seed_188 : decode cX11_seed 188 = .ok (.iload_n 3, 1) := by decide +kernel
theorem dX11_seed_189 : decode cX11_seed 189 = .ok (.invokevirtual 290, 3) := by decide +kernel
theorem dX11_seed_192 : decode cX11_seed 192 = .ok (.aload_n 1, 1) := by decide +kernel
theorem dX11_seed_193 : decode cX11_seed 193 = .ok (.iconst 1, 1) := by decide +kernel
theorem dX11_seed_194 : decode cX11_seed 194 = .ok (.putfield 250, 3) := by decide +kernel
theorem dX11_seed_197 : decode cX11_seed 197 = .ok (.aload_n 1, 1) := by decide +kernel
theorem dX11_seed_198 : decode cX11_seed 198 = .ok (.dup, 1) := by decide +kernel
theorem dX11_seed_199 : decode cX11_seed 199 = .ok (.getfield 294, 3) := by decide +kernel
theorem dX11_seed_202 : decode cX11_seed 202 = .ok (.iconst 1, 1) := by decide +kernel
theorem dX11_seed_203 : decode cX11_seed 203 = .ok (.iadd, 1) := by decide +kernel
theorem dX11_seed_204 : decode cX11_seed 204 = .ok (.putfield 294, 3) := by decide +kernel
theorem dX11_seed_207 : decode cX11_seed 207 = .ok (.return_, 1) := by decide +kernel
theorem dX11_isThere_0 : decode cX11_isThere 0 = .ok (.iload_n 1, 1) := by decide +kernel
theorem dX11_isThere_1 : decode cX11_isThere 1 = .ok (.iconst 0, 1) := by decide +kernel
theorem dX11_isThere_2 : decode cX11_isThere 2 = .ok (.iconst 3, 1) := by decide +kernel
theorem dX11_isThere_3 : decode cX11_isThere 3 = .ok (.invokestatic 297, 3) := by decide +kernel
theorem dX11_isThere_6 : decode cX11_isThere 6 = .ok (.ifCond .eq 19, 3) := by decide +kernel
theorem dX11_isThere_9 : decode cX11_isThere 9 = .ok (.aload_n 0, 1) := by decide +kernel
theorem dX11_isThere_10 : decode cX11_isThere 10 = .ok (.getfield 92, 3) := by decide +kernel
theorem dX11_isThere_13 : decode cX11_isThere 13 = .ok (.iload_n 1, 1) := by decide +kernel
theorem dX11_isThere_14 : decode cX11_isThere 14 = .ok (.aaload, 1) := by decide +kernel
theorem dX11_isThere_15 : decode cX11_isThere 15 = .ok (.getfield 301, 3) := by decide +kernel
theorem dX11_isThere_18 : decode cX11_isThere 18 = .ok (.ifCond .eq 7, 3) := by decide +kernel
theorem dX11_isThere_21 : decode cX11_isThere 21 = .ok (.iconst 1, 1) := by decide +kernel
theorem dX11_isThere_22 : decode cX11_isThere 22 = .ok (.goto 4, 3) := by decide +kernel
theorem dX11_isThere_25 : decode cX11_isThere 25 = .ok (.iconst 0, 1) := by decide +kernel
theorem dX11_isThere_26 : decode cX11_isThere 26 = .ok (.ireturn, 1) := by decide +kernel
theorem dX11_isTooLong_0 : decode cX11_isTooLong 0 = .ok (.aload_n 0, 1) := by decide +kernel
theorem dX11_isTooLong_1 : decode cX11_isTooLong 1 = .ok (.getfield 271, 3) := by decide +kernel
theorem dX11_isTooLong_4 : decode cX11_isTooLong 4 = .ok (.iconst 5, 1) := by decide +kernel
theorem dX11_isTooLong_5 : decode cX11_isTooLong 5 = .ok (.if_icmp .le 15, 3) := by decide +kernel
theorem dX11_isTooLong_8 : decode cX11_isTooLong 8 = .ok (.iload_n 1, 1) := by decide +kernel
theorem dX11_isTooLong_9 : decode cX11_isTooLong 9 = .ok (.aload_n 0, 1) := by decide +kernel
theorem dX11_isTooLong_10 : decode cX11_isTooLong 10 = .ok (.invokevirtual 229, 3) := by decide +kernel
theorem dX11_isTooLong_13 : decode cX11_isTooLong 13 = .ok (.if_icmp .le 7, 3) := by decide +kernel
theorem dX11_isTooLong_16 : decode cX11_isTooLong 16 = .ok (.iconst 1, 1) := by decide +kernel
theorem dX11_isTooLong_17 : decode cX11_isTooLong 17 = .ok (.goto 4, 3) := by decide +kernel
theorem dX11_isTooLong_20 : decode cX11_isTooLong 20 = .ok (.iconst 0, 1) := by decide +kernel
theorem dX11_isTooLong_21 : decode cX11_isTooLong 21 = .ok (.ireturn, 1) := by decide +kernel
theorem dX11_feed_0 : decode cX11_feed 0 = .ok (.aload_n 0, 1) := by decide +kernel
theorem dX11_feed_1 : decode cX11_feed 1 = .ok (.iconst 0, 1) := by decide +kernel
theorem dX11_feed_2 : decode cX11_feed 2 = .ok (.putfield 133, 3) := by decide +kernel
theorem dX11_feed_5 : decode cX11_feed 5 = .ok (.aload_n 0, 1) := by decide +kernel
theorem dX11_feed_6 : decode cX11_feed 6 = .ok (.getfield 304, 3) := by decide +kernel
theorem dX11_feed_9 : decode cX11_feed 9 = .ok (.bipush 20, 2) := by decide +kernel
theorem dX11_feed_11 : decode cX11_feed 11 = .ok (.iadd, 1) := by decide +kernel
theorem dX11_feed_12 : decode cX11_feed 12 = .ok (.sipush 240, 3) := by decide +kernel
theorem dX11_feed_15 : decode cX11_feed 15 = .ok (.if_icmp .le 5, 3) := by decide +kernel
theorem dX11_feed_18 : decode cX11_feed 18 = .ok (.iconst (-1), 1) := by decide +kernel
theorem dX11_feed_19 : decode cX11_feed 19 = .ok (.ireturn, 1) := by decide +kernel
theorem dX11_feed_20 : decode cX11_feed 20 = .ok (.aload_n 0, 1) := by decide +kernel
theorem dX11_feed_21 : decode cX11_feed 21 = .ok (.getfield 114, 3) := by decide +kernel
theorem dX11_feed_24 : decode cX11_feed 24 = .ok (.aload_n 0, 1) := by decide +kernel
theorem dX11_feed_25 : decode cX11_feed 25 = .ok (.getfield 304, 3) := by decide +kernel
theorem dX11_feed_28 : decode cX11_feed 28 = .ok (.iload_n 1, 1) := by decide +kernel
theorem dX11_feed_29 : decode cX11_feed 29 = .ok (.iconst 4, 1) := by decide +kernel
theorem dX11_feed_30 : decode cX11_feed 30 = .ok (.invokestatic 174, 3) := by decide +kernel
theorem dX11_feed_33 : decode cX11_feed 33 = .ok (.aload_n 0, 1) := by decide +kernel
theorem dX11_feed_34 : decode cX11_feed 34 = .ok (.getfield 114, 3) := by decide +kernel
theorem dX11_feed_37 : decode cX11_feed 37 = .ok (.aload_n 0, 1) := by decide +kernel
theorem dX11_feed_38 : decode cX11_feed 38 = .ok (.getfield 304, 3) := by decide +kernel
theorem dX11_feed_41 : decode cX11_feed 41 = .ok (.iconst 4, 1) := by decide +kernel
theorem dX11_feed_42 : decode cX11_feed 42 = .ok (.iadd, 1) := by decide +kernel
theorem dX11_feed_43 : decode cX11_feed 43 = .ok (.iload_n 2, 1) := by decide +kernel
theorem dX11_feed_44 : decode cX11_feed 44 = .ok (.iconst 4, 1) := by decide +kernel
theorem dX11_feed_45 : decode cX11_feed 45 = .ok (.invokestatic 174, 3) := by decide +kernel
theorem dX11_feed_48 : decode cX11_feed 48 = .ok (.aload_n 0, 1) := by decide +kernel
theorem dX11_feed_49 : decode cX11_feed 49 = .ok (.getfield 114, 3) := by decide +kernel
theorem dX11_feed_52 : decode cX11_feed 52 = .ok (.aload_n 0, 1) := by decide +kernel
theorem dX11_feed_53 : decode cX11_feed 53 = .ok (.getfield 304, 3) := by decide +kernel
theorem dX11_feed_56 : decode cX11_feed 56 = .ok (.bipush 8, 2) := by decide +kernel
theorem dX11_feed_58 : decode cX11_feed 58 = .ok (.iadd, 1) := by decide +kernel
theorem dX11_feed_59 : decode cX11_feed 59 = .ok (.iload_n 3, 1) := by decide +kernel
theorem dX11_feed_60 : decode cX11_feed 60 = .ok (.iconst 4, 1) := by decide +kernel
theorem dX11_feed_61 : decode cX11_feed 61 = .ok (.invokestatic 174, 3) := by decide +kernel
theorem dX11_feed_64 : decode cX11_feed 64 = .ok (.aload_n 0, 1) := by decide +kernel
theorem dX11_feed_65 : decode cX11_feed 65 = .ok (.getfield 114, 3) := by decide +kernel
theorem dX11_feed_68 : decode cX11_feed 68 = .ok (.aload_n 0, 1) := by decide +kernel
theorem dX11_feed_69 : decode cX11_feed 69 = .ok (.getfield 304, 3) := by decide +kernel
theorem dX11_feed_72 : decode cX11_feed 72 = .ok (.bipush 12, 2) := by decide +kernel
theorem dX11_feed_74 : decode cX11_feed 74 = .ok (.iadd, 1) := by decide +kernel
theorem dX11_feed_75 : decode cX11_feed 75 = .ok (.iload 4, 2) := by decide +kernel
theorem dX11_feed_77 : decode cX11_feed 77 = .ok (.iconst 4, 1) := by decide +kernel
theorem dX11_feed_78 : decode cX11_feed 78 = .ok (.invokestatic 174, 3) := by decide +kernel
theorem dX11_feed_81 : decode cX11_feed 81 = .ok (.aload_n 0, 1) := by decide +kernel
theorem dX11_feed_82 : decode cX11_feed 82 = .ok (.getfield 114, 3) := by decide +kernel
theorem dX11_feed_85 : decode cX11_feed 85 = .ok (.aload_n 0, 1) := by decide +kernel
theorem dX11_feed_86 : decode cX11_feed 86 = .ok (.getfield 304, 3) := by decide +kernel
theorem dX11_feed_89 : decode cX11_feed 89 = .ok (.bipush 16, 2) := by decide +kernel
theorem dX11_feed_91 : decode cX11_feed 91 = .ok (.iadd, 1) := by decide +kernel
theorem dX11_feed_92 : decode cX11_feed 92 = .ok (.iload 5, 2) := by decide +kernel
theorem dX11_feed_94 : decode cX11_feed 94 = .ok (.iconst 4, 1) := by decide +kernel
theorem dX11_feed_95 : decode cX11_feed 95 = .ok (.invokestatic 174, 3) := by decide +kernel
theorem dX11_feed_98 : decode cX11_feed 98 = .ok (.aload_n 0, 1) := by decide +kernel
theorem dX11_feed_99 : decode cX11_feed 99 = .ok (.dup, 1) := by decide +kernel
theorem dX11_feed_100 : decode cX11_feed 100 = .ok (.getfield 304, 3) := by decide +kernel
theorem dX11_feed_103 : decode cX11_feed 103 = .ok (.bipush 20, 2) := by decide +kernel
theorem dX11_feed_105 : decode cX11_feed 105 = .ok (.iadd, 1) := by decide +kernel
theorem dX11_feed_106 : decode cX11_feed 106 = .ok (.putfield 304, 3) := by decide +kernel
theorem dX11_feed_109 : decode cX11_feed 109 = .ok (.aload_n 0, 1) := by decide +kernel
theorem dX11_feed_110 : decode cX11_feed 110 = .ok (.getfield 304, 3) := by decide +kernel
theorem dX11_feed_113 : decode cX11_feed 113 = .ok (.ireturn, 1) := by decide +kernel
theorem dX11_end_0 : decode cX11_end 0 = .ok (.aload_n 0, 1) := by decide +kernel
theorem dX11_end_1 : decode cX11_end 1 = .ok (.iconst 0, 1) := by decide +kernel
theorem dX11_end_2 : decode cX11_end 2 = .ok (.putfield 133, 3) := by decide +kernel
theorem dX11_end_5 : decode cX11_end 5 = .ok (.iload_n 1, 1) := by decide +kernel
theorem dX11_end_6 : decode cX11_end 6 = .ok (.iconst 0, 1) := by decide +kernel
theorem dX11_end_7 : decode cX11_end 7 = .ok (.aload_n 0, 1) := by decide +kernel
theorem dX11_end_8 : decode cX11_end 8 = .ok (.getfield 304, 3) := by decide +kernel
theorem dX11_end_11 : decode cX11_end 11 = .ok (.invokestatic 297, 3) := by decide +kernel
theorem dX11_end_14 : decode cX11_end 14 = .ok (.ifCond .ne 5, 3) := by decide +kernel
theorem dX11_end_17 : decode cX11_end 17 = .ok (.iconst (-1), 1) := by decide +kernel
theorem dX11_end_18 : decode cX11_end 18 = .ok (.ireturn, 1) := by decide +kernel
theorem dX11_end_19 : decode cX11_end 19 = .ok (.aload_n 0, 1) := by decide +kernel
theorem dX11_end_20 : decode cX11_end 20 = .ok (.iload_n 1, 1) := by decide +kernel
theorem dX11_end_21 : decode cX11_end 21 = .ok (.putfield 304, 3) := by decide +kernel
theorem dX11_end_24 : decode cX11_end 24 = .ok (.iload_n 1, 1) := by decide +kernel
theorem dX11_end_25 : decode cX11_end 25 = .ok (.ireturn, 1) := by decide +kernel
theorem dX11_supply_0 : decode cX11_supply 0 = .ok (.aload_n 0, 1) := by decide +kernel
theorem dX11_supply_1 : decode cX11_supply 1 = .ok (.iconst 0, 1) := by decide +kernel
theorem dX11_supply_2 : decode cX11_supply 2 = .ok (.putfield 133, 3) := by decide +kernel
theorem dX11_supply_5 : decode cX11_supply 5 = .ok (.aload_n 0, 1) := by decide +kernel
theorem dX11_supply_6 : decode cX11_supply 6 = .ok (.getfield 199, 3) := by decide +kernel
theorem dX11_supply_9 : decode cX11_supply 9 = .ok (.ifCond .eq 5, 3) := by decide +kernel
theorem dX11_supply_12 : decode cX11_supply 12 = .ok (.iconst (-1), 1) := by decide +kernel
theorem dX11_supply_13 : decode cX11_supply 13 = .ok (.ireturn, 1) := by decide +kernel
theorem dX11_supply_14 : decode cX11_supply 14 = .ok (.aload_n 0, 1) := by decide +kernel
theorem dX11_supply_15 : decode cX11_supply 15 = .ok (.getfield 206, 3) := by decide +kernel
theorem dX11_supply_18 : decode cX11_supply 18 = .ok (.aload_n 0, 1) := by decide +kernel
theorem dX11_supply_19 : decode cX11_supply 19 = .ok (.getfield 304, 3) := by decide +kernel
theorem dX11_supply_22 : decode cX11_supply 22 = .ok (.iadd, 1) := by decide +kernel
theorem dX11_supply_23 : decode cX11_supply 23 = .ok (.sipush 1000, 3) := by decide +kernel
theorem dX11_supply_26 : decode cX11_supply 26 = .ok (.if_icmp .le 6, 3) := by decide +kernel
theorem dX11_supply_29 : decode cX11_supply 29 = .ok (.bipush (-2), 2) := by decide +kernel
theorem dX11_supply_31 : decode cX11_supply 31 = .ok (.ireturn, 1) := by decide +kernel
theorem dX11_supply_32 : decode cX11_supply 32 = .ok (.iconst 0, 1) := by decide +kernel
theorem dX11_supply_33 : decode cX11_supply 33 = .ok (.istore_n 1, 1) := by decide +kernel
theorem dX11_supply_34 : decode cX11_supply 34 = .ok (.iload_n 1, 1) := by decide +kernel
theorem dX11_supply_35 : decode cX11_supply 35 = .ok (.aload_n 0, 1) := by decide +kernel
theorem dX11_supply_36 : decode cX11_supply 36 = .ok (.getfield 304, 3) := by decide +kernel
theorem dX11_supply_39 : decode cX11_supply 39 = .ok (.if_icmp .ge 26, 3) := by decide +kernel
theorem dX11_supply_42 : decode cX11_supply 42 = .ok (.aload_n 0, 1) := by decide +kernel
theorem dX11_supply_43 : decode cX11_supply 43 = .ok (.getfield 199, 3) := by decide +kernel
theorem dX11_supply_46 : decode cX11_supply 46 = .ok (.ifCond .ne 19, 3) := by decide +kernel
theorem dX11_supply_49 : decode cX11_supply 49 = .ok (.aload_n 0, 1) := by decide +kernel
theorem dX11_supply_50 : decode cX11_supply 50 = .ok (.aload_n 0, 1) := by decide +kernel
theorem dX11_supply_51 : decode cX11_supply 51 = .ok (.getfield 114, 3) := by decide +kernel
theorem dX11_supply_54 : decode cX11_supply 54 = .ok (.iload_n 1, 1) := by decide +kernel
theorem dX11_supply_55 : decode cX11_supply 55 = .ok (.iaload, 1) := by decide +kernel
theorem dX11_supply_56 : decode cX11_supply 56 = .ok (.invokevirtual 307, 3) := by decide +kernel
theorem dX11_supply_59 : decode cX11_supply 59 = .ok (.iinc 1 1, 3) := by decide +kernel
theorem dX11_supply_62 : decode cX11_supply 62 = .ok (.goto (-28), 3) := by decide +kernel
theorem dX11_supply_65 : decode cX11_supply 65 = .ok (.aload_n 0, 1) := by decide +kernel
theorem dX11_supply_66 : decode cX11_supply 66 = .ok (.iconst 0, 1) := by decide +kernel
theorem dX11_supply_67 : decode cX11_supply 67 = .ok (.putfield 304, 3) := by decide +kernel
theorem dX11_supply_70 : decode cX11_supply 70 = .ok (.aload_n 0, 1) := by decide +kernel
theorem dX11_supply_71 : decode cX11_supply 71 = .ok (.getfield 199, 3) := by decide +kernel
theorem dX11_supply_74 : decode cX11_supply 74 = .ok (.ifCond .eq 7, 3) := by decide +kernel
theorem dX11_supply_77 : decode cX11_supply 77 = .ok (.iconst (-1), 1) := by decide +kernel
theorem dX11_supply_78 : decode cX11_supply 78 = .ok (.goto 7, 3) := by decide +kernel
theorem dX11_supply_81 : decode cX11_supply 81 = .ok (.aload_n 0, 1) := by decide +kernel
theorem dX11_supply_82 : decode cX11_supply 82 = .ok (.getfield 206, 3) := by decide +kernel
theorem dX11_supply_85 : decode cX11_supply 85 = .ok (.ireturn, 1) := by decide +kernel
theorem dX11_tests_0 : decode cX11_tests 0 = .ok (.aload_n 0, 1) := by decide +kernel
theorem dX11_tests_1 : decode cX11_tests 1 = .ok (.iconst 0, 1) := by decide +kernel
theorem dX11_tests_2 : decode cX11_tests 2 = .ok (.putfield 133, 3) := by decide +kernel
theorem dX11_tests_5 : decode cX11_tests 5 = .ok (.iload_n 1, 1) := by decide +kernel
theorem dX11_tests_6 : decode cX11_tests 6 = .ok (.iconst 2, 1) := by decide +kernel
theorem dX11_tests_7 : decode cX11_tests 7 = .ok (.bipush 40, 2) := by decide +kernel
theorem dX11_tests_9 : decode cX11_tests 9 = .ok (.invokestatic 297, 3) := by decide +kernel
theorem dX11_tests_12 : decode cX11_tests 12 = .ok (.ifCond .eq 24, 3) := by decide +kernel
theorem dX11_tests_15 : decode cX11_tests 15 = .ok (.iload_n 2, 1) := by decide +kernel
theorem dX11_tests_16 : decode cX11_tests 16 = .ok (.bipush 16, 2) := by decide +kernel
theorem dX11_tests_18 : decode cX11_tests 18 = .ok (.sipush 1024, 3) := by decide +kernel
theorem dX11_tests_21 : decode cX11_tests 21 = .ok (.invokestatic 297, 3) := by decide +kernel
theorem dX11_tests_24 : decode cX11_tests 24 = .ok (.ifCond .eq 12, 3) := by decide +kernel
theorem dX11_tests_27 : decode cX11_tests 27 = .ok (.iload_n 3, 1) := by decide +kernel
theorem dX11_tests_28 : decode cX11_tests 28 = .ok (.iconst 2, 1) := by decide +kernel
theorem dX11_tests_29 : decode cX11_tests 29 = .ok (.iload_n 2, 1) := by decide +kernel
theorem dX11_tests_30 : decode cX11_tests 30 = .ok (.invokestatic 297, 3) := by decide +kernel
theorem dX11_tests_33 : decode cX11_tests 33 = .ok (.ifCond .ne 5, 3) := by decide +kernel
theorem dX11_tests_36 : decode cX11_tests 36 = .ok (.iconst 0, 1) := by decide +kernel
theorem dX11_tests_37 : decode cX11_tests 37 = .ok (.ireturn, 1) := by decide +kernel
theorem dX11_tests_38 : decode cX11_tests 38 = .ok (.aload_n 0, 1) := by decide +kernel
theorem dX11_tests_39 : decode cX11_tests 39 = .ok (.iload_n 1, 1) := by decide +kernel
theorem dX11_tests_40 : decode cX11_tests 40 = .ok (.putfield 71, 3) := by decide +kernel
theorem dX11_tests_43 : decode cX11_tests 43 = .ok (.aload_n 0, 1) := by decide +kernel
theorem dX11_tests_44 : decode cX11_tests 44 = .ok (.iload_n 2, 1) := by decide +kernel
theorem dX11_tests_45 : decode cX11_tests 45 = .ok (.putfield 75, 3) := by decide +kernel
theorem dX11_tests_48 : decode cX11_tests 48 = .ok (.aload_n 0, 1) := by decide +kernel
theorem dX11_tests_49 : decode cX11_tests 49 = .ok (.iload_n 3, 1) := by decide +kernel
theorem dX11_tests_50 : decode cX11_tests 50 = .ok (.putfield 78, 3) := by decide +kernel
theorem dX11_tests_53 : decode cX11_tests 53 = .ok (.aload_n 0, 1) := by decide +kernel
theorem dX11_tests_54 : decode cX11_tests 54 = .ok (.iconst 0, 1) := by decide +kernel
theorem dX11_tests_55 : decode cX11_tests 55 = .ok (.putfield 206, 3) := by decide +kernel
theorem dX11_tests_58 : decode cX11_tests 58 = .ok (.aload_n 0, 1) := by decide +kernel
theorem dX11_tests_59 : decode cX11_tests 59 = .ok (.iconst 0, 1) := by decide +kernel
theorem dX11_tests_60 : decode cX11_tests 60 = .ok (.putfield 199, 3) := by decide +kernel
theorem dX11_tests_63 : decode cX11_tests 63 = .ok (.aload_n 0, 1) := by decide +kernel
theorem dX11_tests_64 : decode cX11_tests 64 = .ok (.iconst (-1), 1) := by decide +kernel
theorem dX11_tests_65 : decode cX11_tests 65 = .ok (.putfield 81, 3) := by decide +kernel
theorem dX11_tests_68 : decode cX11_tests 68 = .ok (.aload_n 0, 1) := by decide +kernel
theorem dX11_tests_69 : decode cX11_tests 69 = .ok (.iconst 0, 1) := by decide +kernel
theorem dX11_tests_70 : decode cX11_tests 70 = .ok (.putfield 190, 3) := by decide +kernel
theorem dX11_tests_73 : decode cX11_tests 73 = .ok (.aload_n 0, 1) := by decide +kernel
theorem dX11_tests_74 : decode cX11_tests 74 = .ok (.iconst (-1), 1) := by decide +kernel
theorem dX11_tests_75 : decode cX11_tests 75 = .ok (.putfield 84, 3) := by decide +kernel
theorem dX11_tests_78 : decode cX11_tests 78 = .ok (.iconst 1, 1) := by decide +kernel
theorem dX11_tests_79 : decode cX11_tests 79 = .ok (.ireturn, 1) := by decide +kernel
theorem dX11_source_0 : decode cX11_source 0 = .ok (.aload_n 0, 1) := by decide +kernel
theorem dX11_source_1 : decode cX11_source 1 = .ok (.iconst 0, 1) := by decide +kernel
theorem dX11_source_2 : decode cX11_source 2 = .ok (.putfield 133, 3) := by decide +kernel
theorem dX11_source_5 : decode cX11_source 5 = .ok (.iload_n 1, 1) := by decide +kernel
theorem dX11_source_6 : decode cX11_source 6 = .ok (.tableswitch 118 0 7 #[46, 51, 64, 69, 74, 91, 108, 113], 46) := by decide +kernel
theorem dX11_source_52 : decode cX11_source 52 = .ok (.aload_n 0, 1) := by decide +kernel
theorem dX11_source_53 : decode cX11_source 53 = .ok (.getfield 206, 3) := by decide +kernel
theorem dX11_source_56 : decode cX11_source 56 = .ok (.ireturn, 1) := by decide +kernel
theorem dX11_source_57 : decode cX11_source 57 = .ok (.aload_n 0, 1) := by decide +kernel
theorem dX11_source_58 : decode cX11_source 58 = .ok (.getfield 199, 3) := by decide +kernel
theorem dX11_source_61 : decode cX11_source 61 = .ok (.ifCond .eq 7, 3) := by decide +kernel
theorem dX11_source_64 : decode cX11_source 64 = .ok (.iconst 1, 1) := by decide +kernel
theorem dX11_source_65 : decode cX11_source 65 = .ok (.goto 4, 3) := by decide +kernel
theorem dX11_source_68 : decode cX11_source 68 = .ok (.iconst 0, 1) := by decide +kernel
theorem dX11_source_69 : decode cX11_source 69 = .ok (.ireturn, 1) := by decide +kernel
theorem dX11_source_70 : decode cX11_source 70 = .ok (.aload_n 0, 1) := by decide +kernel
theorem dX11_source_71 : decode cX11_source 71 = .ok (.getfield 190, 3) := by decide +kernel
theorem dX11_source_74 : decode cX11_source 74 = .ok (.ireturn, 1) := by decide +kernel
theorem dX11_source_75 : decode cX11_source 75 = .ok (.aload_n 0, 1) := by decide +kernel
theorem dX11_source_76 : decode cX11_source 76 = .ok (.getfield 84, 3) := by decide +kernel
theorem dX11_source_79 : decode cX11_source 79 = .ok (.ireturn, 1) := by decide +kernel
theorem dX11_source_80 : decode cX11_source 80 = .ok (.aload_n 0, 1) := by decide +kernel
theorem dX11_source_81 : decode cX11_source 81 = .ok (.getfield 84, 3) := by decide +kernel
theorem dX11_source_84 : decode cX11_source 84 = .ok (.iconst (-1), 1) := by decide +kernel
theorem dX11_source_85 : decode cX11_source 85 = .ok (.if_icmp .ne 7, 3) := by decide +kernel
theorem dX11_source_88 : decode cX11_source 88 = .ok (.iconst 0, 1) := by decide +kernel
theorem dX11_source_89 : decode cX11_source 89 = .ok (.goto 7, 3) := by decide +kernel
theorem dX11_source_92 : decode cX11_source 92 = .ok (.aload_n 0, 1) := by decide +kernel
theorem dX11_source_93 : decode cX11_source 93 = .ok (.getfield 193, 3) := by decide +kernel
theorem dX11_source_96 : decode cX11_source 96 = .ok (.ireturn, 1) := by decide +kernel
theorem dX11_source_97 : decode cX11_source 97 = .ok (.aload_n 0, 1) := by decide +kernel
theorem dX11_source_98 : decode cX11_source 98 = .ok (.getfield 84, 3) := by decide +kernel
theorem dX11_source_101 : decode cX11_source 101 = .ok (.iconst (-1), 1) := by decide +kernel
theorem dX11_source_102 : decode cX11_source 102 = .ok (.if_icmp .ne 7, 3) := by decide +kernel
theorem dX11_source_105 : decode cX11_source 105 = .ok (.iconst 0, 1) := by decide +kernel
theorem dX11_source_106 : decode cX11_source 106 = .ok (.goto 7, 3) := by decide +kernel
theorem dX11_source_109 : decode cX11_source 109 = .ok (.aload_n 0, 1) := by decide +kernel
theorem dX11_source_110 : decode cX11_source 110 = .ok (.getfield 196, 3) := by decide +kernel
theorem dX11_source_113 : decode cX11_source 113 = .ok (.ireturn, 1) := by decide +kernel
theorem dX11_source_114 : decode cX11_source 114 = .ok (.aload_n 0, 1) := by decide +kernel
theorem dX11_source_115 : decode cX11_source 115 = .ok (.getfield 209, 3) := by decide +kernel
theorem dX11_source_118 : decode cX11_source 118 = .ok (.ireturn, 1) := by decide +kernel
theorem dX11_source_119 : decode cX11_source 119 = .ok (.aload_n 0, 1) := by decide +kernel
theorem dX11_source_120 : decode cX11_source 120 = .ok (.getfield 203, 3) := by decide +kernel
theorem dX11_source_123 : decode cX11_source 123 = .ok (.ireturn, 1) := by decide +kernel
theorem dX11_source_124 : decode cX11_source 124 = .ok (.iconst (-1), 1) := by decide +kernel
theorem dX11_source_125 : decode cX11_source 125 = .ok (.ireturn, 1) := by decide +kernel
theorem dX11_open_0 : decode cX11_open 0 = .ok (.aload_n 0, 1) := by decide +kernel
theorem dX11_open_1 : decode cX11_open 1 = .ok (.iconst 0, 1) := by decide +kernel
theorem dX11_open_2 : decode cX11_open 2 = .ok (.putfield 133, 3) := by decide +kernel
theorem dX11_open_5 : decode cX11_open 5 = .ok (.iload_n 1, 1) := by decide +kernel
theorem dX11_open_6 : decode cX11_open 6 = .ok (.iconst 0, 1) := by decide +kernel
theorem dX11_open_7 : decode cX11_open 7 = .ok (.bipush 7, 2) := by decide +kernel
theorem dX11_open_9 : decode cX11_open 9 = .ok (.invokestatic 297, 3) := by decide +kernel
theorem dX11_open_12 : decode cX11_open 12 = .ok (.ifCond .eq 15, 3) := by decide +kernel
theorem dX11_open_15 : decode cX11_open 15 = .ok (.iload 4, 2) := by decide +kernel
theorem dX11_open_17 : decode cX11_open 17 = .ok (.iconst 1, 1) := by decide +kernel
theorem dX11_open_18 : decode cX11_open 18 = .ok (.ldc_w 310, 3) := by decide +kernel
theorem dX11_open_21 : decode cX11_open 21 = .ok (.invokestatic 297, 3) := by decide +kernel
theorem dX11_open_24 : decode cX11_open 24 = .ok (.ifCond .ne 6, 3) := by decide +kernel
theorem dX11_open_27 : decode cX11_open 27 = .ok (.bipush (-7), 2) := by decide +kernel
theorem dX11_open_29 : decode cX11_open 29 = .ok (.ireturn, 1) := by decide +kernel
theorem dX11_open_30 : decode cX11_open 30 = .ok (.iconst 0, 1) := by decide +kernel
theorem dX11_open_31 : decode cX11_open 31 = .ok (.istore 5, 2) := by decide +kernel
theorem dX11_open_33 : decode cX11_open 33 = .ok (.iload 5, 2) := by decide +kernel
theorem dX11_open_35 : decode cX11_open 35 = .ok (.iconst 4, 1) := by decide +kernel
theorem dX11_open_36 : decode cX11_open 36 = .ok (.if_icmp .ge 22, 3) := by decide +kernel
theorem dX11_open_39 : decode cX11_open 39 = .ok (.aload_n 0, 1) := by decide +kernel
theorem dX11_open_40 : decode cX11_open 40 = .ok (.getfield 92, 3) := by decide +kernel
theorem dX11_open_43 : decode cX11_open 43 = .ok (.iload 5, 2) := by decide +kernel
theorem dX11_open_45 : decode cX11_open 45 = .ok (.aaload, 1) := by decide +kernel
theorem dX11_open_46 : decode cX11_open 46 = .ok (.getfield 301, 3) := by decide +kernel
theorem dX11_open_49 : decode cX11_open 49 = .ok (.ifCond .eq 9, 3) := by decide +kernel
theorem dX11_open_52 : decode cX11_open 52 = .ok (.iinc 5 1, 3) := by decide +kernel
theorem dX11_open_55 : decode cX11_open 55 = .ok (.goto (-22), 3) := by decide +kernel
theorem dX11_open_58 : decode cX11_open 58 = .ok (.iload 5, 2) := by decide +kernel
theorem dX11_open_60 : decode cX11_open 60 = .ok (.iconst 4, 1) := by decide +kernel
theorem dX11_open_61 : decode cX11_open 61 = .ok (.if_icmp .ne 6, 3) := by decide +kernel
theorem dX11_open_64 : decode cX11_open 64 = .ok (.bipush (-8), 2) := by decide +kernel
theorem dX11_open_66 : decode cX11_open 66 = .ok (.ireturn, 1) := by decide +kernel
theorem dX11_open_67 : decode cX11_open 67 = .ok (.iload_n 2, 1) := by decide +kernel
theorem dX11_open_68 : decode cX11_open 68 = .ok (.iconst 1, 1) := by decide +kernel
theorem dX11_open_69 : decode cX11_open 69 = .ok (.iload_n 1, 1) := by decide +kernel
theorem dX11_open_70 : decode cX11_open 70 = .ok (.iconst 4, 1) := by decide +kernel
theorem dX11_open_71 : decode cX11_open 71 = .ok (.if_icmp .eq 9, 3) := by decide +kernel
theorem dX11_open_74 : decode cX11_open 74 = .ok (.iload_n 1, 1) := by decide +kernel
theorem dX11_open_75 : decode cX11_open 75 = .ok (.bipush 6, 2) := by decide +kernel
theorem dX11_open_77 : decode cX11_open 77 = .ok (.if_icmp .ne 9, 3) := by decide +kernel
theorem dX11_open_80 : decode cX11_open 80 = .ok (.sipush 128, 3) := by decide +kernel
theorem dX11_open_83 : decode cX11_open 83 = .ok (.goto 6, 3) := by decide +kernel
theorem dX11_open_86 : decode cX11_open 86 = .ok (.sipush 256, 3) := by decide +kernel
theorem dX11_open_89 : decode cX11_open 89 = .ok (.invokestatic 297, 3) := by decide +kernel
theorem dX11_open_92 : decode cX11_open 92 = .ok (.ifCond .ne 6, 3) := by decide +kernel
theorem dX11_open_95 : decode cX11_open 95 = .ok (.bipush (-3), 2) := by decide +kernel
theorem dX11_open_97 : decode cX11_open 97 = .ok (.ireturn, 1) := by decide +kernel
theorem dX11_open_98 : decode cX11_open 98 = .ok (.aload_n 0, 1) := by decide +kernel
theorem dX11_open_99 : decode cX11_open 99 = .ok (.getfield 92, 3) := by decide +kernel
theorem dX11_open_102 : decode cX11_open 102 = .ok (.iload 5, 2) := by decide +kernel
theorem dX11_open_104 : decode cX11_open 104 = .ok (.aaload, 1) := by decide +kernel
theorem dX11_open_105 : decode cX11_open 105 = .ok (.astore 6, 2) := by decide +kernel
theorem dX11_open_107 : decode cX11_open 107 = .ok (.aload 6, 2) := by decide +kernel
theorem dX11_open_109 : decode cX11_open 109 = .ok (.iload_n 1, 1) := by decide +kernel
theorem dX11_open_110 : decode cX11_open 110 = .ok (.putfield 271, 3) := by decide +kernel
theorem dX11_open_113 : decode cX11_open 113 = .ok (.aload 6, 2) := by decide +kernel
theorem dX11_open_115 : decode cX11_open 115 = .ok (.iload_n 2, 1) := by decide +kernel
theorem dX11_open_116 : decode cX11_open 116 = .ok (.bipush 112, 2) := by decide +kernel
theorem dX11_open_118 : decode cX11_open 118 = .ok (.if_icmp .gt 8, 3) := by decide +kernel
theorem dX11_open_121 : decode cX11_open 121 = .ok (.bipush 112, 2) := by decide +kernel
theorem dX11_open_123 : decode cX11_open 123 = .ok (.goto 32, 3) := by decide +kernel
theorem dX11_open_126 : decode cX11_open 126 = .ok (.iload_n 2, 1) := by decide +kernel
theorem dX11_open_127 : decode cX11_open 127 = .ok (.sipush 128, 3) := by decide +kernel
theorem dX11_open_130 : decode cX11_open 130 = .ok (.if_icmp .gt 9, 3) := by decide +kernel
theorem dX11_open_133 : decode cX11_open 133 = .ok (.sipush 128, 3) := by decide +kernel
theorem dX11_open_136 : decode cX11_open 136 = .ok (.goto 19, 3) := by decide +kernel
theorem dX11_open_139 : decode cX11_open 139 = .ok (.iload_n 2, 1) := by decide +kernel
theorem dX11_open_140 : decode cX11_open 140 = .ok (.sipush 192, 3) := by decide +kernel
theorem dX11_open_143 : decode cX11_open 143 = .ok (.if_icmp .gt 9, 3) := by decide +kernel
theorem dX11_open_146 : decode cX11_open 146 = .ok (.sipush 192, 3) := by decide +kernel
theorem dX11_open_149 : decode cX11_open 149 = .ok (.goto 6, 3) := by decide +kernel
theorem dX11_open_152 : decode cX11_open 152 = .ok (.sipush 256, 3) := by decide +kernel
theorem dX11_open_155 : decode cX11_open 155 = .ok (.putfield 311, 3) := by decide +kernel
theorem dX11_open_158 : decode cX11_open 158 = .ok (.aload 6, 2) := by decide +kernel
theorem dX11_open_160 : decode cX11_open 160 = .ok (.aload_n 0, 1) := by decide +kernel
theorem dX11_open_161 : decode cX11_open 161 = .ok (.getfield 304, 3) := by decide +kernel
theorem dX11_open_164 : decode cX11_open 164 = .ok (.invokestatic 314, 3) := by decide +kernel
theorem dX11_open_167 : decode cX11_open 167 = .ok (.ifCond .eq 6, 3) := by decide +kernel
theorem dX11_open_170 : decode cX11_open 170 = .ok (.bipush (-4), 2) := by decide +kernel
theorem dX11_open_172 : decode cX11_open 172 = .ok (.ireturn, 1) := by decide +kernel
theorem dX11_open_173 : decode cX11_open 173 = .ok (.aload 6, 2) := by decide +kernel
theorem dX11_open_175 : decode cX11_open 175 = .ok (.invokevirtual 281, 3) := by decide +kernel
theorem dX11_open_178 : decode cX11_open 178 = .ok (.iload_n 1, 1) := by decide +kernel
theorem dX11_open_179 : decode cX11_open 179 = .ok (.bipush 6, 2) := by decide +kernel
theorem dX11_open_181 : decode cX11_open 181 = .ok (.if_icmp .ge 13, 3) := by decide +kernel
theorem dX11_open_184 : decode cX11_open 184 = .ok (.aload 6, 2) := by decide +kernel
theorem dX11_open_186 : decode cX11_open 186 = .ok (.invokevirtual 281, 3) := by decide +kernel
theorem dX11_open_189 : decode cX11_open 189 = .ok (.iconst 2, 1) := by decide +kernel
theorem dX11_open_190 : decode cX11_open 190 = .ok (.idiv, 1) := by decide +kernel
theorem dX11_open_191 : decode cX11_open 191 = .ok (.goto 4, 3) := by decide +kernel
theorem dX11_open_194 : decode cX11_open 194 = .ok (.iconst 0, 1) := by decide +kernel
theorem dX11_open_195 : decode cX11_open 195 = .ok (.iadd, 1) := by decide +kernel
theorem dX11_open_196 : decode cX11_open 196 = .ok (.aload_n 0, 1) := by decide +kernel
theorem dX11_open_197 : decode cX11_open 197 = .ok (.getfield 206, 3) := by decide +kernel
theorem dX11_open_200 : decode cX11_open 200 = .ok (.if_icmp .le 6, 3) := by decide +kernel
theorem dX11_open_203 : decode cX11_open 203 = .ok (.bipush (-6), 2) := by decide +kernel
theorem dX11_open_205 : decode cX11_open 205 = .ok (.ireturn, 1) := by decide +kernel
theorem dX11_open_206 : decode cX11_open 206 = .ok (.aload 6, 2) := by decide +kernel
theorem dX11_open_208 : decode cX11_open 208 = .ok (.iconst 1, 1) := by decide +kernel
theorem dX11_open_209 : decode cX11_open 209 = .ok (.putfield 301, 3) := by decide +kernel
theorem dX11_open_212 : decode cX11_open 212 = .ok (.aload 6, 2) := by decide +kernel
theorem dX11_open_214 : decode cX11_open 214 = .ok (.iload 4, 2) := by decide +kernel
theorem dX11_open_216 : decode cX11_open 216 = .ok (.putfield 318, 3) := by decide +kernel
theorem dX11_open_219 : decode cX11_open 219 = .ok (.aload 6, 2) := by decide +kernel
theorem dX11_open_221 : decode cX11_open 221 = .ok (.iload_n 3, 1) := by decide +kernel
theorem dX11_open_222 : decode cX11_open 222 = .ok (.putfield 321, 3) := by decide +kernel
theorem dX11_open_225 : decode cX11_open 225 = .ok (.aload 6, 2) := by decide +kernel
theorem dX11_open_227 : decode cX11_open 227 = .ok (.iconst 0, 1) := by decide +kernel
theorem dX11_open_228 : decode cX11_open 228 = .ok (.putfield 324, 3) := by decide +kernel
theorem dX11_open_231 : decode cX11_open 231 = .ok (.aload 6, 2) := by decide +kernel
theorem dX11_open_233 : decode cX11_open 233 = .ok (.iconst 0, 1) := by decide +kernel
theorem dX11_open_234 : decode cX11_open 234 = .ok (.putfield 294, 3) := by decide +kernel
theorem dX11_open_237 : decode cX11_open 237 = .ok (.aload_n 0, 1) := by decide +kernel
theorem dX11_open_238 : decode cX11_open 238 = .ok (.aload 6, 2) := by decide +kernel
theorem dX11_open_240 : decode cX11_open 240 = .ok (.iconst 1, 1) := by decide +kernel
theorem dX11_open_241 : decode cX11_open 241 = .ok (.aload_n 0, 1) := by decide +kernel
theorem dX11_open_242 : decode cX11_open 242 = .ok (.getfield 304, 3) := by decide +kernel
theorem dX11_open_245 : decode cX11_open 245 = .ok (.invokevirtual 327, 3) := by decide +kernel
theorem dX11_open_248 : decode cX11_open 248 = .ok (.aload_n 0, 1) := by decide +kernel
theorem dX11_open_249 : decode cX11_open 249 = .ok (.iconst 0, 1) := by decide +kernel
theorem dX11_open_250 : decode cX11_open 250 = .ok (.putfield 304, 3) := by decide +kernel
theorem dX11_open_253 : decode cX11_open 253 = .ok (.iload 5, 2) := by decide +kernel
theorem dX11_open_255 : decode cX11_open 255 = .ok (.ireturn, 1) := by decide +kernel
theorem dX11_close_0 : decode cX11_close 0 = .ok (.aload_n 0, 1) := by decide +kernel
theorem dX11_close_1 : decode cX11_close 1 = .ok (.iconst 0, 1) := by decide +kernel
theorem dX11_close_2 : decode cX11_close 2 = .ok (.putfield 133, 3) := by decide +kernel
theorem dX11_close_5 : decode cX11_close 5 = .ok (.aload_n 0, 1) := by decide +kernel
theorem dX11_close_6 : decode cX11_close 6 = .ok (.iload_n 1, 1) := by decide +kernel
theorem dX11_close_7 : decode cX11_close 7 = .ok (.invokevirtual 330, 3) := by decide +kernel
theorem dX11_close_10 : decode cX11_close 10 = .ok (.ifCond .ne 5, 3) := by decide +kernel
theorem dX11_close_13 : decode cX11_close 13 = .ok (.iconst 0, 1) := by decide +kernel
theorem dX11_close_14 : decode cX11_close 14 = .ok (.ireturn, 1) := by decide +kernel
theorem dX11_close_15 : decode cX11_close 15 = .ok (.aload_n 0, 1) := by decide +kernel
theorem dX11_close_16 : decode cX11_close 16 = .ok (.getfield 92, 3) := by decide +kernel
theorem dX11_close_19 : decode cX11_close 19 = .ok (.iload_n 1, 1) := by decide +kernel
theorem dX11_close_20 : decode cX11_close 20 = .ok (.aaload, 1) := by decide +kernel
theorem dX11_close_21 : decode cX11_close 21 = .ok (.iconst 0, 1) := by decide +kernel
theorem dX11_close_22 : decode cX11_close 22 = .ok (.putfield 301, 3) := by decide +kernel
theorem dX11_close_25 : decode cX11_close 25 = .ok (.iconst 1, 1) := by decide +kernel
theorem dX11_close_26 : decode cX11_close 26 = .ok (.ireturn, 1) := by decide +kernel
theorem dX11_reseed_0 : decode cX11_reseed 0 = .ok (.aload_n 0, 1) := by decide +kernel
theorem dX11_reseed_1 : decode cX11_reseed 1 = .ok (.iconst 0, 1) := by decide +kernel
theorem dX11_reseed_2 : decode cX11_reseed 2 = .ok (.putfield 133, 3) := by decide +kernel
theorem dX11_reseed_5 : decode cX11_reseed 5 = .ok (.aload_n 0, 1) := by decide +kernel
theorem dX11_reseed_6 : decode cX11_reseed 6 = .ok (.iload_n 1, 1) := by decide +kernel
theorem dX11_reseed_7 : decode cX11_reseed 7 = .ok (.invokevirtual 330, 3) := by decide +kernel
theorem dX11_reseed_10 : decode cX11_reseed 10 = .ok (.ifCond .ne 5, 3) := by decide +kernel
theorem dX11_reseed_13 : decode cX11_reseed 13 = .ok (.iconst 1, 1) := by decide +kernel
theorem dX11_reseed_14 : decode cX11_reseed 14 = .ok (.ireturn, 1) := by decide +kernel
theorem dX11_reseed_15 : decode cX11_reseed 15 = .ok (.aload_n 0, 1) := by decide +kernel
theorem dX11_reseed_16 : decode cX11_reseed 16 = .ok (.getfield 92, 3) := by decide +kernel
theorem dX11_reseed_19 : decode cX11_reseed 19 = .ok (.iload_n 1, 1) := by decide +kernel
theorem dX11_reseed_20 : decode cX11_reseed 20 = .ok (.aaload, 1) := by decide +kernel
theorem dX11_reseed_21 : decode cX11_reseed 21 = .ok (.astore_n 3, 1) := by decide +kernel
theorem dX11_reseed_22 : decode cX11_reseed 22 = .ok (.aload_n 3, 1) := by decide +kernel
theorem dX11_reseed_23 : decode cX11_reseed 23 = .ok (.aload_n 0, 1) := by decide +kernel
theorem dX11_reseed_24 : decode cX11_reseed 24 = .ok (.getfield 304, 3) := by decide +kernel
theorem dX11_reseed_27 : decode cX11_reseed 27 = .ok (.invokestatic 314, 3) := by decide +kernel
theorem dX11_reseed_30 : decode cX11_reseed 30 = .ok (.ifCond .eq 5, 3) := by decide +kernel
theorem dX11_reseed_33 : decode cX11_reseed 33 = .ok (.iconst 4, 1) := by decide +kernel
theorem dX11_reseed_34 : decode cX11_reseed 34 = .ok (.ireturn, 1) := by decide +kernel
theorem dX11_reseed_35 : decode cX11_reseed 35 = .ok (.iload_n 2, 1) := by decide +kernel
theorem dX11_reseed_36 : decode cX11_reseed 36 = .ok (.ifCond .eq 12, 3) := by decide +kernel
theorem dX11_reseed_39 : decode cX11_reseed 39 = .ok (.aload_n 3, 1) := by decide +kernel
theorem dX11_reseed_40 : decode cX11_reseed 40 = .ok (.getfield 321, 3) := by decide +kernel
theorem dX11_reseed_43 : decode cX11_reseed 43 = .ok (.ifCond .ne 5, 3) := by decide +kernel
theorem dX11_reseed_46 : decode cX11_reseed 46 = .ok (.iconst 5, 1) := by decide +kernel
theorem dX11_reseed_47 : decode cX11_reseed 47 = .ok (.ireturn, 1) := by decide +kernel
theorem dX11_reseed_48 : decode cX11_reseed 48 = .ok (.aload_n 3, 1) := by decide +kernel
theorem dX11_reseed_49 : decode cX11_reseed 49 = .ok (.invokevirtual 281, 3) := by decide +kernel
theorem dX11_reseed_52 : decode cX11_reseed 52 = .ok (.aload_n 0, 1) := by decide +kernel
theorem dX11_reseed_53 : decode cX11_reseed 53 = .ok (.getfield 206, 3) := by decide +kernel
theorem dX11_reseed_56 : decode cX11_reseed 56 = .ok (.if_icmp .le 6, 3) := by decide +kernel
