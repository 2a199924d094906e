theorem d_Model_rule_196 : decode b_Model_rule 196 = .ok (.iinc 7 1, 3) := by decide +kernel
theorem d_Model_rule_199 : decode b_Model_rule 199 = .ok (.goto (-33), 3) := by decide +kernel
theorem d_Model_rule_202 : decode b_Model_rule 202 = .ok (.iconst 0, 1) := by decide +kernel
theorem d_Model_rule_203 : decode b_Model_rule 203 = .ok (.istore 7, 2) := by decide +kernel
theorem d_Model_rule_205 : decode b_Model_rule 205 = .ok (.iload 7, 2) := by decide +kernel
theorem d_Model_rule_207 : decode b_Model_rule 207 = .ok (.iload 6, 2) := by decide +kernel
theorem d_Model_rule_209 : decode b_Model_rule 209 = .ok (.if_icmp .ge 37, 3) := by decide +kernel
theorem d_Model_rule_212 : decode b_Model_rule 212 = .ok (.aload_n 0, 1) := by decide +kernel
theorem d_Model_rule_213 : decode b_Model_rule 213 = .ok (.getfield 32, 3) := by decide +kernel
theorem d_Model_rule_216 : decode b_Model_rule 216 = .ok (.sipush 200, 3) := by decide +kernel
theorem d_Model_rule_219 : decode b_Model_rule 219 = .ok (.aload_n 0, 1) := by decide +kernel
theorem d_Model_rule_220 : decode b_Model_rule 220 = .ok (.getfield 92, 3) := by decide +kernel
theorem d_Model_rule_223 : decode b_Model_rule 223 = .ok (.imul, 1) := by decide +kernel
theorem d_Model_rule_224 : decode b_Model_rule 224 = .ok (.iload 7, 2) := by decide +kernel
theorem d_Model_rule_226 : decode b_Model_rule 226 = .ok (.iadd, 1) := by decide +kernel
theorem d_Model_rule_227 : decode b_Model_rule 227 = .ok (.aload_n 0, 1) := by decide +kernel
theorem d_Model_rule_228 : decode b_Model_rule 228 = .ok (.getfield 7, 3) := by decide +kernel
theorem d_Model_rule_231 : decode b_Model_rule 231 = .ok (.iload 5, 2) := by decide +kernel
theorem d_Model_rule_233 : decode b_Model_rule 233 = .ok (.iconst 1, 1) := by decide +kernel
theorem d_Model_rule_234 : decode b_Model_rule 234 = .ok (.iadd, 1) := by decide +kernel
theorem d_Model_rule_235 : decode b_Model_rule 235 = .ok (.iload 7, 2) := by decide +kernel
theorem d_Model_rule_237 : decode b_Model_rule 237 = .ok (.iadd, 1) := by decide +kernel
theorem d_Model_rule_238 : decode b_Model_rule 238 = .ok (.baload, 1) := by decide +kernel
theorem d_Model_rule_239 : decode b_Model_rule 239 = .ok (.bastore, 1) := by decide +kernel
theorem d_Model_rule_240 : decode b_Model_rule 240 = .ok (.iinc 7 1, 3) := by decide +kernel
theorem d_Model_rule_243 : decode b_Model_rule 243 = .ok (.goto (-38), 3) := by decide +kernel
theorem d_Model_rule_246 : decode b_Model_rule 246 = .ok (.aload_n 0, 1) := by decide +kernel
theorem d_Model_rule_247 : decode b_Model_rule 247 = .ok (.dup, 1) := by decide +kernel
theorem d_Model_rule_248 : decode b_Model_rule 248 = .ok (.getfield 92, 3) := by decide +kernel
theorem d_Model_rule_251 : decode b_Model_rule 251 = .ok (.iconst 1, 1) := by decide +kernel
theorem d_Model_rule_252 : decode b_Model_rule 252 = .ok (.iadd, 1) := by decide +kernel
theorem d_Model_rule_253 : decode b_Model_rule 253 = .ok (.putfield 92, 3) := by decide +kernel
theorem d_Model_rule_256 : decode b_Model_rule 256 = .ok (.aload_n 0, 1) := by decide +kernel
theorem d_Model_rule_257 : decode b_Model_rule 257 = .ok (.getfield 92, 3) := by decide +kernel
theorem d_Model_rule_260 : decode b_Model_rule 260 = .ok (.iconst 1, 1) := by decide +kernel
theorem d_Model_rule_261 : decode b_Model_rule 261 = .ok (.isub, 1) := by decide +kernel
theorem d_Model_rule_262 : decode b_Model_rule 262 = .ok (.ireturn, 1) := by decide +kernel
theorem d_Model_gets_0 : decode b_Model_gets 0 = .ok (.iconst 0, 1) := by decide +kernel
theorem d_Model_gets_1 : decode b_Model_gets 1 = .ok (.istore_n 1, 1) := by decide +kernel
theorem d_Model_gets_2 : decode b_Model_gets 2 = .ok (.iload_n 1, 1) := by decide +kernel
theorem d_Model_gets_3 : decode b_Model_gets 3 = .ok (.aload_n 0, 1) := by decide +kernel
theorem d_Model_gets_4 : decode b_Model_gets 4 = .ok (.getfield 92, 3) := by decide +kernel
theorem d_Model_gets_7 : decode b_Model_gets 7 = .ok (.if_icmp .ge 30, 3) := by decide +kernel
theorem d_Model_gets_10 : decode b_Model_gets 10 = .ok (.aload_n 0, 1) := by decide +kernel
theorem d_Model_gets_11 : decode b_Model_gets 11 = .ok (.getfield 13, 3) := by decide +kernel
theorem d_Model_gets_14 : decode b_Model_gets 14 = .ok (.iload_n 1, 1) := by decide +kernel
theorem d_Model_gets_15 : decode b_Model_gets 15 = .ok (.iaload, 1) := by decide +kernel
theorem d_Model_gets_16 : decode b_Model_gets 16 = .ok (.aload_n 0, 1) := by decide +kernel
theorem d_Model_gets_17 : decode b_Model_gets 17 = .ok (.getfield 95, 3) := by decide +kernel
theorem d_Model_gets_20 : decode b_Model_gets 20 = .ok (.if_icmp .ne 11, 3) := by decide +kernel
theorem d_Model_gets_23 : decode b_Model_gets 23 = .ok (.aload_n 0, 1) := by decide +kernel
theorem d_Model_gets_24 : decode b_Model_gets 24 = .ok (.iload_n 1, 1) := by decide +kernel
theorem d_Model_gets_25 : decode b_Model_gets 25 = .ok (.invokevirtual 98, 3) := by decide +kernel
theorem d_Model_gets_28 : decode b_Model_gets 28 = .ok (.ifCond .ne 9, 3) := by decide +kernel
theorem d_Model_gets_31 : decode b_Model_gets 31 = .ok (.iinc 1 1, 3) := by decide +kernel
theorem d_Model_gets_34 : decode b_Model_gets 34 = .ok (.goto (-32), 3) := by decide +kernel
theorem d_Model_gets_37 : decode b_Model_gets 37 = .ok (.aload_n 0, 1) := by decide +kernel
theorem d_Model_gets_38 : decode b_Model_gets 38 = .ok (.iconst 0, 1) := by decide +kernel
theorem d_Model_gets_39 : decode b_Model_gets 39 = .ok (.putfield 86, 3) := by decide +kernel
theorem d_Model_gets_42 : decode b_Model_gets 42 = .ok (.iload_n 1, 1) := by decide +kernel
theorem d_Model_gets_43 : decode b_Model_gets 43 = .ok (.aload_n 0, 1) := by decide +kernel
theorem d_Model_gets_44 : decode b_Model_gets 44 = .ok (.getfield 92, 3) := by decide +kernel
theorem d_Model_gets_47 : decode b_Model_gets 47 = .ok (.if_icmp .ne 4, 3) := by decide +kernel
theorem d_Model_gets_50 : decode b_Model_gets 50 = .ok (.return_, 1) := by decide +kernel
theorem d_Model_gets_51 : decode b_Model_gets 51 = .ok (.aload_n 0, 1) := by decide +kernel
theorem d_Model_gets_52 : decode b_Model_gets 52 = .ok (.aload_n 0, 1) := by decide +kernel
theorem d_Model_gets_53 : decode b_Model_gets 53 = .ok (.getfield 20, 3) := by decide +kernel
theorem d_Model_gets_56 : decode b_Model_gets 56 = .ok (.iload_n 1, 1) := by decide +kernel
theorem d_Model_gets_57 : decode b_Model_gets 57 = .ok (.iaload, 1) := by decide +kernel
theorem d_Model_gets_58 : decode b_Model_gets 58 = .ok (.putfield 95, 3) := by decide +kernel
theorem d_Model_gets_61 : decode b_Model_gets 61 = .ok (.aload_n 0, 1) := by decide +kernel
theorem d_Model_gets_62 : decode b_Model_gets 62 = .ok (.getfield 102, 3) := by decide +kernel
theorem d_Model_gets_65 : decode b_Model_gets 65 = .ok (.bipush 64, 2) := by decide +kernel
theorem d_Model_gets_67 : decode b_Model_gets 67 = .ok (.if_icmp .ge 44, 3) := by decide +kernel
theorem d_Model_gets_70 : decode b_Model_gets 70 = .ok (.aload_n 0, 1) := by decide +kernel
theorem d_Model_gets_71 : decode b_Model_gets 71 = .ok (.getfield 38, 3) := by decide +kernel
theorem d_Model_gets_74 : decode b_Model_gets 74 = .ok (.aload_n 0, 1) := by decide +kernel
theorem d_Model_gets_75 : decode b_Model_gets 75 = .ok (.getfield 102, 3) := by decide +kernel
theorem d_Model_gets_78 : decode b_Model_gets 78 = .ok (.aload_n 0, 1) := by decide +kernel
theorem d_Model_gets_79 : decode b_Model_gets 79 = .ok (.getfield 105, 3) := by decide +kernel
theorem d_Model_gets_82 : decode b_Model_gets 82 = .ok (.aload_n 0, 1) := by decide +kernel
theorem d_Model_gets_83 : decode b_Model_gets 83 = .ok (.getfield 17, 3) := by decide +kernel
theorem d_Model_gets_86 : decode b_Model_gets 86 = .ok (.iload_n 1, 1) := by decide +kernel
theorem d_Model_gets_87 : decode b_Model_gets 87 = .ok (.iaload, 1) := by decide +kernel
theorem d_Model_gets_88 : decode b_Model_gets 88 = .ok (.i2l, 1) := by decide +kernel
theorem d_Model_gets_89 : decode b_Model_gets 89 = .ok (.ladd, 1) := by decide +kernel
theorem d_Model_gets_90 : decode b_Model_gets 90 = .ok (.lastore, 1) := by decide +kernel
theorem d_Model_gets_91 : decode b_Model_gets 91 = .ok (.aload_n 0, 1) := by decide +kernel
theorem d_Model_gets_92 : decode b_Model_gets 92 = .ok (.getfield 42, 3) := by decide +kernel
theorem d_Model_gets_95 : decode b_Model_gets 95 = .ok (.aload_n 0, 1) := by decide +kernel
theorem d_Model_gets_96 : decode b_Model_gets 96 = .ok (.getfield 102, 3) := by decide +kernel
theorem d_Model_gets_99 : decode b_Model_gets 99 = .ok (.iload_n 1, 1) := by decide +kernel
theorem d_Model_gets_100 : decode b_Model_gets 100 = .ok (.iastore, 1) := by decide +kernel
theorem d_Model_gets_101 : decode b_Model_gets 101 = .ok (.aload_n 0, 1) := by decide +kernel
theorem d_Model_gets_102 : decode b_Model_gets 102 = .ok (.dup, 1) := by decide +kernel
theorem d_Model_gets_103 : decode b_Model_gets 103 = .ok (.getfield 102, 3) := by decide +kernel
theorem d_Model_gets_106 : decode b_Model_gets 106 = .ok (.iconst 1, 1) := by decide +kernel
theorem d_Model_gets_107 : decode b_Model_gets 107 = .ok (.iadd, 1) := by decide +kernel
theorem d_Model_gets_108 : decode b_Model_gets 108 = .ok (.putfield 102, 3) := by decide +kernel
theorem d_Model_gets_111 : decode b_Model_gets 111 = .ok (.return_, 1) := by decide +kernel
theorem d_Model_spawn_0 : decode b_Model_spawn 0 = .ok (.aload_n 0, 1) := by decide +kernel
theorem d_Model_spawn_1 : decode b_Model_spawn 1 = .ok (.iconst 1, 1) := by decide +kernel
theorem d_Model_spawn_2 : decode b_Model_spawn 2 = .ok (.putfield 109, 3) := by decide +kernel
theorem d_Model_spawn_5 : decode b_Model_spawn 5 = .ok (.aload_n 0, 1) := by decide +kernel
theorem d_Model_spawn_6 : decode b_Model_spawn 6 = .ok (.iconst 0, 1) := by decide +kernel
theorem d_Model_spawn_7 : decode b_Model_spawn 7 = .ok (.putfield 95, 3) := by decide +kernel
theorem d_Model_spawn_10 : decode b_Model_spawn 10 = .ok (.aload_n 0, 1) := by decide +kernel
theorem d_Model_spawn_11 : decode b_Model_spawn 11 = .ok (.iconst 0, 1) := by decide +kernel
theorem d_Model_spawn_12 : decode b_Model_spawn 12 = .ok (.putfield 86, 3) := by decide +kernel
theorem d_Model_spawn_15 : decode b_Model_spawn 15 = .ok (.aload_n 0, 1) := by decide +kernel
theorem d_Model_spawn_16 : decode b_Model_spawn 16 = .ok (.iconst 0, 1) := by decide +kernel
theorem d_Model_spawn_17 : decode b_Model_spawn 17 = .ok (.putfield 102, 3) := by decide +kernel
theorem d_Model_spawn_20 : decode b_Model_spawn 20 = .ok (.aload_n 0, 1) := by decide +kernel
theorem d_Model_spawn_21 : decode b_Model_spawn 21 = .ok (.iconst 0, 1) := by decide +kernel
theorem d_Model_spawn_22 : decode b_Model_spawn 22 = .ok (.putfield 113, 3) := by decide +kernel
theorem d_Model_spawn_25 : decode b_Model_spawn 25 = .ok (.aload_n 0, 1) := by decide +kernel
theorem d_Model_spawn_26 : decode b_Model_spawn 26 = .ok (.invokevirtual 116, 3) := by decide +kernel
theorem d_Model_spawn_29 : decode b_Model_spawn 29 = .ok (.return_, 1) := by decide +kernel
theorem d_Model_tell_0 : decode b_Model_tell 0 = .ok (.iload_n 1, 1) := by decide +kernel
theorem d_Model_tell_1 : decode b_Model_tell 1 = .ok (.iconst 3, 1) := by decide +kernel
theorem d_Model_tell_2 : decode b_Model_tell 2 = .ok (.if_icmp .ne 10, 3) := by decide +kernel
theorem d_Model_tell_5 : decode b_Model_tell 5 = .ok (.iload 4, 2) := by decide +kernel
theorem d_Model_tell_7 : decode b_Model_tell 7 = .ok (.iconst 2, 1) := by decide +kernel
theorem d_Model_tell_8 : decode b_Model_tell 8 = .ok (.iadd, 1) := by decide +kernel
theorem d_Model_tell_9 : decode b_Model_tell 9 = .ok (.goto 7, 3) := by decide +kernel
theorem d_Model_tell_12 : decode b_Model_tell 12 = .ok (.iload 4, 2) := by decide +kernel
theorem d_Model_tell_14 : decode b_Model_tell 14 = .ok (.iconst 1, 1) := by decide +kernel
theorem d_Model_tell_15 : decode b_Model_tell 15 = .ok (.iadd, 1) := by decide +kernel
theorem d_Model_tell_16 : decode b_Model_tell 16 = .ok (.istore 5, 2) := by decide +kernel
theorem d_Model_tell_18 : decode b_Model_tell 18 = .ok (.aload_n 0, 1) := by decide +kernel
theorem d_Model_tell_19 : decode b_Model_tell 19 = .ok (.getfield 119, 3) := by decide +kernel
theorem d_Model_tell_22 : decode b_Model_tell 22 = .ok (.iload 5, 2) := by decide +kernel
theorem d_Model_tell_24 : decode b_Model_tell 24 = .ok (.iadd, 1) := by decide +kernel
theorem d_Model_tell_25 : decode b_Model_tell 25 = .ok (.ldc 48, 2) := by decide +kernel
theorem d_Model_tell_27 : decode b_Model_tell 27 = .ok (.if_icmp .le 4, 3) := by decide +kernel
theorem d_Model_tell_30 : decode b_Model_tell 30 = .ok (.return_, 1) := by decide +kernel
theorem d_Model_tell_31 : decode b_Model_tell 31 = .ok (.aload_n 0, 1) := by decide +kernel
theorem d_Model_tell_32 : decode b_Model_tell 32 = .ok (.getfield 49, 3) := by decide +kernel
theorem d_Model_tell_35 : decode b_Model_tell 35 = .ok (.aload_n 0, 1) := by decide +kernel
theorem d_Model_tell_36 : decode b_Model_tell 36 = .ok (.getfield 119, 3) := by decide +kernel
theorem d_Model_tell_39 : decode b_Model_tell 39 = .ok (.iload_n 1, 1) := by decide +kernel
theorem d_Model_tell_40 : decode b_Model_tell 40 = .ok (.i2b, 1) := by decide +kernel
theorem d_Model_tell_41 : decode b_Model_tell 41 = .ok (.bastore, 1) := by decide +kernel
theorem d_Model_tell_42 : decode b_Model_tell 42 = .ok (.iconst 0, 1) := by decide +kernel
theorem d_Model_tell_43 : decode b_Model_tell 43 = .ok (.istore 6, 2) := by decide +kernel
theorem d_Model_tell_45 : decode b_Model_tell 45 = .ok (.iload 6, 2) := by decide +kernel
theorem d_Model_tell_47 : decode b_Model_tell 47 = .ok (.iload 4, 2) := by decide +kernel
theorem d_Model_tell_49 : decode b_Model_tell 49 = .ok (.if_icmp .ge 29, 3) := by decide +kernel
theorem d_Model_tell_52 : decode b_Model_tell 52 = .ok (.aload_n 0, 1) := by decide +kernel
theorem d_Model_tell_53 : decode b_Model_tell 53 = .ok (.getfield 49, 3) := by decide +kernel
theorem d_Model_tell_56 : decode b_Model_tell 56 = .ok (.aload_n 0, 1) := by decide +kernel
theorem d_Model_tell_57 : decode b_Model_tell 57 = .ok (.getfield 119, 3) := by decide +kernel
theorem d_Model_tell_60 : decode b_Model_tell 60 = .ok (.iconst 1, 1) := by decide +kernel
theorem d_Model_tell_61 : decode b_Model_tell 61 = .ok (.iadd, 1) := by decide +kernel
theorem d_Model_tell_62 : decode b_Model_tell 62 = .ok (.iload 6, 2) := by decide +kernel
theorem d_Model_tell_64 : decode b_Model_tell 64 = .ok (.iadd, 1) := by decide +kernel
theorem d_Model_tell_65 : decode b_Model_tell 65 = .ok (.aload_n 2, 1) := by decide +kernel
theorem d_Model_tell_66 : decode b_Model_tell 66 = .ok (.iload_n 3, 1) := by decide +kernel
theorem d_Model_tell_67 : decode b_Model_tell 67 = .ok (.iload 6, 2) := by decide +kernel
theorem d_Model_tell_69 : decode b_Model_tell 69 = .ok (.iadd, 1) := by decide +kernel
theorem d_Model_tell_70 : decode b_Model_tell 70 = .ok (.baload, 1) := by decide +kernel
theorem d_Model_tell_71 : decode b_Model_tell 71 = .ok (.bastore, 1) := by decide +kernel
theorem d_Model_tell_72 : decode b_Model_tell 72 = .ok (.iinc 6 1, 3) := by decide +kernel
theorem d_Model_tell_75 : decode b_Model_tell 75 = .ok (.goto (-30), 3) := by decide +kernel
theorem d_Model_tell_78 : decode b_Model_tell 78 = .ok (.iload_n 1, 1) := by decide +kernel
theorem d_Model_tell_79 : decode b_Model_tell 79 = .ok (.iconst 3, 1) := by decide +kernel
theorem d_Model_tell_80 : decode b_Model_tell 80 = .ok (.if_icmp .ne 19, 3) := by decide +kernel
theorem d_Model_tell_83 : decode b_Model_tell 83 = .ok (.aload_n 0, 1) := by decide +kernel
theorem d_Model_tell_84 : decode b_Model_tell 84 = .ok (.getfield 49, 3) := by decide +kernel
theorem d_Model_tell_87 : decode b_Model_tell 87 = .ok (.aload_n 0, 1) := by decide +kernel
theorem d_Model_tell_88 : decode b_Model_tell 88 = .ok (.getfield 119, 3) := by decide +kernel
theorem d_Model_tell_91 : decode b_Model_tell 91 = .ok (.iconst 1, 1) := by decide +kernel
theorem d_Model_tell_92 : decode b_Model_tell 92 = .ok (.iadd, 1) := by decide +kernel
theorem d_Model_tell_93 : decode b_Model_tell 93 = .ok (.iload 4, 2) := by decide +kernel
theorem d_Model_tell_95 : decode b_Model_tell 95 = .ok (.iadd, 1) := by decide +kernel
theorem d_Model_tell_96 : decode b_Model_tell 96 = .ok (.bipush 10, 2) := by decide +kernel
theorem d_Model_tell_98 : decode b_Model_tell 98 = .ok (.bastore, 1) := by decide +kernel
theorem d_Model_tell_99 : decode b_Model_tell 99 = .ok (.aload_n 0, 1) := by decide +kernel
theorem d_Model_tell_100 : decode b_Model_tell 100 = .ok (.dup, 1) := by decide +kernel
theorem d_Model_tell_101 : decode b_Model_tell 101 = .ok (.getfield 119, 3) := by decide +kernel
theorem d_Model_tell_104 : decode b_Model_tell 104 = .ok (.iload 5, 2) := by decide +kernel
theorem d_Model_tell_106 : decode b_Model_tell 106 = .ok (.iadd, 1) := by decide +kernel
theorem d_Model_tell_107 : decode b_Model_tell 107 = .ok (.putfield 119, 3) := by decide +kernel
theorem d_Model_tell_110 : decode b_Model_tell 110 = .ok (.return_, 1) := by decide +kernel
theorem d_Model_send_0 : decode b_Model_send 0 = .ok (.aload_n 0, 1) := by decide +kernel
theorem d_Model_send_1 : decode b_Model_send 1 = .ok (.getfield 56, 3) := by decide +kernel
theorem d_Model_send_4 : decode b_Model_send 4 = .ok (.istore_n 1, 1) := by decide +kernel
theorem d_Model_send_5 : decode b_Model_send 5 = .ok (.aload_n 0, 1) := by decide +kernel
theorem d_Model_send_6 : decode b_Model_send 6 = .ok (.iconst 0, 1) := by decide +kernel
theorem d_Model_send_7 : decode b_Model_send 7 = .ok (.putfield 56, 3) := by decide +kernel
theorem d_Model_send_10 : decode b_Model_send 10 = .ok (.aload_n 0, 1) := by decide +kernel
theorem d_Model_send_11 : decode b_Model_send 11 = .ok (.getfield 109, 3) := by decide +kernel
theorem d_Model_send_14 : decode b_Model_send 14 = .ok (.ifCond .ne 5, 3) := by decide +kernel
theorem d_Model_send_17 : decode b_Model_send 17 = .ok (.iconst 0, 1) := by decide +kernel
theorem d_Model_send_18 : decode b_Model_send 18 = .ok (.ireturn, 1) := by decide +kernel
theorem d_Model_send_19 : decode b_Model_send 19 = .ok (.aload_n 0, 1) := by decide +kernel
theorem d_Model_send_20 : decode b_Model_send 20 = .ok (.iconst 1, 1) := by decide +kernel
theorem d_Model_send_21 : decode b_Model_send 21 = .ok (.aload_n 0, 1) := by decide +kernel
theorem d_Model_send_22 : decode b_Model_send 22 = .ok (.getfield 7, 3) := by decide +kernel
theorem d_Model_send_25 : decode b_Model_send 25 = .ok (.iconst 0, 1) := by decide +kernel
theorem d_Model_send_26 : decode b_Model_send 26 = .ok (.iload_n 1, 1) := by decide +kernel
theorem d_Model_send_27 : decode b_Model_send 27 = .ok (.invokevirtual 122, 3) := by decide +kernel
theorem d_Model_send_30 : decode b_Model_send 30 = .ok (.iconst 0, 1) := by decide +kernel
theorem d_Model_send_31 : decode b_Model_send 31 = .ok (.istore_n 2, 1) := by decide +kernel
theorem d_Model_send_32 : decode b_Model_send 32 = .ok (.iload_n 2, 1) := by decide +kernel
theorem d_Model_send_33 : decode b_Model_send 33 = .ok (.iload_n 1, 1) := by decide +kernel
theorem d_Model_send_34 : decode b_Model_send 34 = .ok (.if_icmp .ge 62, 3) := by decide +kernel
theorem d_Model_send_37 : decode b_Model_send 37 = .ok (.aload_n 0, 1) := by decide +kernel
theorem d_Model_send_38 : decode b_Model_send 38 = .ok (.getfield 7, 3) := by decide +kernel
theorem d_Model_send_41 : decode b_Model_send 41 = .ok (.iload_n 2, 1) := by decide +kernel
theorem d_Model_send_42 : decode b_Model_send 42 = .ok (.baload, 1) := by decide +kernel
theorem d_Model_send_43 : decode b_Model_send 43 = .ok (.bipush 10, 2) := by decide +kernel
theorem d_Model_send_45 : decode b_Model_send 45 = .ok (.if_icmp .ne 10, 3) := by decide +kernel
theorem d_Model_send_48 : decode b_Model_send 48 = .ok (.aload_n 0, 1) := by decide +kernel
theorem d_Model_send_49 : decode b_Model_send 49 = .ok (.invokevirtual 116, 3) := by decide +kernel
theorem d_Model_send_52 : decode b_Model_send 52 = .ok (.goto 38, 3) := by decide +kernel
theorem d_Model_send_55 : decode b_Model_send 55 = .ok (.aload_n 0, 1) := by decide +kernel
theorem d_Model_send_56 : decode b_Model_send 56 = .ok (.getfield 86, 3) := by decide +kernel
theorem d_Model_send_59 : decode b_Model_send 59 = .ok (.sipush 1024, 3) := by decide +kernel
theorem d_Model_send_62 : decode b_Model_send 62 = .ok (.if_icmp .ge 28, 3) := by decide +kernel
theorem d_Model_send_65 : decode b_Model_send 65 = .ok (.aload_n 0, 1) := by decide +kernel
theorem d_Model_send_66 : decode b_Model_send 66 = .ok (.getfield 35, 3) := by decide +kernel
theorem d_Model_send_69 : decode b_Model_send 69 = .ok (.aload_n 0, 1) := by decide +kernel
theorem d_Model_send_70 : decode b_Model_send 70 = .ok (.getfield 86, 3) := by decide +kernel
theorem d_Model_send_73 : decode b_Model_send 73 = .ok (.aload_n 0, 1) := by decide +kernel
theorem d_Model_send_74 : decode b_Model_send 74 = .ok (.getfield 7, 3) := by decide +kernel
theorem d_Model_send_77 : decode b_Model_send 77 = .ok (.iload_n 2, 1) := by decide +kernel
theorem d_Model_send_78 : decode b_Model_send 78 = .ok (.baload, 1) := by decide +kernel
theorem d_Model_send_79 : decode b_Model_send 79 = .ok (.bastore, 1) := by decide +kernel
theorem d_Model_send_80 : decode b_Model_send 80 = .ok (.aload_n 0, 1) := by decide +kernel
theorem d_Model_send_81 : decode b_Model_send 81 = .ok (.dup, 1) := by decide +kernel
theorem d_Model_send_82 : decode b_Model_send 82 = .ok (.getfield 86, 3) := by decide +kernel
theorem d_Model_send_85 : decode b_Model_send 85 = .ok (.iconst 1, 1) := by decide +kernel
theorem d_Model_send_86 : decode b_Model_send 86 = .ok (.iadd, 1) := by decide +kernel
theorem d_Model_send_87 : decode b_Model_send 87 = .ok (.putfield 86, 3) := by decide +kernel
theorem d_Model_send_90 : decode b_Model_send 90 = .ok (.iinc 2 1, 3) := by decide +kernel
theorem d_Model_send_93 : decode b_Model_send 93 = .ok (.goto (-61), 3) := by decide +kernel
theorem d_Model_send_96 : decode b_Model_send 96 = .ok (.iconst 1, 1) := by decide +kernel
theorem d_Model_send_97 : decode b_Model_send 97 = .ok (.ireturn, 1) := by decide +kernel
theorem d_Model_put_0 : decode b_Model_put 0 = .ok (.aload_n 0, 1) := by decide +kernel
theorem d_Model_put_1 : decode b_Model_put 1 = .ok (.iconst 3, 1) := by decide +kernel
theorem d_Model_put_2 : decode b_Model_put 2 = .ok (.aload_n 0, 1) := by decide +kernel
theorem d_Model_put_3 : decode b_Model_put 3 = .ok (.getfield 7, 3) := by decide +kernel
theorem d_Model_put_6 : decode b_Model_put 6 = .ok (.iconst 0, 1) := by decide +kernel
theorem d_Model_put_7 : decode b_Model_put 7 = .ok (.aload_n 0, 1) := by decide +kernel
theorem d_Model_put_8 : decode b_Model_put 8 = .ok (.getfield 56, 3) := by decide +kernel
theorem d_Model_put_11 : decode b_Model_put 11 = .ok (.invokevirtual 122, 3) := by decide +kernel
theorem d_Model_put_14 : decode b_Model_put 14 = .ok (.aload_n 0, 1) := by decide +kernel
theorem d_Model_put_15 : decode b_Model_put 15 = .ok (.iconst 0, 1) := by decide +kernel
theorem d_Model_put_16 : decode b_Model_put 16 = .ok (.putfield 56, 3) := by decide +kernel
theorem d_Model_put_19 : decode b_Model_put 19 = .ok (.return_, 1) := by decide +kernel
theorem d_Model_keep_0 : decode b_Model_keep 0 = .ok (.iconst 0, 1) := by decide +kernel
theorem d_Model_keep_1 : decode b_Model_keep 1 = .ok (.istore_n 2, 1) := by decide +kernel
theorem d_Model_keep_2 : decode b_Model_keep 2 = .ok (.iload_n 2, 1) := by decide +kernel
theorem d_Model_keep_3 : decode b_Model_keep 3 = .ok (.aload_n 0, 1) := by decide +kernel
theorem d_Model_keep_4 : decode b_Model_keep 4 = .ok (.getfield 26, 3) := by decide +kernel
theorem d_Model_keep_7 : decode b_Model_keep 7 = .ok (.iload_n 1, 1) := by decide +kernel
theorem d_Model_keep_8 : decode b_Model_keep 8 = .ok (.iaload, 1) := by decide +kernel
theorem d_Model_keep_9 : decode b_Model_keep 9 = .ok (.if_icmp .ge 55, 3) := by decide +kernel
theorem d_Model_keep_12 : decode b_Model_keep 12 = .ok (.aload_n 0, 1) := by decide +kernel
theorem d_Model_keep_13 : decode b_Model_keep 13 = .ok (.getfield 113, 3) := by decide +kernel
theorem d_Model_keep_16 : decode b_Model_keep 16 = .ok (.sipush 1024, 3) := by decide +kernel
theorem d_Model_keep_19 : decode b_Model_keep 19 = .ok (.if_icmp .ne 8, 3) := by decide +kernel
theorem d_Model_keep_22 : decode b_Model_keep 22 = .ok (.aload_n 0, 1) := by decide +kernel
theorem d_Model_keep_23 : decode b_Model_keep 23 = .ok (.iconst 1, 1) := by decide +kernel
theorem d_Model_keep_24 : decode b_Model_keep 24 = .ok (.invokevirtual 126, 3) := by decide +kernel
theorem d_Model_keep_27 : decode b_Model_keep 27 = .ok (.aload_n 0, 1) := by decide +kernel
theorem d_Model_keep_28 : decode b_Model_keep 28 = .ok (.getfield 45, 3) := by decide +kernel
theorem d_Model_keep_31 : decode b_Model_keep 31 = .ok (.aload_n 0, 1) := by decide +kernel
theorem d_Model_keep_32 : decode b_Model_keep 32 = .ok (.getfield 113, 3) := by decide +kernel
theorem d_Model_keep_35 : decode b_Model_keep 35 = .ok (.aload_n 0, 1) := by decide +kernel
theorem d_Model_keep_36 : decode b_Model_keep 36 = .ok (.getfield 32, 3) := by decide +kernel
theorem d_Model_keep_39 : decode b_Model_keep 39 = .ok (.sipush 200, 3) := by decide +kernel
theorem d_Model_keep_42 : decode b_Model_keep 42 = .ok (.iload_n 1, 1) := by decide +kernel
theorem d_Model_keep_43 : decode b_Model_keep 43 = .ok (.imul, 1) := by decide +kernel
theorem d_Model_keep_44 : decode b_Model_keep 44 = .ok (.iload_n 2, 1) := by decide +kernel
theorem d_Model_keep_45 : decode b_Model_keep 45 = .ok (.iadd, 1) := by decide +kernel
theorem d_Model_keep_46 : decode b_Model_keep 46 = .ok (.baload, 1) := by decide +kernel
theorem d_Model_keep_47 : decode b_Model_keep 47 = .ok (.bastore, 1) := by decide +kernel
theorem d_Model_keep_48 : decode b_Model_keep 48 = .ok (.aload_n 0, 1) := by decide +kernel
theorem d_Model_keep_49 : decode b_Model_keep 49 = .ok (.dup, 1) := by decide +kernel
theorem d_Model_keep_50 : decode b_Model_keep 50 = .ok (.getfield 113, 3) := by decide +kernel
theorem d_Model_keep_53 : decode b_Model_keep 53 = .ok (.iconst 1, 1) := by decide +kernel
theorem d_Model_keep_54 : decode b_Model_keep 54 = .ok (.iadd, 1) := by decide +kernel
theorem d_Model_keep_55 : decode b_Model_keep 55 = .ok (.putfield 113, 3) := by decide +kernel
theorem d_Model_keep_58 : decode b_Model_keep 58 = .ok (.iinc 2 1, 3) := by decide +kernel
theorem d_Model_keep_61 : decode b_Model_keep 61 = .ok (.goto (-59), 3) := by decide +kernel
theorem d_Model_keep_64 : decode b_Model_keep 64 = .ok (.return_, 1) := by decide +kernel
theorem d_Model_drop_0 : decode b_Model_drop 0 = .ok (.iload_n 1, 1) := by decide +kernel
theorem d_Model_drop_1 : decode b_Model_drop 1 = .ok (.istore_n 2, 1) := by decide +kernel
theorem d_Model_drop_2 : decode b_Model_drop 2 = .ok (.iload_n 2, 1) := by decide +kernel
theorem d_Model_drop_3 : decode b_Model_drop 3 = .ok (.aload_n 0, 1) := by decide +kernel
theorem d_Model_drop_4 : decode b_Model_drop 4 = .ok (.getfield 113, 3) := by decide +kernel
theorem d_Model_drop_7 : decode b_Model_drop 7 = .ok (.if_icmp .ge 23, 3) := by decide +kernel
theorem d_Model_drop_10 : decode b_Model_drop 10 = .ok (.aload_n 0, 1) := by decide +kernel
theorem d_Model_drop_11 : decode b_Model_drop 11 = .ok (.getfield 45, 3) := by decide +kernel
theorem d_Model_drop_14 : decode b_Model_drop 14 = .ok (.iload_n 2, 1) := by decide +kernel
theorem d_Model_drop_15 : decode b_Model_drop 15 = .ok (.iload_n 1, 1) := by decide +kernel
theorem d_Model_drop_16 : decode b_Model_drop 16 = .ok (.isub, 1) := by decide +kernel
theorem d_Model_drop_17 : decode b_Model_drop 17 = .ok (.aload_n 0, 1) := by decide +kernel
theorem d_Model_drop_18 : decode b_Model_drop 18 = .ok (.getfield 45, 3) := by decide +kernel
theorem d_Model_drop_21 : decode b_Model_drop 21 = .ok (.iload_n 2, 1) := by decide +kernel
theorem d_Model_drop_22 : decode b_Model_drop 22 = .ok (.baload, 1) := by decide +kernel
theorem d_Model_drop_23 : decode b_Model_drop 23 = .ok (.bastore, 1) := by decide +kernel
theorem d_Model_drop_24 : decode b_Model_drop 24 = .ok (.iinc 2 1, 3) := by decide +kernel
theorem d_Model_drop_27 : decode b_Model_drop 27 = .ok (.goto (-25), 3) := by decide +kernel
theorem d_Model_drop_30 : decode b_Model_drop 30 = .ok (.aload_n 0, 1) := by decide +kernel
theorem d_Model_drop_31 : decode b_Model_drop 31 = .ok (.dup, 1) := by decide +kernel
theorem d_Model_drop_32 : decode b_Model_drop 32 = .ok (.getfield 113, 3) := by decide +kernel
theorem d_Model_drop_35 : decode b_Model_drop 35 = .ok (.iload_n 1, 1) := by decide +kernel
theorem d_Model_drop_36 : decode b_Model_drop 36 = .ok (.isub, 1) := by decide +kernel
theorem d_Model_drop_37 : decode b_Model_drop 37 = .ok (.putfield 113, 3) := by decide +kernel
theorem d_Model_drop_40 : decode b_Model_drop 40 = .ok (.return_, 1) := by decide +kernel
theorem d_Model_come_0 : decode b_Model_come 0 = .ok (.iconst 0, 1) := by decide +kernel
theorem d_Model_come_1 : decode b_Model_come 1 = .ok (.istore_n 3, 1) := by decide +kernel
theorem d_Model_come_2 : decode b_Model_come 2 = .ok (.iconst 1, 1) := by decide +kernel
theorem d_Model_come_3 : decode b_Model_come 3 = .ok (.istore 4, 2) := by decide +kernel
theorem d_Model_come_5 : decode b_Model_come 5 = .ok (.iload 4, 2) := by decide +kernel
theorem d_Model_come_7 : decode b_Model_come 7 = .ok (.aload_n 0, 1) := by decide +kernel
theorem d_Model_come_8 : decode b_Model_come 8 = .ok (.getfield 102, 3) := by decide +kernel
theorem d_Model_come_11 : decode b_Model_come 11 = .ok (.if_icmp .ge 33, 3) := by decide +kernel
theorem d_Model_come_14 : decode b_Model_come 14 = .ok (.aload_n 0, 1) := by decide +kernel
theorem d_Model_come_15 : decode b_Model_come 15 = .ok (.getfield 38, 3) := by decide +kernel
theorem d_Model_come_18 : decode b_Model_come 18 = .ok (.iload 4, 2) := by decide +kernel
theorem d_Model_come_20 : decode b_Model_come 20 = .ok (.laload, 1) := by decide +kernel
theorem d_Model_come_21 : decode b_Model_come 21 = .ok (.aload_n 0, 1) := by decide +kernel
theorem d_Model_come_22 : decode b_Model_come 22 = .ok (.getfield 38, 3) := by decide +kernel
theorem d_Model_come_25 : decode b_Model_come 25 = .ok (.iload_n 3, 1) := by decide +kernel
theorem d_Model_come_26 : decode b_Model_come 26 = .ok (.laload, 1) := by decide +kernel
theorem d_Model_come_27 : decode b_Model_come 27 = .ok (.lcmp, 1) := by decide +kernel
theorem d_Model_come_28 : decode b_Model_come 28 = .ok (.ifCond .ge 8, 3) := by decide +kernel
theorem d_Model_come_31 : decode b_Model_come 31 = .ok (.iload 4, 2) := by decide +kernel
theorem d_Model_come_33 : decode b_Model_come 33 = .ok (.goto 4, 3) := by decide +kernel
theorem d_Model_come_36 : decode b_Model_come 36 = .ok (.iload_n 3, 1) := by decide +kernel
theorem d_Model_come_37 : decode b_Model_come 37 = .ok (.istore_n 3, 1) := by decide +kernel
theorem d_Model_come_38 : decode b_Model_come 38 = .ok (.iinc 4 1, 3) := by decide +kernel
theorem d_Model_come_41 : decode b_Model_come 41 = .ok (.goto (-36), 3) := by decide +kernel
theorem d_Model_come_44 : decode b_Model_come 44 = .ok (.aload_n 0, 1) := by decide +kernel
theorem d_Model_come_45 : decode b_Model_come 45 = .ok (.getfield 102, 3) := by decide +kernel
theorem d_Model_come_48 : decode b_Model_come 48 = .ok (.ifCond .eq 14, 3) := by decide +kernel
theorem d_Model_come_51 : decode b_Model_come 51 = .ok (.aload_n 0, 1) := by decide +kernel
theorem d_Model_come_52 : decode b_Model_come 52 = .ok (.getfield 38, 3) := by decide +kernel
theorem d_Model_come_55 : decode b_Model_come 55 = .ok (.iload_n 3, 1) := by decide +kernel
theorem d_Model_come_56 : decode b_Model_come 56 = .ok (.laload, 1) := by decide +kernel
theorem d_Model_come_57 : decode b_Model_come 57 = .ok (.lload_n 1, 1) := by decide +kernel
theorem d_Model_come_58 : decode b_Model_come 58 = .ok (.lcmp, 1) := by decide +kernel
theorem d_Model_come_59 : decode b_Model_come 59 = .ok (.ifCond .le 7, 3) := by decide +kernel
theorem d_Model_come_62 : decode b_Model_come 62 = .ok (.ldc2_w 129, 3) := by decide +kernel
theorem d_Model_come_65 : decode b_Model_come 65 = .ok (.lreturn, 1) := by decide +kernel
theorem d_Model_come_66 : decode b_Model_come 66 = .ok (.aload_n 0, 1) := by decide +kernel
theorem d_Model_come_67 : decode b_Model_come 67 = .ok (.getfield 42, 3) := by decide +kernel
theorem d_Model_come_70 : decode b_Model_come 70 = .ok (.iload_n 3, 1) := by decide +kernel
theorem d_Model_come_71 : decode b_Model_come 71 = .ok (.iaload, 1) := by decide +kernel
theorem d_Model_come_72 : decode b_Model_come 72 = .ok (.istore 4, 2) := by decide +kernel
theorem d_Model_come_74 : decode b_Model_come 74 = .ok (.aload_n 0, 1) := by decide +kernel
theorem d_Model_come_75 : decode b_Model_come 75 = .ok (.aload_n 0, 1) := by decide +kernel
theorem d_Model_come_76 : decode b_Model_come 76 = .ok (.getfield 38, 3) := by decide +kernel
theorem d_Model_come_79 : decode b_Model_come 79 = .ok (.iload_n 3, 1) := by decide +kernel
theorem d_Model_come_80 : decode b_Model_come 80 = .ok (.laload, 1) := by decide +kernel
theorem d_Model_come_81 : decode b_Model_come 81 = .ok (.aload_n 0, 1) := by decide +kernel
theorem d_Model_come_82 : decode b_Model_come 82 = .ok (.getfield 105, 3) := by decide +kernel
theorem d_Model_come_85 : decode b_Model_come 85 = .ok (.lcmp, 1) := by decide +kernel
theorem d_Model_come_86 : decode b_Model_come 86 = .ok (.ifCond .le 12, 3) := by decide +kernel
theorem d_Model_come_89 : decode b_Model_come 89 = .ok (.aload_n 0, 1) := by decide +kernel
theorem d_Model_come_90 : decode b_Model_come 90 = .ok (.getfield 38, 3) := by decide +kernel
theorem d_Model_come_93 : decode b_Model_come 93 = .ok (.iload_n 3, 1) := by decide +kernel
theorem d_Model_come_94 : decode b_Model_come 94 = .ok (.laload, 1) := by decide +kernel
theorem d_Model_come_95 : decode b_Model_come 95 = .ok (.goto 7, 3) := by decide +kernel
theorem d_Model_come_98 : decode b_Model_come 98 = .ok (.aload_n 0, 1) := by decide +kernel
theorem d_Model_come_99 : decode b_Model_come 99 = .ok (.getfield 105, 3) := by decide +kernel
theorem d_Model_come_102 : decode b_Model_come 102 = .ok (.putfield 105, 3) := by decide +kernel
theorem d_Model_come_105 : decode b_Model_come 105 = .ok (.iload_n 3, 1) := by decide +kernel
theorem d_Model_come_106 : decode b_Model_come 106 = .ok (.iconst 1, 1) := by decide +kernel
theorem d_Model_come_107 : decode b_Model_come 107 = .ok (.iadd, 1) := by decide +kernel
theorem d_Model_come_108 : decode b_Model_come 108 = .ok (.istore 5, 2) := by decide +kernel
theorem d_Model_come_110 : decode b_Model_come 110 = .ok (.iload 5, 2) := by decide +kernel
theorem d_Model_come_112 : decode b_Model_come 112 = .ok (.aload_n 0, 1) := by decide +kernel
theorem d_Model_come_113 : decode b_Model_come 113 = .ok (.getfield 102, 3) := by decide +kernel
theorem d_Model_come_116 : decode b_Model_come 116 = .ok (.if_icmp .ge 41, 3) := by decide +kernel
theorem d_Model_come_119 : decode b_Model_come 119 = .ok (.aload_n 0, 1) := by decide +kernel
theorem d_Model_come_120 : decode b_Model_come 120 = .ok (.getfield 38, 3) := by decide +kernel
theorem d_Model_come_123 : decode b_Model_come 123 = .ok (.iload 5, 2) := by decide +kernel
theorem d_Model_come_125 : decode b_Model_come 125 = .ok (.iconst 1, 1) := by decide +kernel
theorem d_Model_come_126 : decode b_Model_come 126 = .ok (.isub, 1) := by decide +kernel
theorem d_Model_come_127 : decode b_Model_come 127 = .ok (.aload_n 0, 1) := by decide +kernel
theorem d_Model_come_128 : decode b_Model_come 128 = .ok (.getfield 38, 3) := by decide +kernel
theorem d_Model_come_131 : decode b_Model_come 131 = .ok (.iload 5, 2) := by decide +kernel
theorem d_Model_come_133 : decode b_Model_come 133 = .ok (.laload, 1) := by decide +kernel
theorem d_Model_come_134 : decode b_Model_come 134 = .ok (.lastore, 1) := by decide +kernel
theorem d_Model_come_135 : decode b_Model_come 135 = .ok (.aload_n 0, 1) := by decide +kernel
theorem d_Model_come_136 : decode b_Model_come 136 = .ok (.getfield 42, 3) := by decide +kernel
theorem d_Model_come_139 : decode b_Model_come 139 = .ok (.iload 5, 2) := by decide +kernel
theorem d_Model_come_141 : decode b_Model_come 141 = .ok (.iconst 1, 1) := by decide +kernel
theorem d_Model_come_142 : decode b_Model_come 142 = .ok (.isub, 1) := by decide +kernel
theorem d_Model_come_143 : decode b_Model_come 143 = .ok (.aload_n 0, 1) := by decide +kernel
theorem d_Model_come_144 : decode b_Model_come 144 = .ok (.getfield 42, 3) := by decide +kernel
theorem d_Model_come_147 : decode b_Model_come 147 = .ok (.iload 5, 2) := by decide +kernel
theorem d_Model_come_149 : decode b_Model_come 149 = .ok (.iaload, 1) := by decide +kernel
theorem d_Model_come_150 : decode b_Model_come 150 = .ok (.iastore, 1) := by decide +kernel
theorem d_Model_come_151 : decode b_Model_come 151 = .ok (.iinc 5 1, 3) := by decide +kernel
theorem d_Model_come_154 : decode b_Model_come 154 = .ok (.goto (-44), 3) := by decide +kernel
theorem d_Model_come_157 : decode b_Model_come 157 = .ok (.aload_n 0, 1) := by decide +kernel
theorem d_Model_come_158 : decode b_Model_come 158 = .ok (.dup, 1) := by decide +kernel
theorem d_Model_come_159 : decode b_Model_come 159 = .ok (.getfield 102, 3) := by decide +kernel
theorem d_Model_come_162 : decode b_Model_come 162 = .ok (.iconst 1, 1) := by decide +kernel
theorem d_Model_come_163 : decode b_Model_come 163 = .ok (.isub, 1) := by decide +kernel
theorem d_Model_come_164 : decode b_Model_come 164 = .ok (.putfield 102, 3) := by decide +kernel
theorem d_Model_come_167 : decode b_Model_come 167 = .ok (.aload_n 0, 1) := by decide +kernel
theorem d_Model_come_168 : decode b_Model_come 168 = .ok (.iconst 2, 1) := by decide +kernel
theorem d_Model_come_169 : decode b_Model_come 169 = .ok (.aload_n 0, 1) := by decide +kernel
theorem d_Model_come_170 : decode b_Model_come 170 = .ok (.getfield 32, 3) := by decide +kernel
theorem d_Model_come_173 : decode b_Model_come 173 = .ok (.sipush 200, 3) := by decide +kernel
theorem d_Model_come_176 : decode b_Model_come 176 = .ok (.iload 4, 2) := by decide +kernel
theorem d_Model_come_178 : decode b_Model_come 178 = .ok (.imul, 1) := by decide +kernel
theorem d_Model_come_179 : decode b_Model_come 179 = .ok (.aload_n 0, 1) := by decide +kernel
theorem d_Model_come_180 : decode b_Model_come 180 = .ok (.getfield 26, 3) := by decide +kernel
theorem d_Model_come_183 : decode b_Model_come 183 = .ok (.iload 4, 2) := by decide +kernel
theorem d_Model_come_185 : decode b_Model_come 185 = .ok (.iaload, 1) := by decide +kernel
theorem d_Model_come_186 : decode b_Model_come 186 = .ok (.invokevirtual 122, 3) := by decide +kernel
theorem d_Model_come_189 : decode b_Model_come 189 = .ok (.aload_n 0, 1) := by decide +kernel
theorem d_Model_come_190 : decode b_Model_come 190 = .ok (.iload 4, 2) := by decide +kernel
theorem d_Model_come_192 : decode b_Model_come 192 = .ok (.invokevirtual 131, 3) := by decide +kernel
theorem d_Model_come_195 : decode b_Model_come 195 = .ok (.aload_n 0, 1) := by decide +kernel
theorem d_Model_come_196 : decode b_Model_come 196 = .ok (.getfield 105, 3) := by decide +kernel
theorem d_Model_come_199 : decode b_Model_come 199 = .ok (.lreturn, 1) := by decide +kernel
theorem d_Model_fit_0 : decode b_Model_fit 0 = .ok (.aload_n 0, 1) := by decide +kernel
theorem d_Model_fit_1 : decode b_Model_fit 1 = .ok (.getfield 56, 3) := by decide +kernel
theorem d_Model_fit_4 : decode b_Model_fit 4 = .ok (.istore_n 1, 1) := by decide +kernel
theorem d_Model_fit_5 : decode b_Model_fit 5 = .ok (.aload_n 0, 1) := by decide +kernel
theorem d_Model_fit_6 : decode b_Model_fit 6 = .ok (.iconst 0, 1) := by decide +kernel
theorem d_Model_fit_7 : decode b_Model_fit 7 = .ok (.putfield 56, 3) := by decide +kernel
theorem d_Model_fit_10 : decode b_Model_fit 10 = .ok (.iconst 0, 1) := by decide +kernel
theorem d_Model_fit_11 : decode b_Model_fit 11 = .ok (.istore_n 2, 1) := by decide +kernel
theorem d_Model_fit_12 : decode b_Model_fit 12 = .ok (.iload_n 2, 1) := by decide +kernel
theorem d_Model_fit_13 : decode b_Model_fit 13 = .ok (.aload_n 0, 1) := by decide +kernel
theorem d_Model_fit_14 : decode b_Model_fit 14 = .ok (.getfield 113, 3) := by decide +kernel
theorem d_Model_fit_17 : decode b_Model_fit 17 = .ok (.if_icmp .gt 16, 3) := by decide +kernel
theorem d_Model_fit_20 : decode b_Model_fit 20 = .ok (.aload_n 0, 1) := by decide +kernel
theorem d_Model_fit_21 : decode b_Model_fit 21 = .ok (.getfield 52, 3) := by decide +kernel
theorem d_Model_fit_24 : decode b_Model_fit 24 = .ok (.iload_n 2, 1) := by decide +kernel
theorem d_Model_fit_25 : decode b_Model_fit 25 = .ok (.iconst 1, 1) := by decide +kernel
theorem d_Model_fit_26 : decode b_Model_fit 26 = .ok (.bastore, 1) := by decide +kernel
theorem d_Model_fit_27 : decode b_Model_fit 27 = .ok (.iinc 2 1, 3) := by decide +kernel
theorem d_Model_fit_30 : decode b_Model_fit 30 = .ok (.goto (-18), 3) := by decide +kernel
theorem d_Model_fit_33 : decode b_Model_fit 33 = .ok (.aload_n 0, 1) := by decide +kernel
theorem d_Model_fit_34 : decode b_Model_fit 34 = .ok (.aload_n 0, 1) := by decide +kernel
theorem d_Model_fit_35 : decode b_Model_fit 35 = .ok (.getfield 7, 3) := by decide +kernel
theorem d_Model_fit_38 : decode b_Model_fit 38 = .ok (.iconst 0, 1) := by decide +kernel
theorem d_Model_fit_39 : decode b_Model_fit 39 = .ok (.iload_n 1, 1) := by decide +kernel
theorem d_Model_fit_40 : decode b_Model_fit 40 = .ok (.aload_n 0, 1) := by decide +kernel
theorem d_Model_fit_41 : decode b_Model_fit 41 = .ok (.getfield 45, 3) := by decide +kernel
theorem d_Model_fit_44 : decode b_Model_fit 44 = .ok (.aload_n 0, 1) := by decide +kernel
theorem d_Model_fit_45 : decode b_Model_fit 45 = .ok (.getfield 113, 3) := by decide +kernel
theorem d_Model_fit_48 : decode b_Model_fit 48 = .ok (.invokevirtual 89, 3) := by decide +kernel
theorem d_Model_fit_51 : decode b_Model_fit 51 = .ok (.iconst 0, 1) := by decide +kernel
theorem d_Model_fit_52 : decode b_Model_fit 52 = .ok (.istore_n 2, 1) := by decide +kernel
theorem d_Model_fit_53 : decode b_Model_fit 53 = .ok (.iload_n 2, 1) := by decide +kernel
theorem d_Model_fit_54 : decode b_Model_fit 54 = .ok (.aload_n 0, 1) := by decide +kernel
theorem d_Model_fit_55 : decode b_Model_fit 55 = .ok (.getfield 113, 3) := by decide +kernel
theorem d_Model_fit_58 : decode b_Model_fit 58 = .ok (.if_icmp .gt 18, 3) := by decide +kernel
theorem d_Model_fit_61 : decode b_Model_fit 61 = .ok (.aload_n 0, 1) := by decide +kernel
theorem d_Model_fit_62 : decode b_Model_fit 62 = .ok (.getfield 52, 3) := by decide +kernel
theorem d_Model_fit_65 : decode b_Model_fit 65 = .ok (.iload_n 2, 1) := by decide +kernel
theorem d_Model_fit_66 : decode b_Model_fit 66 = .ok (.baload, 1) := by decide +kernel
theorem d_Model_fit_67 : decode b_Model_fit 67 = .ok (.ifCond .ne 9, 3) := by decide +kernel
theorem d_Model_fit_70 : decode b_Model_fit 70 = .ok (.iinc 2 1, 3) := by decide +kernel
theorem d_Model_fit_73 : decode b_Model_fit 73 = .ok (.goto (-20), 3) := by decide +kernel
theorem d_Model_fit_76 : decode b_Model_fit 76 = .ok (.iload_n 2, 1) := by decide +kernel
theorem d_Model_fit_77 : decode b_Model_fit 77 = .ok (.aload_n 0, 1) := by decide +kernel
theorem d_Model_fit_78 : decode b_Model_fit 78 = .ok (.getfield 113, 3) := by decide +kernel
theorem d_Model_fit_81 : decode b_Model_fit 81 = .ok (.if_icmp .gt 7, 3) := by decide +kernel
theorem d_Model_fit_84 : decode b_Model_fit 84 = .ok (.iload_n 2, 1) := by decide +kernel
theorem d_Model_fit_85 : decode b_Model_fit 85 = .ok (.goto 4, 3) := by decide +kernel
theorem d_Model_fit_88 : decode b_Model_fit 88 = .ok (.iconst (-1), 1) := by decide +kernel
theorem d_Model_fit_89 : decode b_Model_fit 89 = .ok (.ireturn, 1) := by decide +kernel
theorem d_Model_take_0 : decode b_Model_take 0 = .ok (.iload_n 1, 1) := by decide +kernel
theorem d_Model_take_1 : decode b_Model_take 1 = .ok (.iconst 0, 1) := by decide +kernel
theorem d_Model_take_2 : decode b_Model_take 2 = .ok (.aload_n 0, 1) := by decide +kernel
theorem d_Model_take_3 : decode b_Model_take 3 = .ok (.getfield 113, 3) := by decide +kernel
theorem d_Model_take_6 : decode b_Model_take 6 = .ok (.invokestatic 64, 3) := by decide +kernel
theorem d_Model_take_9 : decode b_Model_take 9 = .ok (.ifCond .ne 5, 3) := by decide +kernel
theorem d_Model_take_12 : decode b_Model_take 12 = .ok (.iconst 0, 1) := by decide +kernel
theorem d_Model_take_13 : decode b_Model_take 13 = .ok (.ireturn, 1) := by decide +kernel
theorem d_Model_take_14 : decode b_Model_take 14 = .ok (.aload_n 0, 1) := by decide +kernel
theorem d_Model_take_15 : decode b_Model_take 15 = .ok (.iload_n 1, 1) := by decide +kernel
theorem d_Model_take_16 : decode b_Model_take 16 = .ok (.invokevirtual 126, 3) := by decide +kernel
theorem d_Model_take_19 : decode b_Model_take 19 = .ok (.iconst 1, 1) := by decide +kernel
theorem d_Model_take_20 : decode b_Model_take 20 = .ok (.ireturn, 1) := by decide +kernel
theorem d_Model_pass_0 : decode b_Model_pass 0 = .ok (.aload_n 0, 1) := by decide +kernel
theorem d_Model_pass_1 : decode b_Model_pass 1 = .ok (.dup, 1) := by decide +kernel
theorem d_Model_pass_2 : decode b_Model_pass 2 = .ok (.getfield 105, 3) := by decide +kernel
theorem d_Model_pass_5 : decode b_Model_pass 5 = .ok (.lload_n 1, 1) := by decide +kernel
theorem d_Model_pass_6 : decode b_Model_pass 6 = .ok (.lconst 0, 1) := by decide +kernel
theorem d_Model_pass_7 : decode b_Model_pass 7 = .ok (.lcmp, 1) := by decide +kernel
theorem d_Model_pass_8 : decode b_Model_pass 8 = .ok (.ifCond .ge 7, 3) := by decide +kernel
theorem d_Model_pass_11 : decode b_Model_pass 11 = .ok (.lconst 0, 1) := by decide +kernel
theorem d_Model_pass_12 : decode b_Model_pass 12 = .ok (.goto 18, 3) := by decide +kernel
theorem d_Model_pass_15 : decode b_Model_pass 15 = .ok (.lload_n 1, 1) := by decide +kernel
theorem d_Model_pass_16 : decode b_Model_pass 16 = .ok (.ldc2_w 134, 3) := by decide +kernel
theorem d_Model_pass_19 : decode b_Model_pass 19 = .ok (.lcmp, 1) := by decide +kernel
theorem d_Model_pass_20 : decode b_Model_pass 20 = .ok (.ifCond .le 9, 3) := by decide +kernel
theorem d_Model_pass_23 : decode b_Model_pass 23 = .ok (.ldc2_w 134, 3) := by decide +kernel
theorem d_Model_pass_26 : decode b_Model_pass 26 = .ok (.goto 4, 3) := by decide +kernel
theorem d_Model_pass_29 : decode b_Model_pass 29 = .ok (.lload_n 1, 1) := by decide +kernel
theorem d_Model_pass_30 : decode b_Model_pass 30 = .ok (.ladd, 1) := by decide +kernel
theorem d_Model_pass_31 : decode b_Model_pass 31 = .ok (.putfield 105, 3) := by decide +kernel
theorem d_Model_pass_34 : decode b_Model_pass 34 = .ok (.aload_n 0, 1) := by decide +kernel
theorem d_Model_pass_35 : decode b_Model_pass 35 = .ok (.getfield 105, 3) := by decide +kernel
theorem d_Model_pass_38 : decode b_Model_pass 38 = .ok (.lreturn, 1) := by decide +kernel
theorem d_Model_total_0 : decode b_Model_total 0 = .ok (.iload_n 1, 1) := by decide +kernel
theorem d_Model_total_1 : decode b_Model_total 1 = .ok (.tableswitch 69 0 5 #[39, 44, 49, 54, 59, 64], 39) := by decide +kernel
theorem d_Model_total_40 : decode b_Model_total 40 = .ok (.aload_n 0, 1) := by decide +kernel
theorem d_Model_total_41 : decode b_Model_total 41 = .ok (.getfield 95, 3) := by decide +kernel
theorem d_Model_total_44 : decode b_Model_total 44 = .ok (.ireturn, 1) := by decide +kernel
theorem d_Model_total_45 : decode b_Model_total 45 = .ok (.aload_n 0, 1) := by decide +kernel
theorem d_Model_total_46 : decode b_Model_total 46 = .ok (.getfield 102, 3) := by decide +kernel
theorem d_Model_total_49 : decode b_Model_total 49 = .ok (.ireturn, 1) := by decide +kernel
theorem d_Model_total_50 : decode b_Model_total 50 = .ok (.aload_n 0, 1) := by decide +kernel
theorem d_Model_total_51 : decode b_Model_total 51 = .ok (.getfield 113, 3) := by decide +kernel
theorem d_Model_total_54 : decode b_Model_total 54 = .ok (.ireturn, 1) := by decide +kernel
theorem d_Model_total_55 : decode b_Model_total 55 = .ok (.aload_n 0, 1) := by decide +kernel
theorem d_Model_total_56 : decode b_Model_total 56 = .ok (.getfield 119, 3) := by decide +kernel
theorem d_Model_total_59 : decode b_Model_total 59 = .ok (.ireturn, 1) := by decide +kernel
theorem d_Model_total_60 : decode b_Model_total 60 = .ok (.aload_n 0, 1) := by decide +kernel
theorem d_Model_total_61 : decode b_Model_total 61 = .ok (.getfield 92, 3) := by decide +kernel
theorem d_Model_total_64 : decode b_Model_total 64 = .ok (.ireturn, 1) := by decide +kernel
theorem d_Model_total_65 : decode b_Model_total 65 = .ok (.aload_n 0, 1) := by decide +kernel
theorem d_Model_total_66 : decode b_Model_total 66 = .ok (.getfield 86, 3) := by decide +kernel
theorem d_Model_total_69 : decode b_Model_total 69 = .ok (.ireturn, 1) := by decide +kernel
theorem d_Model_total_70 : decode b_Model_total 70 = .ok (.iconst (-1), 1) := by decide +kernel
theorem d_Model_total_71 : decode b_Model_total 71 = .ok (.ireturn, 1) := by decide +kernel
theorem d_Model_bufferAt_0 : decode b_Model_bufferAt 0 = .ok (.iload_n 1, 1) := by decide +kernel
theorem d_Model_bufferAt_1 : decode b_Model_bufferAt 1 = .ok (.iconst 0, 1) := by decide +kernel
theorem d_Model_bufferAt_2 : decode b_Model_bufferAt 2 = .ok (.aload_n 0, 1) := by decide +kernel
theorem d_Model_bufferAt_3 : decode b_Model_bufferAt 3 = .ok (.getfield 113, 3) := by decide +kernel
theorem d_Model_bufferAt_6 : decode b_Model_bufferAt 6 = .ok (.iconst 1, 1) := by decide +kernel
theorem d_Model_bufferAt_7 : decode b_Model_bufferAt 7 = .ok (.isub, 1) := by decide +kernel
theorem d_Model_bufferAt_8 : decode b_Model_bufferAt 8 = .ok (.invokestatic 64, 3) := by decide +kernel
theorem d_Model_bufferAt_11 : decode b_Model_bufferAt 11 = .ok (.ifCond .eq 16, 3) := by decide +kernel
theorem d_Model_bufferAt_14 : decode b_Model_bufferAt 14 = .ok (.aload_n 0, 1) := by decide +kernel
theorem d_Model_bufferAt_15 : decode b_Model_bufferAt 15 = .ok (.getfield 45, 3) := by decide +kernel
theorem d_Model_bufferAt_18 : decode b_Model_bufferAt 18 = .ok (.iload_n 1, 1) := by decide +kernel
theorem d_Model_bufferAt_19 : decode b_Model_bufferAt 19 = .ok (.baload, 1) := by decide +kernel
theorem d_Model_bufferAt_20 : decode b_Model_bufferAt 20 = .ok (.sipush 255, 3) := by decide +kernel
theorem d_Model_bufferAt_23 : decode b_Model_bufferAt 23 = .ok (.iand, 1) := by decide +kernel
theorem d_Model_bufferAt_24 : decode b_Model_bufferAt 24 = .ok (.goto 4, 3) := by decide +kernel
theorem d_Model_bufferAt_27 : decode b_Model_bufferAt 27 = .ok (.iconst (-1), 1) := by decide +kernel
theorem d_Model_bufferAt_28 : decode b_Model_bufferAt 28 = .ok (.ireturn, 1) := by decide +kernel
theorem d_Model_toldAt_0 : decode b_Model_toldAt 0 = .ok (.iload_n 1, 1) := by decide +kernel
theorem d_Model_toldAt_1 : decode b_Model_toldAt 1 = .ok (.iconst 0, 1) := by decide +kernel
theorem d_Model_toldAt_2 : decode b_Model_toldAt 2 = .ok (.aload_n 0, 1) := by decide +kernel
theorem d_Model_toldAt_3 : decode b_Model_toldAt 3 = .ok (.getfield 119, 3) := by decide +kernel
theorem d_Model_toldAt_6 : decode b_Model_toldAt 6 = .ok (.iconst 1, 1) := by decide +kernel
theorem d_Model_toldAt_7 : decode b_Model_toldAt 7 = .ok (.isub, 1) := by decide +kernel
theorem d_Model_toldAt_8 : decode b_Model_toldAt 8 = .ok (.invokestatic 64, 3) := by decide +kernel
theorem d_Model_toldAt_11 : decode b_Model_toldAt 11 = .ok (.ifCond .eq 16, 3) := by decide +kernel
theorem d_Model_toldAt_14 : decode b_Model_toldAt 14 = .ok (.aload_n 0, 1) := by decide +kernel
theorem d_Model_toldAt_15 : decode b_Model_toldAt 15 = .ok (.getfield 49, 3) := by decide +kernel
theorem d_Model_toldAt_18 : decode b_Model_toldAt 18 = .ok (.iload_n 1, 1) := by decide +kernel
theorem d_Model_toldAt_19 : decode b_Model_toldAt 19 = .ok (.baload, 1) := by decide +kernel
theorem d_Model_toldAt_20 : decode b_Model_toldAt 20 = .ok (.sipush 255, 3) := by decide +kernel
theorem d_Model_toldAt_23 : decode b_Model_toldAt 23 = .ok (.iand, 1) := by decide +kernel
theorem d_Model_toldAt_24 : decode b_Model_toldAt 24 = .ok (.goto 4, 3) := by decide +kernel
theorem d_Model_toldAt_27 : decode b_Model_toldAt 27 = .ok (.iconst (-1), 1) := by decide +kernel
theorem d_Model_toldAt_28 : decode b_Model_toldAt 28 = .ok (.ireturn, 1) := by decide +kernel

