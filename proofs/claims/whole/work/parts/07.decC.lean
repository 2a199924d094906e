theorem d_Peer_init_0 : decode b_Peer_init 0 = .ok (.aload_n 0, 1) := by decide +kernel
theorem d_Peer_init_1 : decode b_Peer_init 1 = .ok (.invokespecial 1, 3) := by decide +kernel
theorem d_Peer_init_4 : decode b_Peer_init 4 = .ok (.aload_n 0, 1) := by decide +kernel
theorem d_Peer_init_5 : decode b_Peer_init 5 = .ok (.new 7, 3) := by decide +kernel
theorem d_Peer_init_8 : decode b_Peer_init 8 = .ok (.dup, 1) := by decide +kernel
theorem d_Peer_init_9 : decode b_Peer_init 9 = .ok (.sipush 1024, 3) := by decide +kernel
theorem d_Peer_init_12 : decode b_Peer_init 12 = .ok (.invokespecial 11, 3) := by decide +kernel
theorem d_Peer_init_15 : decode b_Peer_init 15 = .ok (.putfield 14, 3) := by decide +kernel
theorem d_Peer_init_18 : decode b_Peer_init 18 = .ok (.aload_n 0, 1) := by decide +kernel
theorem d_Peer_init_19 : decode b_Peer_init 19 = .ok (.new 7, 3) := by decide +kernel
theorem d_Peer_init_22 : decode b_Peer_init 22 = .ok (.dup, 1) := by decide +kernel
theorem d_Peer_init_23 : decode b_Peer_init 23 = .ok (.sipush 1024, 3) := by decide +kernel
theorem d_Peer_init_26 : decode b_Peer_init 26 = .ok (.invokespecial 11, 3) := by decide +kernel
theorem d_Peer_init_29 : decode b_Peer_init 29 = .ok (.putfield 18, 3) := by decide +kernel
theorem d_Peer_init_32 : decode b_Peer_init 32 = .ok (.aload_n 0, 1) := by decide +kernel
theorem d_Peer_init_33 : decode b_Peer_init 33 = .ok (.new 7, 3) := by decide +kernel
theorem d_Peer_init_36 : decode b_Peer_init 36 = .ok (.dup, 1) := by decide +kernel
theorem d_Peer_init_37 : decode b_Peer_init 37 = .ok (.sipush 1024, 3) := by decide +kernel
theorem d_Peer_init_40 : decode b_Peer_init 40 = .ok (.invokespecial 11, 3) := by decide +kernel
theorem d_Peer_init_43 : decode b_Peer_init 43 = .ok (.putfield 21, 3) := by decide +kernel
theorem d_Peer_init_46 : decode b_Peer_init 46 = .ok (.aload_n 0, 1) := by decide +kernel
theorem d_Peer_init_47 : decode b_Peer_init 47 = .ok (.new 7, 3) := by decide +kernel
theorem d_Peer_init_50 : decode b_Peer_init 50 = .ok (.dup, 1) := by decide +kernel
theorem d_Peer_init_51 : decode b_Peer_init 51 = .ok (.ldc 24, 2) := by decide +kernel
theorem d_Peer_init_53 : decode b_Peer_init 53 = .ok (.invokespecial 11, 3) := by decide +kernel
theorem d_Peer_init_56 : decode b_Peer_init 56 = .ok (.putfield 25, 3) := by decide +kernel
theorem d_Peer_init_59 : decode b_Peer_init 59 = .ok (.aload_n 0, 1) := by decide +kernel
theorem d_Peer_init_60 : decode b_Peer_init 60 = .ok (.bipush 64, 2) := by decide +kernel
theorem d_Peer_init_62 : decode b_Peer_init 62 = .ok (.anewarray 28, 3) := by decide +kernel
theorem d_Peer_init_65 : decode b_Peer_init 65 = .ok (.putfield 30, 3) := by decide +kernel
theorem d_Peer_init_68 : decode b_Peer_init 68 = .ok (.aload_n 0, 1) := by decide +kernel
theorem d_Peer_init_69 : decode b_Peer_init 69 = .ok (.new 34, 3) := by decide +kernel
theorem d_Peer_init_72 : decode b_Peer_init 72 = .ok (.dup, 1) := by decide +kernel
theorem d_Peer_init_73 : decode b_Peer_init 73 = .ok (.invokespecial 36, 3) := by decide +kernel
theorem d_Peer_init_76 : decode b_Peer_init 76 = .ok (.putfield 37, 3) := by decide +kernel
theorem d_Peer_init_79 : decode b_Peer_init 79 = .ok (.aload_n 0, 1) := by decide +kernel
theorem d_Peer_init_80 : decode b_Peer_init 80 = .ok (.iconst 0, 1) := by decide +kernel
theorem d_Peer_init_81 : decode b_Peer_init 81 = .ok (.putfield 41, 3) := by decide +kernel
theorem d_Peer_init_84 : decode b_Peer_init 84 = .ok (.aload_n 0, 1) := by decide +kernel
theorem d_Peer_init_85 : decode b_Peer_init 85 = .ok (.iconst 0, 1) := by decide +kernel
theorem d_Peer_init_86 : decode b_Peer_init 86 = .ok (.putfield 45, 3) := by decide +kernel
theorem d_Peer_init_89 : decode b_Peer_init 89 = .ok (.aload_n 0, 1) := by decide +kernel
theorem d_Peer_init_90 : decode b_Peer_init 90 = .ok (.iconst 0, 1) := by decide +kernel
theorem d_Peer_init_91 : decode b_Peer_init 91 = .ok (.putfield 49, 3) := by decide +kernel
theorem d_Peer_init_94 : decode b_Peer_init 94 = .ok (.aload_n 0, 1) := by decide +kernel
theorem d_Peer_init_95 : decode b_Peer_init 95 = .ok (.lconst 0, 1) := by decide +kernel
theorem d_Peer_init_96 : decode b_Peer_init 96 = .ok (.putfield 52, 3) := by decide +kernel
theorem d_Peer_init_99 : decode b_Peer_init 99 = .ok (.return_, 1) := by decide +kernel
theorem d_Peer_feed_0 : decode b_Peer_feed 0 = .ok (.aload_n 0, 1) := by decide +kernel
theorem d_Peer_feed_1 : decode b_Peer_feed 1 = .ok (.getfield 14, 3) := by decide +kernel
theorem d_Peer_feed_4 : decode b_Peer_feed 4 = .ok (.bipush 20, 2) := by decide +kernel
theorem d_Peer_feed_6 : decode b_Peer_feed 6 = .ok (.invokevirtual 56, 3) := by decide +kernel
theorem d_Peer_feed_9 : decode b_Peer_feed 9 = .ok (.ifCond .ne 5, 3) := by decide +kernel
theorem d_Peer_feed_12 : decode b_Peer_feed 12 = .ok (.iconst 0, 1) := by decide +kernel
theorem d_Peer_feed_13 : decode b_Peer_feed 13 = .ok (.ireturn, 1) := by decide +kernel
theorem d_Peer_feed_14 : decode b_Peer_feed 14 = .ok (.aload_n 0, 1) := by decide +kernel
theorem d_Peer_feed_15 : decode b_Peer_feed 15 = .ok (.getfield 14, 3) := by decide +kernel
theorem d_Peer_feed_18 : decode b_Peer_feed 18 = .ok (.iload_n 1, 1) := by decide +kernel
theorem d_Peer_feed_19 : decode b_Peer_feed 19 = .ok (.invokevirtual 60, 3) := by decide +kernel
theorem d_Peer_feed_22 : decode b_Peer_feed 22 = .ok (.aload_n 0, 1) := by decide +kernel
theorem d_Peer_feed_23 : decode b_Peer_feed 23 = .ok (.getfield 14, 3) := by decide +kernel
theorem d_Peer_feed_26 : decode b_Peer_feed 26 = .ok (.iload_n 2, 1) := by decide +kernel
theorem d_Peer_feed_27 : decode b_Peer_feed 27 = .ok (.invokevirtual 60, 3) := by decide +kernel
theorem d_Peer_feed_30 : decode b_Peer_feed 30 = .ok (.aload_n 0, 1) := by decide +kernel
theorem d_Peer_feed_31 : decode b_Peer_feed 31 = .ok (.getfield 14, 3) := by decide +kernel
theorem d_Peer_feed_34 : decode b_Peer_feed 34 = .ok (.iload_n 3, 1) := by decide +kernel
theorem d_Peer_feed_35 : decode b_Peer_feed 35 = .ok (.invokevirtual 60, 3) := by decide +kernel
theorem d_Peer_feed_38 : decode b_Peer_feed 38 = .ok (.aload_n 0, 1) := by decide +kernel
theorem d_Peer_feed_39 : decode b_Peer_feed 39 = .ok (.getfield 14, 3) := by decide +kernel
theorem d_Peer_feed_42 : decode b_Peer_feed 42 = .ok (.iload 4, 2) := by decide +kernel
theorem d_Peer_feed_44 : decode b_Peer_feed 44 = .ok (.invokevirtual 60, 3) := by decide +kernel
theorem d_Peer_feed_47 : decode b_Peer_feed 47 = .ok (.aload_n 0, 1) := by decide +kernel
theorem d_Peer_feed_48 : decode b_Peer_feed 48 = .ok (.getfield 14, 3) := by decide +kernel
theorem d_Peer_feed_51 : decode b_Peer_feed 51 = .ok (.iload 5, 2) := by decide +kernel
theorem d_Peer_feed_53 : decode b_Peer_feed 53 = .ok (.invokevirtual 60, 3) := by decide +kernel
theorem d_Peer_feed_56 : decode b_Peer_feed 56 = .ok (.iconst 1, 1) := by decide +kernel
theorem d_Peer_feed_57 : decode b_Peer_feed 57 = .ok (.ireturn, 1) := by decide +kernel
theorem d_Peer_end_0 : decode b_Peer_end 0 = .ok (.aload_n 0, 1) := by decide +kernel
theorem d_Peer_end_1 : decode b_Peer_end 1 = .ok (.getfield 14, 3) := by decide +kernel
theorem d_Peer_end_4 : decode b_Peer_end 4 = .ok (.iload_n 1, 1) := by decide +kernel
theorem d_Peer_end_5 : decode b_Peer_end 5 = .ok (.invokevirtual 63, 3) := by decide +kernel
theorem d_Peer_end_8 : decode b_Peer_end 8 = .ok (.ireturn, 1) := by decide +kernel
theorem d_Peer_rule_0 : decode b_Peer_rule 0 = .ok (.iconst (-1), 1) := by decide +kernel
theorem d_Peer_rule_1 : decode b_Peer_rule 1 = .ok (.istore 4, 2) := by decide +kernel
theorem d_Peer_rule_3 : decode b_Peer_rule 3 = .ok (.aload_n 0, 1) := by decide +kernel
theorem d_Peer_rule_4 : decode b_Peer_rule 4 = .ok (.getfield 14, 3) := by decide +kernel
theorem d_Peer_rule_7 : decode b_Peer_rule 7 = .ok (.invokevirtual 66, 3) := by decide +kernel
theorem d_Peer_rule_10 : decode b_Peer_rule 10 = .ok (.istore 5, 2) := by decide +kernel
theorem d_Peer_rule_12 : decode b_Peer_rule 12 = .ok (.iload_n 1, 1) := by decide +kernel
theorem d_Peer_rule_13 : decode b_Peer_rule 13 = .ok (.invokestatic 70, 3) := by decide +kernel
theorem d_Peer_rule_16 : decode b_Peer_rule 16 = .ok (.ifCond .eq 25, 3) := by decide +kernel
theorem d_Peer_rule_19 : decode b_Peer_rule 19 = .ok (.iload_n 3, 1) := by decide +kernel
theorem d_Peer_rule_20 : decode b_Peer_rule 20 = .ok (.invokestatic 70, 3) := by decide +kernel
theorem d_Peer_rule_23 : decode b_Peer_rule 23 = .ok (.ifCond .eq 18, 3) := by decide +kernel
theorem d_Peer_rule_26 : decode b_Peer_rule 26 = .ok (.iload_n 2, 1) := by decide +kernel
theorem d_Peer_rule_27 : decode b_Peer_rule 27 = .ok (.ifCond .lt 14, 3) := by decide +kernel
theorem d_Peer_rule_30 : decode b_Peer_rule 30 = .ok (.iload_n 2, 1) := by decide +kernel
theorem d_Peer_rule_31 : decode b_Peer_rule 31 = .ok (.sipush 1000, 3) := by decide +kernel
theorem d_Peer_rule_34 : decode b_Peer_rule 34 = .ok (.if_icmp .gt 7, 3) := by decide +kernel
theorem d_Peer_rule_37 : decode b_Peer_rule 37 = .ok (.iconst 1, 1) := by decide +kernel
theorem d_Peer_rule_38 : decode b_Peer_rule 38 = .ok (.goto 4, 3) := by decide +kernel
theorem d_Peer_rule_41 : decode b_Peer_rule 41 = .ok (.iconst 0, 1) := by decide +kernel
theorem d_Peer_rule_42 : decode b_Peer_rule 42 = .ok (.istore 6, 2) := by decide +kernel
theorem d_Peer_rule_44 : decode b_Peer_rule 44 = .ok (.iload 6, 2) := by decide +kernel
theorem d_Peer_rule_46 : decode b_Peer_rule 46 = .ok (.ifCond .eq 90, 3) := by decide +kernel
theorem d_Peer_rule_49 : decode b_Peer_rule 49 = .ok (.aload_n 0, 1) := by decide +kernel
theorem d_Peer_rule_50 : decode b_Peer_rule 50 = .ok (.iload 5, 2) := by decide +kernel
theorem d_Peer_rule_52 : decode b_Peer_rule 52 = .ok (.invokevirtual 73, 3) := by decide +kernel
theorem d_Peer_rule_55 : decode b_Peer_rule 55 = .ok (.ifCond .eq 81, 3) := by decide +kernel
theorem d_Peer_rule_58 : decode b_Peer_rule 58 = .ok (.aload_n 0, 1) := by decide +kernel
theorem d_Peer_rule_59 : decode b_Peer_rule 59 = .ok (.getfield 41, 3) := by decide +kernel
theorem d_Peer_rule_62 : decode b_Peer_rule 62 = .ok (.aload_n 0, 1) := by decide +kernel
theorem d_Peer_rule_63 : decode b_Peer_rule 63 = .ok (.getfield 30, 3) := by decide +kernel
theorem d_Peer_rule_66 : decode b_Peer_rule 66 = .ok (.arraylength, 1) := by decide +kernel
theorem d_Peer_rule_67 : decode b_Peer_rule 67 = .ok (.if_icmp .ge 69, 3) := by decide +kernel
theorem d_Peer_rule_70 : decode b_Peer_rule 70 = .ok (.new 76, 3) := by decide +kernel
theorem d_Peer_rule_73 : decode b_Peer_rule 73 = .ok (.dup, 1) := by decide +kernel
theorem d_Peer_rule_74 : decode b_Peer_rule 74 = .ok (.aload_n 0, 1) := by decide +kernel
theorem d_Peer_rule_75 : decode b_Peer_rule 75 = .ok (.getfield 14, 3) := by decide +kernel
theorem d_Peer_rule_78 : decode b_Peer_rule 78 = .ok (.iload 5, 2) := by decide +kernel
theorem d_Peer_rule_80 : decode b_Peer_rule 80 = .ok (.invokespecial 78, 3) := by decide +kernel
theorem d_Peer_rule_83 : decode b_Peer_rule 83 = .ok (.astore 7, 2) := by decide +kernel
theorem d_Peer_rule_85 : decode b_Peer_rule 85 = .ok (.aload_n 0, 1) := by decide +kernel
theorem d_Peer_rule_86 : decode b_Peer_rule 86 = .ok (.getfield 30, 3) := by decide +kernel
theorem d_Peer_rule_89 : decode b_Peer_rule 89 = .ok (.aload_n 0, 1) := by decide +kernel
theorem d_Peer_rule_90 : decode b_Peer_rule 90 = .ok (.getfield 41, 3) := by decide +kernel
theorem d_Peer_rule_93 : decode b_Peer_rule 93 = .ok (.new 28, 3) := by decide +kernel
theorem d_Peer_rule_96 : decode b_Peer_rule 96 = .ok (.dup, 1) := by decide +kernel
theorem d_Peer_rule_97 : decode b_Peer_rule 97 = .ok (.iload_n 1, 1) := by decide +kernel
theorem d_Peer_rule_98 : decode b_Peer_rule 98 = .ok (.aload 7, 2) := by decide +kernel
theorem d_Peer_rule_100 : decode b_Peer_rule 100 = .ok (.aload_n 0, 1) := by decide +kernel
theorem d_Peer_rule_101 : decode b_Peer_rule 101 = .ok (.getfield 14, 3) := by decide +kernel
theorem d_Peer_rule_104 : decode b_Peer_rule 104 = .ok (.iload 5, 2) := by decide +kernel
theorem d_Peer_rule_106 : decode b_Peer_rule 106 = .ok (.iconst 1, 1) := by decide +kernel
theorem d_Peer_rule_107 : decode b_Peer_rule 107 = .ok (.iadd, 1) := by decide +kernel
theorem d_Peer_rule_108 : decode b_Peer_rule 108 = .ok (.sipush 200, 3) := by decide +kernel
theorem d_Peer_rule_111 : decode b_Peer_rule 111 = .ok (.invokevirtual 81, 3) := by decide +kernel
theorem d_Peer_rule_114 : decode b_Peer_rule 114 = .ok (.iload_n 2, 1) := by decide +kernel
theorem d_Peer_rule_115 : decode b_Peer_rule 115 = .ok (.iload_n 3, 1) := by decide +kernel
theorem d_Peer_rule_116 : decode b_Peer_rule 116 = .ok (.invokespecial 85, 3) := by decide +kernel
theorem d_Peer_rule_119 : decode b_Peer_rule 119 = .ok (.aastore, 1) := by decide +kernel
theorem d_Peer_rule_120 : decode b_Peer_rule 120 = .ok (.aload_n 0, 1) := by decide +kernel
theorem d_Peer_rule_121 : decode b_Peer_rule 121 = .ok (.getfield 41, 3) := by decide +kernel
theorem d_Peer_rule_124 : decode b_Peer_rule 124 = .ok (.istore 4, 2) := by decide +kernel
theorem d_Peer_rule_126 : decode b_Peer_rule 126 = .ok (.aload_n 0, 1) := by decide +kernel
theorem d_Peer_rule_127 : decode b_Peer_rule 127 = .ok (.dup, 1) := by decide +kernel
theorem d_Peer_rule_128 : decode b_Peer_rule 128 = .ok (.getfield 41, 3) := by decide +kernel
theorem d_Peer_rule_131 : decode b_Peer_rule 131 = .ok (.iconst 1, 1) := by decide +kernel
theorem d_Peer_rule_132 : decode b_Peer_rule 132 = .ok (.iadd, 1) := by decide +kernel
theorem d_Peer_rule_133 : decode b_Peer_rule 133 = .ok (.putfield 41, 3) := by decide +kernel
theorem d_Peer_rule_136 : decode b_Peer_rule 136 = .ok (.aload_n 0, 1) := by decide +kernel
theorem d_Peer_rule_137 : decode b_Peer_rule 137 = .ok (.getfield 14, 3) := by decide +kernel
theorem d_Peer_rule_140 : decode b_Peer_rule 140 = .ok (.invokevirtual 88, 3) := by decide +kernel
theorem d_Peer_rule_143 : decode b_Peer_rule 143 = .ok (.iload 4, 2) := by decide +kernel
theorem d_Peer_rule_145 : decode b_Peer_rule 145 = .ok (.ireturn, 1) := by decide +kernel
theorem d_Peer_spawn_0 : decode b_Peer_spawn 0 = .ok (.aload_n 0, 1) := by decide +kernel
theorem d_Peer_spawn_1 : decode b_Peer_spawn 1 = .ok (.iconst 1, 1) := by decide +kernel
theorem d_Peer_spawn_2 : decode b_Peer_spawn 2 = .ok (.putfield 45, 3) := by decide +kernel
theorem d_Peer_spawn_5 : decode b_Peer_spawn 5 = .ok (.aload_n 0, 1) := by decide +kernel
theorem d_Peer_spawn_6 : decode b_Peer_spawn 6 = .ok (.iconst 0, 1) := by decide +kernel
theorem d_Peer_spawn_7 : decode b_Peer_spawn 7 = .ok (.putfield 49, 3) := by decide +kernel
theorem d_Peer_spawn_10 : decode b_Peer_spawn 10 = .ok (.aload_n 0, 1) := by decide +kernel
theorem d_Peer_spawn_11 : decode b_Peer_spawn 11 = .ok (.getfield 18, 3) := by decide +kernel
theorem d_Peer_spawn_14 : decode b_Peer_spawn 14 = .ok (.invokevirtual 88, 3) := by decide +kernel
theorem d_Peer_spawn_17 : decode b_Peer_spawn 17 = .ok (.aload_n 0, 1) := by decide +kernel
theorem d_Peer_spawn_18 : decode b_Peer_spawn 18 = .ok (.getfield 37, 3) := by decide +kernel
theorem d_Peer_spawn_21 : decode b_Peer_spawn 21 = .ok (.invokevirtual 91, 3) := by decide +kernel
theorem d_Peer_spawn_24 : decode b_Peer_spawn 24 = .ok (.aload_n 0, 1) := by decide +kernel
theorem d_Peer_spawn_25 : decode b_Peer_spawn 25 = .ok (.getfield 21, 3) := by decide +kernel
theorem d_Peer_spawn_28 : decode b_Peer_spawn 28 = .ok (.invokevirtual 88, 3) := by decide +kernel
theorem d_Peer_spawn_31 : decode b_Peer_spawn 31 = .ok (.aload_n 0, 1) := by decide +kernel
theorem d_Peer_spawn_32 : decode b_Peer_spawn 32 = .ok (.invokevirtual 92, 3) := by decide +kernel
theorem d_Peer_spawn_35 : decode b_Peer_spawn 35 = .ok (.return_, 1) := by decide +kernel
theorem d_Peer_send_0 : decode b_Peer_send 0 = .ok (.aload_n 0, 1) := by decide +kernel
theorem d_Peer_send_1 : decode b_Peer_send 1 = .ok (.getfield 45, 3) := by decide +kernel
theorem d_Peer_send_4 : decode b_Peer_send 4 = .ok (.ifCond .eq 17, 3) := by decide +kernel
theorem d_Peer_send_7 : decode b_Peer_send 7 = .ok (.aload_n 0, 1) := by decide +kernel
theorem d_Peer_send_8 : decode b_Peer_send 8 = .ok (.iconst 1, 1) := by decide +kernel
theorem d_Peer_send_9 : decode b_Peer_send 9 = .ok (.aload_n 0, 1) := by decide +kernel
theorem d_Peer_send_10 : decode b_Peer_send 10 = .ok (.getfield 14, 3) := by decide +kernel
theorem d_Peer_send_13 : decode b_Peer_send 13 = .ok (.iconst 0, 1) := by decide +kernel
theorem d_Peer_send_14 : decode b_Peer_send 14 = .ok (.invokevirtual 95, 3) := by decide +kernel
theorem d_Peer_send_17 : decode b_Peer_send 17 = .ok (.aload_n 0, 1) := by decide +kernel
theorem d_Peer_send_18 : decode b_Peer_send 18 = .ok (.invokevirtual 99, 3) := by decide +kernel
theorem d_Peer_send_21 : decode b_Peer_send 21 = .ok (.aload_n 0, 1) := by decide +kernel
theorem d_Peer_send_22 : decode b_Peer_send 22 = .ok (.getfield 14, 3) := by decide +kernel
theorem d_Peer_send_25 : decode b_Peer_send 25 = .ok (.invokevirtual 88, 3) := by decide +kernel
theorem d_Peer_send_28 : decode b_Peer_send 28 = .ok (.aload_n 0, 1) := by decide +kernel
theorem d_Peer_send_29 : decode b_Peer_send 29 = .ok (.getfield 45, 3) := by decide +kernel
theorem d_Peer_send_32 : decode b_Peer_send 32 = .ok (.ireturn, 1) := by decide +kernel
theorem d_Peer_put_0 : decode b_Peer_put 0 = .ok (.aload_n 0, 1) := by decide +kernel
theorem d_Peer_put_1 : decode b_Peer_put 1 = .ok (.iconst 3, 1) := by decide +kernel
theorem d_Peer_put_2 : decode b_Peer_put 2 = .ok (.aload_n 0, 1) := by decide +kernel
theorem d_Peer_put_3 : decode b_Peer_put 3 = .ok (.getfield 14, 3) := by decide +kernel
theorem d_Peer_put_6 : decode b_Peer_put 6 = .ok (.iconst 1, 1) := by decide +kernel
theorem d_Peer_put_7 : decode b_Peer_put 7 = .ok (.invokevirtual 95, 3) := by decide +kernel
theorem d_Peer_put_10 : decode b_Peer_put 10 = .ok (.aload_n 0, 1) := by decide +kernel
theorem d_Peer_put_11 : decode b_Peer_put 11 = .ok (.getfield 14, 3) := by decide +kernel
theorem d_Peer_put_14 : decode b_Peer_put 14 = .ok (.invokevirtual 88, 3) := by decide +kernel
theorem d_Peer_put_17 : decode b_Peer_put 17 = .ok (.return_, 1) := by decide +kernel
theorem d_Peer_come_0 : decode b_Peer_come 0 = .ok (.aload_n 0, 1) := by decide +kernel
theorem d_Peer_come_1 : decode b_Peer_come 1 = .ok (.getfield 37, 3) := by decide +kernel
theorem d_Peer_come_4 : decode b_Peer_come 4 = .ok (.invokevirtual 102, 3) := by decide +kernel
theorem d_Peer_come_7 : decode b_Peer_come 7 = .ok (.astore_n 3, 1) := by decide +kernel
theorem d_Peer_come_8 : decode b_Peer_come 8 = .ok (.aload_n 3, 1) := by decide +kernel
theorem d_Peer_come_9 : decode b_Peer_come 9 = .ok (.ifnull 15, 3) := by decide +kernel
theorem d_Peer_come_12 : decode b_Peer_come 12 = .ok (.aload_n 0, 1) := by decide +kernel
theorem d_Peer_come_13 : decode b_Peer_come 13 = .ok (.getfield 37, 3) := by decide +kernel
theorem d_Peer_come_16 : decode b_Peer_come 16 = .ok (.invokevirtual 106, 3) := by decide +kernel
theorem d_Peer_come_19 : decode b_Peer_come 19 = .ok (.lload_n 1, 1) := by decide +kernel
theorem d_Peer_come_20 : decode b_Peer_come 20 = .ok (.lcmp, 1) := by decide +kernel
theorem d_Peer_come_21 : decode b_Peer_come 21 = .ok (.ifCond .le 7, 3) := by decide +kernel
theorem d_Peer_come_24 : decode b_Peer_come 24 = .ok (.ldc2_w 110, 3) := by decide +kernel
theorem d_Peer_come_27 : decode b_Peer_come 27 = .ok (.lreturn, 1) := by decide +kernel
theorem d_Peer_come_28 : decode b_Peer_come 28 = .ok (.aload_n 0, 1) := by decide +kernel
theorem d_Peer_come_29 : decode b_Peer_come 29 = .ok (.aload_n 0, 1) := by decide +kernel
theorem d_Peer_come_30 : decode b_Peer_come 30 = .ok (.getfield 52, 3) := by decide +kernel
theorem d_Peer_come_33 : decode b_Peer_come 33 = .ok (.aload_n 0, 1) := by decide +kernel
theorem d_Peer_come_34 : decode b_Peer_come 34 = .ok (.getfield 37, 3) := by decide +kernel
theorem d_Peer_come_37 : decode b_Peer_come 37 = .ok (.invokevirtual 106, 3) := by decide +kernel
theorem d_Peer_come_40 : decode b_Peer_come 40 = .ok (.invokestatic 112, 3) := by decide +kernel
theorem d_Peer_come_43 : decode b_Peer_come 43 = .ok (.putfield 52, 3) := by decide +kernel
theorem d_Peer_come_46 : decode b_Peer_come 46 = .ok (.aload_n 0, 1) := by decide +kernel
theorem d_Peer_come_47 : decode b_Peer_come 47 = .ok (.getfield 37, 3) := by decide +kernel
theorem d_Peer_come_50 : decode b_Peer_come 50 = .ok (.invokevirtual 118, 3) := by decide +kernel
theorem d_Peer_come_53 : decode b_Peer_come 53 = .ok (.aload_n 0, 1) := by decide +kernel
theorem d_Peer_come_54 : decode b_Peer_come 54 = .ok (.iconst 2, 1) := by decide +kernel
theorem d_Peer_come_55 : decode b_Peer_come 55 = .ok (.aload_n 3, 1) := by decide +kernel
theorem d_Peer_come_56 : decode b_Peer_come 56 = .ok (.iconst 0, 1) := by decide +kernel
theorem d_Peer_come_57 : decode b_Peer_come 57 = .ok (.invokevirtual 95, 3) := by decide +kernel
theorem d_Peer_come_60 : decode b_Peer_come 60 = .ok (.aload_n 0, 1) := by decide +kernel
theorem d_Peer_come_61 : decode b_Peer_come 61 = .ok (.getfield 21, 3) := by decide +kernel
theorem d_Peer_come_64 : decode b_Peer_come 64 = .ok (.iconst 0, 1) := by decide +kernel
theorem d_Peer_come_65 : decode b_Peer_come 65 = .ok (.aload_n 0, 1) := by decide +kernel
theorem d_Peer_come_66 : decode b_Peer_come 66 = .ok (.getfield 21, 3) := by decide +kernel
theorem d_Peer_come_69 : decode b_Peer_come 69 = .ok (.invokevirtual 121, 3) := by decide +kernel
theorem d_Peer_come_72 : decode b_Peer_come 72 = .ok (.aload_n 3, 1) := by decide +kernel
theorem d_Peer_come_73 : decode b_Peer_come 73 = .ok (.invokevirtual 121, 3) := by decide +kernel
theorem d_Peer_come_76 : decode b_Peer_come 76 = .ok (.iadd, 1) := by decide +kernel
theorem d_Peer_come_77 : decode b_Peer_come 77 = .ok (.sipush 1024, 3) := by decide +kernel
theorem d_Peer_come_80 : decode b_Peer_come 80 = .ok (.isub, 1) := by decide +kernel
theorem d_Peer_come_81 : decode b_Peer_come 81 = .ok (.invokestatic 124, 3) := by decide +kernel
theorem d_Peer_come_84 : decode b_Peer_come 84 = .ok (.invokevirtual 127, 3) := by decide +kernel
theorem d_Peer_come_87 : decode b_Peer_come 87 = .ok (.pop, 1) := by decide +kernel
theorem d_Peer_come_88 : decode b_Peer_come 88 = .ok (.aload_n 0, 1) := by decide +kernel
theorem d_Peer_come_89 : decode b_Peer_come 89 = .ok (.getfield 21, 3) := by decide +kernel
theorem d_Peer_come_92 : decode b_Peer_come 92 = .ok (.aload_n 3, 1) := by decide +kernel
theorem d_Peer_come_93 : decode b_Peer_come 93 = .ok (.invokevirtual 129, 3) := by decide +kernel
theorem d_Peer_come_96 : decode b_Peer_come 96 = .ok (.aload_n 0, 1) := by decide +kernel
theorem d_Peer_come_97 : decode b_Peer_come 97 = .ok (.getfield 52, 3) := by decide +kernel
theorem d_Peer_come_100 : decode b_Peer_come 100 = .ok (.lreturn, 1) := by decide +kernel
theorem d_Peer_fit_0 : decode b_Peer_fit 0 = .ok (.new 76, 3) := by decide +kernel
theorem d_Peer_fit_3 : decode b_Peer_fit 3 = .ok (.dup, 1) := by decide +kernel
theorem d_Peer_fit_4 : decode b_Peer_fit 4 = .ok (.aload_n 0, 1) := by decide +kernel
theorem d_Peer_fit_5 : decode b_Peer_fit 5 = .ok (.getfield 14, 3) := by decide +kernel
theorem d_Peer_fit_8 : decode b_Peer_fit 8 = .ok (.aload_n 0, 1) := by decide +kernel
theorem d_Peer_fit_9 : decode b_Peer_fit 9 = .ok (.getfield 14, 3) := by decide +kernel
theorem d_Peer_fit_12 : decode b_Peer_fit 12 = .ok (.invokevirtual 121, 3) := by decide +kernel
theorem d_Peer_fit_15 : decode b_Peer_fit 15 = .ok (.invokespecial 78, 3) := by decide +kernel
theorem d_Peer_fit_18 : decode b_Peer_fit 18 = .ok (.astore_n 1, 1) := by decide +kernel
theorem d_Peer_fit_19 : decode b_Peer_fit 19 = .ok (.aload_n 0, 1) := by decide +kernel
theorem d_Peer_fit_20 : decode b_Peer_fit 20 = .ok (.getfield 14, 3) := by decide +kernel
theorem d_Peer_fit_23 : decode b_Peer_fit 23 = .ok (.invokevirtual 88, 3) := by decide +kernel
theorem d_Peer_fit_26 : decode b_Peer_fit 26 = .ok (.aload_n 1, 1) := by decide +kernel
theorem d_Peer_fit_27 : decode b_Peer_fit 27 = .ok (.aload_n 0, 1) := by decide +kernel
theorem d_Peer_fit_28 : decode b_Peer_fit 28 = .ok (.getfield 21, 3) := by decide +kernel
theorem d_Peer_fit_31 : decode b_Peer_fit 31 = .ok (.invokevirtual 133, 3) := by decide +kernel
theorem d_Peer_fit_34 : decode b_Peer_fit 34 = .ok (.ireturn, 1) := by decide +kernel
theorem d_Peer_take_0 : decode b_Peer_take 0 = .ok (.aload_n 0, 1) := by decide +kernel
theorem d_Peer_take_1 : decode b_Peer_take 1 = .ok (.getfield 21, 3) := by decide +kernel
theorem d_Peer_take_4 : decode b_Peer_take 4 = .ok (.iload_n 1, 1) := by decide +kernel
theorem d_Peer_take_5 : decode b_Peer_take 5 = .ok (.invokevirtual 127, 3) := by decide +kernel
theorem d_Peer_take_8 : decode b_Peer_take 8 = .ok (.ireturn, 1) := by decide +kernel
theorem d_Peer_pass_0 : decode b_Peer_pass 0 = .ok (.aload_n 0, 1) := by decide +kernel
theorem d_Peer_pass_1 : decode b_Peer_pass 1 = .ok (.dup, 1) := by decide +kernel
theorem d_Peer_pass_2 : decode b_Peer_pass 2 = .ok (.getfield 52, 3) := by decide +kernel
theorem d_Peer_pass_5 : decode b_Peer_pass 5 = .ok (.lconst 0, 1) := by decide +kernel
theorem d_Peer_pass_6 : decode b_Peer_pass 6 = .ok (.lload_n 1, 1) := by decide +kernel
theorem d_Peer_pass_7 : decode b_Peer_pass 7 = .ok (.ldc2_w 137, 3) := by decide +kernel
theorem d_Peer_pass_10 : decode b_Peer_pass 10 = .ok (.invokestatic 139, 3) := by decide +kernel
theorem d_Peer_pass_13 : decode b_Peer_pass 13 = .ok (.invokestatic 112, 3) := by decide +kernel
theorem d_Peer_pass_16 : decode b_Peer_pass 16 = .ok (.ladd, 1) := by decide +kernel
theorem d_Peer_pass_17 : decode b_Peer_pass 17 = .ok (.putfield 52, 3) := by decide +kernel
theorem d_Peer_pass_20 : decode b_Peer_pass 20 = .ok (.aload_n 0, 1) := by decide +kernel
theorem d_Peer_pass_21 : decode b_Peer_pass 21 = .ok (.getfield 52, 3) := by decide +kernel
theorem d_Peer_pass_24 : decode b_Peer_pass 24 = .ok (.lreturn, 1) := by decide +kernel
theorem d_Peer_total_0 : decode b_Peer_total 0 = .ok (.iload_n 1, 1) := by decide +kernel
theorem d_Peer_total_1 : decode b_Peer_total 1 = .ok (.tableswitch 81 0 5 #[39, 44, 52, 60, 68, 73], 39) := by decide +kernel
theorem d_Peer_total_40 : decode b_Peer_total 40 = .ok (.aload_n 0, 1) := by decide +kernel
theorem d_Peer_total_41 : decode b_Peer_total 41 = .ok (.getfield 49, 3) := by decide +kernel
theorem d_Peer_total_44 : decode b_Peer_total 44 = .ok (.ireturn, 1) := by decide +kernel
theorem d_Peer_total_45 : decode b_Peer_total 45 = .ok (.aload_n 0, 1) := by decide +kernel
theorem d_Peer_total_46 : decode b_Peer_total 46 = .ok (.getfield 37, 3) := by decide +kernel
theorem d_Peer_total_49 : decode b_Peer_total 49 = .ok (.invokevirtual 142, 3) := by decide +kernel
theorem d_Peer_total_52 : decode b_Peer_total 52 = .ok (.ireturn, 1) := by decide +kernel
theorem d_Peer_total_53 : decode b_Peer_total 53 = .ok (.aload_n 0, 1) := by decide +kernel
theorem d_Peer_total_54 : decode b_Peer_total 54 = .ok (.getfield 21, 3) := by decide +kernel
theorem d_Peer_total_57 : decode b_Peer_total 57 = .ok (.invokevirtual 121, 3) := by decide +kernel
theorem d_Peer_total_60 : decode b_Peer_total 60 = .ok (.ireturn, 1) := by decide +kernel
theorem d_Peer_total_61 : decode b_Peer_total 61 = .ok (.aload_n 0, 1) := by decide +kernel
theorem d_Peer_total_62 : decode b_Peer_total 62 = .ok (.getfield 25, 3) := by decide +kernel
theorem d_Peer_total_65 : decode b_Peer_total 65 = .ok (.invokevirtual 121, 3) := by decide +kernel
theorem d_Peer_total_68 : decode b_Peer_total 68 = .ok (.ireturn, 1) := by decide +kernel
theorem d_Peer_total_69 : decode b_Peer_total 69 = .ok (.aload_n 0, 1) := by decide +kernel
theorem d_Peer_total_70 : decode b_Peer_total 70 = .ok (.getfield 41, 3) := by decide +kernel
theorem d_Peer_total_73 : decode b_Peer_total 73 = .ok (.ireturn, 1) := by decide +kernel
theorem d_Peer_total_74 : decode b_Peer_total 74 = .ok (.aload_n 0, 1) := by decide +kernel
theorem d_Peer_total_75 : decode b_Peer_total 75 = .ok (.getfield 18, 3) := by decide +kernel
theorem d_Peer_total_78 : decode b_Peer_total 78 = .ok (.invokevirtual 121, 3) := by decide +kernel
theorem d_Peer_total_81 : decode b_Peer_total 81 = .ok (.ireturn, 1) := by decide +kernel
theorem d_Peer_total_82 : decode b_Peer_total 82 = .ok (.iconst (-1), 1) := by decide +kernel
theorem d_Peer_total_83 : decode b_Peer_total 83 = .ok (.ireturn, 1) := by decide +kernel
theorem d_Peer_bufferAt_0 : decode b_Peer_bufferAt 0 = .ok (.aload_n 0, 1) := by decide +kernel
theorem d_Peer_bufferAt_1 : decode b_Peer_bufferAt 1 = .ok (.getfield 21, 3) := by decide +kernel
theorem d_Peer_bufferAt_4 : decode b_Peer_bufferAt 4 = .ok (.iload_n 1, 1) := by decide +kernel
theorem d_Peer_bufferAt_5 : decode b_Peer_bufferAt 5 = .ok (.invokevirtual 143, 3) := by decide +kernel
theorem d_Peer_bufferAt_8 : decode b_Peer_bufferAt 8 = .ok (.ireturn, 1) := by decide +kernel
theorem d_Peer_toldAt_0 : decode b_Peer_toldAt 0 = .ok (.aload_n 0, 1) := by decide +kernel
theorem d_Peer_toldAt_1 : decode b_Peer_toldAt 1 = .ok (.getfield 25, 3) := by decide +kernel
theorem d_Peer_toldAt_4 : decode b_Peer_toldAt 4 = .ok (.iload_n 1, 1) := by decide +kernel
theorem d_Peer_toldAt_5 : decode b_Peer_toldAt 5 = .ok (.invokevirtual 143, 3) := by decide +kernel
theorem d_Peer_toldAt_8 : decode b_Peer_toldAt 8 = .ok (.ireturn, 1) := by decide +kernel
theorem d_Peer_isState_0 : decode b_Peer_isState 0 = .ok (.iload_n 0, 1) := by decide +kernel
theorem d_Peer_isState_1 : decode b_Peer_isState 1 = .ok (.ifCond .lt 13, 3) := by decide +kernel
theorem d_Peer_isState_4 : decode b_Peer_isState 4 = .ok (.iload_n 0, 1) := by decide +kernel
theorem d_Peer_isState_5 : decode b_Peer_isState 5 = .ok (.bipush 31, 2) := by decide +kernel
theorem d_Peer_isState_7 : decode b_Peer_isState 7 = .ok (.if_icmp .gt 7, 3) := by decide +kernel
theorem d_Peer_isState_10 : decode b_Peer_isState 10 = .ok (.iconst 1, 1) := by decide +kernel
theorem d_Peer_isState_11 : decode b_Peer_isState 11 = .ok (.goto 4, 3) := by decide +kernel
theorem d_Peer_isState_14 : decode b_Peer_isState 14 = .ok (.iconst 0, 1) := by decide +kernel
theorem d_Peer_isState_15 : decode b_Peer_isState 15 = .ok (.ireturn, 1) := by decide +kernel
theorem d_Peer_tapeIsRule_0 : decode b_Peer_tapeIsRule 0 = .ok (.iload_n 1, 1) := by decide +kernel
theorem d_Peer_tapeIsRule_1 : decode b_Peer_tapeIsRule 1 = .ok (.ifCond .lt 31, 3) := by decide +kernel
theorem d_Peer_tapeIsRule_4 : decode b_Peer_tapeIsRule 4 = .ok (.iload_n 1, 1) := by decide +kernel
theorem d_Peer_tapeIsRule_5 : decode b_Peer_tapeIsRule 5 = .ok (.sipush 200, 3) := by decide +kernel
theorem d_Peer_tapeIsRule_8 : decode b_Peer_tapeIsRule 8 = .ok (.if_icmp .gt 24, 3) := by decide +kernel
theorem d_Peer_tapeIsRule_11 : decode b_Peer_tapeIsRule 11 = .ok (.aload_n 0, 1) := by decide +kernel
theorem d_Peer_tapeIsRule_12 : decode b_Peer_tapeIsRule 12 = .ok (.getfield 14, 3) := by decide +kernel
theorem d_Peer_tapeIsRule_15 : decode b_Peer_tapeIsRule 15 = .ok (.invokevirtual 121, 3) := by decide +kernel
theorem d_Peer_tapeIsRule_18 : decode b_Peer_tapeIsRule 18 = .ok (.iload_n 1, 1) := by decide +kernel
theorem d_Peer_tapeIsRule_19 : decode b_Peer_tapeIsRule 19 = .ok (.isub, 1) := by decide +kernel
theorem d_Peer_tapeIsRule_20 : decode b_Peer_tapeIsRule 20 = .ok (.iconst 1, 1) := by decide +kernel
theorem d_Peer_tapeIsRule_21 : decode b_Peer_tapeIsRule 21 = .ok (.isub, 1) := by decide +kernel
theorem d_Peer_tapeIsRule_22 : decode b_Peer_tapeIsRule 22 = .ok (.sipush 200, 3) := by decide +kernel
theorem d_Peer_tapeIsRule_25 : decode b_Peer_tapeIsRule 25 = .ok (.if_icmp .gt 7, 3) := by decide +kernel
theorem d_Peer_tapeIsRule_28 : decode b_Peer_tapeIsRule 28 = .ok (.iconst 1, 1) := by decide +kernel
theorem d_Peer_tapeIsRule_29 : decode b_Peer_tapeIsRule 29 = .ok (.goto 4, 3) := by decide +kernel
theorem d_Peer_tapeIsRule_32 : decode b_Peer_tapeIsRule 32 = .ok (.iconst 0, 1) := by decide +kernel
theorem d_Peer_tapeIsRule_33 : decode b_Peer_tapeIsRule 33 = .ok (.ireturn, 1) := by decide +kernel
theorem d_Peer_giveTapeToPeer_0 : decode b_Peer_giveTapeToPeer 0 = .ok (.iconst 0, 1) := by decide +kernel
theorem d_Peer_giveTapeToPeer_1 : decode b_Peer_giveTapeToPeer 1 = .ok (.istore_n 1, 1) := by decide +kernel
theorem d_Peer_giveTapeToPeer_2 : decode b_Peer_giveTapeToPeer 2 = .ok (.iload_n 1, 1) := by decide +kernel
theorem d_Peer_giveTapeToPeer_3 : decode b_Peer_giveTapeToPeer 3 = .ok (.aload_n 0, 1) := by decide +kernel
theorem d_Peer_giveTapeToPeer_4 : decode b_Peer_giveTapeToPeer 4 = .ok (.getfield 14, 3) := by decide +kernel
theorem d_Peer_giveTapeToPeer_7 : decode b_Peer_giveTapeToPeer 7 = .ok (.invokevirtual 121, 3) := by decide +kernel
theorem d_Peer_giveTapeToPeer_10 : decode b_Peer_giveTapeToPeer 10 = .ok (.if_icmp .ge 46, 3) := by decide +kernel
theorem d_Peer_giveTapeToPeer_13 : decode b_Peer_giveTapeToPeer 13 = .ok (.aload_n 0, 1) := by decide +kernel
theorem d_Peer_giveTapeToPeer_14 : decode b_Peer_giveTapeToPeer 14 = .ok (.getfield 14, 3) := by decide +kernel
theorem d_Peer_giveTapeToPeer_17 : decode b_Peer_giveTapeToPeer 17 = .ok (.iload_n 1, 1) := by decide +kernel
theorem d_Peer_giveTapeToPeer_18 : decode b_Peer_giveTapeToPeer 18 = .ok (.invokevirtual 143, 3) := by decide +kernel
theorem d_Peer_giveTapeToPeer_21 : decode b_Peer_giveTapeToPeer 21 = .ok (.istore_n 2, 1) := by decide +kernel
theorem d_Peer_giveTapeToPeer_22 : decode b_Peer_giveTapeToPeer 22 = .ok (.iload_n 2, 1) := by decide +kernel
theorem d_Peer_giveTapeToPeer_23 : decode b_Peer_giveTapeToPeer 23 = .ok (.bipush 10, 2) := by decide +kernel
theorem d_Peer_giveTapeToPeer_25 : decode b_Peer_giveTapeToPeer 25 = .ok (.if_icmp .ne 17, 3) := by decide +kernel
theorem d_Peer_giveTapeToPeer_28 : decode b_Peer_giveTapeToPeer 28 = .ok (.aload_n 0, 1) := by decide +kernel
theorem d_Peer_giveTapeToPeer_29 : decode b_Peer_giveTapeToPeer 29 = .ok (.invokevirtual 92, 3) := by decide +kernel
theorem d_Peer_giveTapeToPeer_32 : decode b_Peer_giveTapeToPeer 32 = .ok (.aload_n 0, 1) := by decide +kernel
theorem d_Peer_giveTapeToPeer_33 : decode b_Peer_giveTapeToPeer 33 = .ok (.getfield 18, 3) := by decide +kernel
theorem d_Peer_giveTapeToPeer_36 : decode b_Peer_giveTapeToPeer 36 = .ok (.invokevirtual 88, 3) := by decide +kernel
theorem d_Peer_giveTapeToPeer_39 : decode b_Peer_giveTapeToPeer 39 = .ok (.goto 11, 3) := by decide +kernel
theorem d_Peer_giveTapeToPeer_42 : decode b_Peer_giveTapeToPeer 42 = .ok (.aload_n 0, 1) := by decide +kernel
theorem d_Peer_giveTapeToPeer_43 : decode b_Peer_giveTapeToPeer 43 = .ok (.getfield 18, 3) := by decide +kernel
theorem d_Peer_giveTapeToPeer_46 : decode b_Peer_giveTapeToPeer 46 = .ok (.iload_n 2, 1) := by decide +kernel
theorem d_Peer_giveTapeToPeer_47 : decode b_Peer_giveTapeToPeer 47 = .ok (.invokevirtual 147, 3) := by decide +kernel
theorem d_Peer_giveTapeToPeer_50 : decode b_Peer_giveTapeToPeer 50 = .ok (.iinc 1 1, 3) := by decide +kernel
theorem d_Peer_giveTapeToPeer_53 : decode b_Peer_giveTapeToPeer 53 = .ok (.goto (-51), 3) := by decide +kernel
theorem d_Peer_giveTapeToPeer_56 : decode b_Peer_giveTapeToPeer 56 = .ok (.return_, 1) := by decide +kernel
theorem d_Peer_answerLine_0 : decode b_Peer_answerLine 0 = .ok (.iconst 0, 1) := by decide +kernel
theorem d_Peer_answerLine_1 : decode b_Peer_answerLine 1 = .ok (.istore_n 1, 1) := by decide +kernel
theorem d_Peer_answerLine_2 : decode b_Peer_answerLine 2 = .ok (.iload_n 1, 1) := by decide +kernel
theorem d_Peer_answerLine_3 : decode b_Peer_answerLine 3 = .ok (.aload_n 0, 1) := by decide +kernel
theorem d_Peer_answerLine_4 : decode b_Peer_answerLine 4 = .ok (.getfield 41, 3) := by decide +kernel
theorem d_Peer_answerLine_7 : decode b_Peer_answerLine 7 = .ok (.if_icmp .ge 84, 3) := by decide +kernel
theorem d_Peer_answerLine_10 : decode b_Peer_answerLine 10 = .ok (.iload_n 1, 1) := by decide +kernel
theorem d_Peer_answerLine_11 : decode b_Peer_answerLine 11 = .ok (.aload_n 0, 1) := by decide +kernel
theorem d_Peer_answerLine_12 : decode b_Peer_answerLine 12 = .ok (.getfield 30, 3) := by decide +kernel
theorem d_Peer_answerLine_15 : decode b_Peer_answerLine 15 = .ok (.arraylength, 1) := by decide +kernel
theorem d_Peer_answerLine_16 : decode b_Peer_answerLine 16 = .ok (.if_icmp .ge 75, 3) := by decide +kernel
theorem d_Peer_answerLine_19 : decode b_Peer_answerLine 19 = .ok (.aload_n 0, 1) := by decide +kernel
theorem d_Peer_answerLine_20 : decode b_Peer_answerLine 20 = .ok (.getfield 30, 3) := by decide +kernel
theorem d_Peer_answerLine_23 : decode b_Peer_answerLine 23 = .ok (.iload_n 1, 1) := by decide +kernel
theorem d_Peer_answerLine_24 : decode b_Peer_answerLine 24 = .ok (.aaload, 1) := by decide +kernel
theorem d_Peer_answerLine_25 : decode b_Peer_answerLine 25 = .ok (.astore_n 2, 1) := by decide +kernel
theorem d_Peer_answerLine_26 : decode b_Peer_answerLine 26 = .ok (.aload_n 2, 1) := by decide +kernel
theorem d_Peer_answerLine_27 : decode b_Peer_answerLine 27 = .ok (.ifnull 58, 3) := by decide +kernel
theorem d_Peer_answerLine_30 : decode b_Peer_answerLine 30 = .ok (.aload_n 2, 1) := by decide +kernel
theorem d_Peer_answerLine_31 : decode b_Peer_answerLine 31 = .ok (.getfield 150, 3) := by decide +kernel
theorem d_Peer_answerLine_34 : decode b_Peer_answerLine 34 = .ok (.aload_n 0, 1) := by decide +kernel
theorem d_Peer_answerLine_35 : decode b_Peer_answerLine 35 = .ok (.getfield 49, 3) := by decide +kernel
theorem d_Peer_answerLine_38 : decode b_Peer_answerLine 38 = .ok (.if_icmp .ne 47, 3) := by decide +kernel
theorem d_Peer_answerLine_41 : decode b_Peer_answerLine 41 = .ok (.aload_n 2, 1) := by decide +kernel
theorem d_Peer_answerLine_42 : decode b_Peer_answerLine 42 = .ok (.getfield 153, 3) := by decide +kernel
theorem d_Peer_answerLine_45 : decode b_Peer_answerLine 45 = .ok (.aload_n 0, 1) := by decide +kernel
theorem d_Peer_answerLine_46 : decode b_Peer_answerLine 46 = .ok (.getfield 18, 3) := by decide +kernel
theorem d_Peer_answerLine_49 : decode b_Peer_answerLine 49 = .ok (.invokevirtual 157, 3) := by decide +kernel
theorem d_Peer_answerLine_52 : decode b_Peer_answerLine 52 = .ok (.ifCond .eq 33, 3) := by decide +kernel
theorem d_Peer_answerLine_55 : decode b_Peer_answerLine 55 = .ok (.aload_n 0, 1) := by decide +kernel
theorem d_Peer_answerLine_56 : decode b_Peer_answerLine 56 = .ok (.aload_n 2, 1) := by decide +kernel
theorem d_Peer_answerLine_57 : decode b_Peer_answerLine 57 = .ok (.getfield 161, 3) := by decide +kernel
theorem d_Peer_answerLine_60 : decode b_Peer_answerLine 60 = .ok (.putfield 49, 3) := by decide +kernel
theorem d_Peer_answerLine_63 : decode b_Peer_answerLine 63 = .ok (.aload_n 0, 1) := by decide +kernel
theorem d_Peer_answerLine_64 : decode b_Peer_answerLine 64 = .ok (.getfield 37, 3) := by decide +kernel
theorem d_Peer_answerLine_67 : decode b_Peer_answerLine 67 = .ok (.aload_n 0, 1) := by decide +kernel
theorem d_Peer_answerLine_68 : decode b_Peer_answerLine 68 = .ok (.getfield 52, 3) := by decide +kernel
theorem d_Peer_answerLine_71 : decode b_Peer_answerLine 71 = .ok (.aload_n 2, 1) := by decide +kernel
theorem d_Peer_answerLine_72 : decode b_Peer_answerLine 72 = .ok (.getfield 164, 3) := by decide +kernel
theorem d_Peer_answerLine_75 : decode b_Peer_answerLine 75 = .ok (.i2l, 1) := by decide +kernel
theorem d_Peer_answerLine_76 : decode b_Peer_answerLine 76 = .ok (.ladd, 1) := by decide +kernel
theorem d_Peer_answerLine_77 : decode b_Peer_answerLine 77 = .ok (.aload_n 2, 1) := by decide +kernel
theorem d_Peer_answerLine_78 : decode b_Peer_answerLine 78 = .ok (.getfield 167, 3) := by decide +kernel
theorem d_Peer_answerLine_81 : decode b_Peer_answerLine 81 = .ok (.invokevirtual 170, 3) := by decide +kernel
theorem d_Peer_answerLine_84 : decode b_Peer_answerLine 84 = .ok (.return_, 1) := by decide +kernel
theorem d_Peer_answerLine_85 : decode b_Peer_answerLine 85 = .ok (.iinc 1 1, 3) := by decide +kernel
theorem d_Peer_answerLine_88 : decode b_Peer_answerLine 88 = .ok (.goto (-86), 3) := by decide +kernel
theorem d_Peer_answerLine_91 : decode b_Peer_answerLine 91 = .ok (.return_, 1) := by decide +kernel
theorem d_Peer_tell_0 : decode b_Peer_tell 0 = .ok (.iconst 1, 1) := by decide +kernel
theorem d_Peer_tell_1 : decode b_Peer_tell 1 = .ok (.aload_n 2, 1) := by decide +kernel
theorem d_Peer_tell_2 : decode b_Peer_tell 2 = .ok (.invokevirtual 121, 3) := by decide +kernel
theorem d_Peer_tell_5 : decode b_Peer_tell 5 = .ok (.iadd, 1) := by decide +kernel
theorem d_Peer_tell_6 : decode b_Peer_tell 6 = .ok (.iload_n 3, 1) := by decide +kernel
theorem d_Peer_tell_7 : decode b_Peer_tell 7 = .ok (.ifCond .eq 7, 3) := by decide +kernel
theorem d_Peer_tell_10 : decode b_Peer_tell 10 = .ok (.iconst 1, 1) := by decide +kernel
theorem d_Peer_tell_11 : decode b_Peer_tell 11 = .ok (.goto 4, 3) := by decide +kernel
theorem d_Peer_tell_14 : decode b_Peer_tell 14 = .ok (.iconst 0, 1) := by decide +kernel
theorem d_Peer_tell_15 : decode b_Peer_tell 15 = .ok (.iadd, 1) := by decide +kernel
theorem d_Peer_tell_16 : decode b_Peer_tell 16 = .ok (.istore 4, 2) := by decide +kernel
theorem d_Peer_tell_18 : decode b_Peer_tell 18 = .ok (.aload_n 0, 1) := by decide +kernel
theorem d_Peer_tell_19 : decode b_Peer_tell 19 = .ok (.getfield 25, 3) := by decide +kernel
theorem d_Peer_tell_22 : decode b_Peer_tell 22 = .ok (.iload 4, 2) := by decide +kernel
theorem d_Peer_tell_24 : decode b_Peer_tell 24 = .ok (.invokevirtual 56, 3) := by decide +kernel
theorem d_Peer_tell_27 : decode b_Peer_tell 27 = .ok (.ifCond .ne 4, 3) := by decide +kernel
theorem d_Peer_tell_30 : decode b_Peer_tell 30 = .ok (.return_, 1) := by decide +kernel
theorem d_Peer_tell_31 : decode b_Peer_tell 31 = .ok (.aload_n 0, 1) := by decide +kernel
theorem d_Peer_tell_32 : decode b_Peer_tell 32 = .ok (.getfield 25, 3) := by decide +kernel
theorem d_Peer_tell_35 : decode b_Peer_tell 35 = .ok (.iload_n 1, 1) := by decide +kernel
theorem d_Peer_tell_36 : decode b_Peer_tell 36 = .ok (.invokevirtual 147, 3) := by decide +kernel
theorem d_Peer_tell_39 : decode b_Peer_tell 39 = .ok (.aload_n 0, 1) := by decide +kernel
theorem d_Peer_tell_40 : decode b_Peer_tell 40 = .ok (.getfield 25, 3) := by decide +kernel
theorem d_Peer_tell_43 : decode b_Peer_tell 43 = .ok (.aload_n 2, 1) := by decide +kernel
theorem d_Peer_tell_44 : decode b_Peer_tell 44 = .ok (.invokevirtual 129, 3) := by decide +kernel
theorem d_Peer_tell_47 : decode b_Peer_tell 47 = .ok (.iload_n 3, 1) := by decide +kernel
theorem d_Peer_tell_48 : decode b_Peer_tell 48 = .ok (.ifCond .eq 12, 3) := by decide +kernel
theorem d_Peer_tell_51 : decode b_Peer_tell 51 = .ok (.aload_n 0, 1) := by decide +kernel
theorem d_Peer_tell_52 : decode b_Peer_tell 52 = .ok (.getfield 25, 3) := by decide +kernel
theorem d_Peer_tell_55 : decode b_Peer_tell 55 = .ok (.bipush 10, 2) := by decide +kernel
theorem d_Peer_tell_57 : decode b_Peer_tell 57 = .ok (.invokevirtual 147, 3) := by decide +kernel
theorem d_Peer_tell_60 : decode b_Peer_tell 60 = .ok (.return_, 1) := by decide +kernel
