theorem d_Model_init_0 : decode b_Model_init 0 = .ok (.aload_n 0, 1) := by decide +kernel
theorem d_Model_init_1 : decode b_Model_init 1 = .ok (.invokespecial 1, 3) := by decide +kernel
theorem d_Model_init_4 : decode b_Model_init 4 = .ok (.aload_n 0, 1) := by decide +kernel
theorem d_Model_init_5 : decode b_Model_init 5 = .ok (.sipush 1024, 3) := by decide +kernel
theorem d_Model_init_8 : decode b_Model_init 8 = .ok (.newarray .byte, 2) := by decide +kernel
theorem d_Model_init_10 : decode b_Model_init 10 = .ok (.putfield 7, 3) := by decide +kernel
theorem d_Model_init_13 : decode b_Model_init 13 = .ok (.aload_n 0, 1) := by decide +kernel
theorem d_Model_init_14 : decode b_Model_init 14 = .ok (.bipush 64, 2) := by decide +kernel
theorem d_Model_init_16 : decode b_Model_init 16 = .ok (.newarray .int, 2) := by decide +kernel
theorem d_Model_init_18 : decode b_Model_init 18 = .ok (.putfield 13, 3) := by decide +kernel
theorem d_Model_init_21 : decode b_Model_init 21 = .ok (.aload_n 0, 1) := by decide +kernel
theorem d_Model_init_22 : decode b_Model_init 22 = .ok (.bipush 64, 2) := by decide +kernel
theorem d_Model_init_24 : decode b_Model_init 24 = .ok (.newarray .int, 2) := by decide +kernel
theorem d_Model_init_26 : decode b_Model_init 26 = .ok (.putfield 17, 3) := by decide +kernel
theorem d_Model_init_29 : decode b_Model_init 29 = .ok (.aload_n 0, 1) := by decide +kernel
theorem d_Model_init_30 : decode b_Model_init 30 = .ok (.bipush 64, 2) := by decide +kernel
theorem d_Model_init_32 : decode b_Model_init 32 = .ok (.newarray .int, 2) := by decide +kernel
theorem d_Model_init_34 : decode b_Model_init 34 = .ok (.putfield 20, 3) := by decide +kernel
theorem d_Model_init_37 : decode b_Model_init 37 = .ok (.aload_n 0, 1) := by decide +kernel
theorem d_Model_init_38 : decode b_Model_init 38 = .ok (.bipush 64, 2) := by decide +kernel
theorem d_Model_init_40 : decode b_Model_init 40 = .ok (.newarray .int, 2) := by decide +kernel
theorem d_Model_init_42 : decode b_Model_init 42 = .ok (.putfield 23, 3) := by decide +kernel
theorem d_Model_init_45 : decode b_Model_init 45 = .ok (.aload_n 0, 1) := by decide +kernel
theorem d_Model_init_46 : decode b_Model_init 46 = .ok (.bipush 64, 2) := by decide +kernel
theorem d_Model_init_48 : decode b_Model_init 48 = .ok (.newarray .int, 2) := by decide +kernel
theorem d_Model_init_50 : decode b_Model_init 50 = .ok (.putfield 26, 3) := by decide +kernel
theorem d_Model_init_53 : decode b_Model_init 53 = .ok (.aload_n 0, 1) := by decide +kernel
theorem d_Model_init_54 : decode b_Model_init 54 = .ok (.sipush 12800, 3) := by decide +kernel
theorem d_Model_init_57 : decode b_Model_init 57 = .ok (.newarray .byte, 2) := by decide +kernel
theorem d_Model_init_59 : decode b_Model_init 59 = .ok (.putfield 29, 3) := by decide +kernel
theorem d_Model_init_62 : decode b_Model_init 62 = .ok (.aload_n 0, 1) := by decide +kernel
theorem d_Model_init_63 : decode b_Model_init 63 = .ok (.sipush 12800, 3) := by decide +kernel
theorem d_Model_init_66 : decode b_Model_init 66 = .ok (.newarray .byte, 2) := by decide +kernel
theorem d_Model_init_68 : decode b_Model_init 68 = .ok (.putfield 32, 3) := by decide +kernel
theorem d_Model_init_71 : decode b_Model_init 71 = .ok (.aload_n 0, 1) := by decide +kernel
theorem d_Model_init_72 : decode b_Model_init 72 = .ok (.sipush 1024, 3) := by decide +kernel
theorem d_Model_init_75 : decode b_Model_init 75 = .ok (.newarray .byte, 2) := by decide +kernel
theorem d_Model_init_77 : decode b_Model_init 77 = .ok (.putfield 35, 3) := by decide +kernel
theorem d_Model_init_80 : decode b_Model_init 80 = .ok (.aload_n 0, 1) := by decide +kernel
theorem d_Model_init_81 : decode b_Model_init 81 = .ok (.bipush 64, 2) := by decide +kernel
theorem d_Model_init_83 : decode b_Model_init 83 = .ok (.newarray .long, 2) := by decide +kernel
theorem d_Model_init_85 : decode b_Model_init 85 = .ok (.putfield 38, 3) := by decide +kernel
theorem d_Model_init_88 : decode b_Model_init 88 = .ok (.aload_n 0, 1) := by decide +kernel
theorem d_Model_init_89 : decode b_Model_init 89 = .ok (.bipush 64, 2) := by decide +kernel
theorem d_Model_init_91 : decode b_Model_init 91 = .ok (.newarray .int, 2) := by decide +kernel
theorem d_Model_init_93 : decode b_Model_init 93 = .ok (.putfield 42, 3) := by decide +kernel
theorem d_Model_init_96 : decode b_Model_init 96 = .ok (.aload_n 0, 1) := by decide +kernel
theorem d_Model_init_97 : decode b_Model_init 97 = .ok (.sipush 1024, 3) := by decide +kernel
theorem d_Model_init_100 : decode b_Model_init 100 = .ok (.newarray .byte, 2) := by decide +kernel
theorem d_Model_init_102 : decode b_Model_init 102 = .ok (.putfield 45, 3) := by decide +kernel
theorem d_Model_init_105 : decode b_Model_init 105 = .ok (.aload_n 0, 1) := by decide +kernel
theorem d_Model_init_106 : decode b_Model_init 106 = .ok (.ldc 48, 2) := by decide +kernel
theorem d_Model_init_108 : decode b_Model_init 108 = .ok (.newarray .byte, 2) := by decide +kernel
theorem d_Model_init_110 : decode b_Model_init 110 = .ok (.putfield 49, 3) := by decide +kernel
theorem d_Model_init_113 : decode b_Model_init 113 = .ok (.aload_n 0, 1) := by decide +kernel
theorem d_Model_init_114 : decode b_Model_init 114 = .ok (.sipush 1025, 3) := by decide +kernel
theorem d_Model_init_117 : decode b_Model_init 117 = .ok (.newarray .boolean, 2) := by decide +kernel
theorem d_Model_init_119 : decode b_Model_init 119 = .ok (.putfield 52, 3) := by decide +kernel
theorem d_Model_init_122 : decode b_Model_init 122 = .ok (.return_, 1) := by decide +kernel
theorem d_Model_in_0 : decode b_Model_in 0 = .ok (.iload_n 0, 1) := by decide +kernel
theorem d_Model_in_1 : decode b_Model_in 1 = .ok (.iload_n 1, 1) := by decide +kernel
theorem d_Model_in_2 : decode b_Model_in 2 = .ok (.if_icmp .lt 12, 3) := by decide +kernel
theorem d_Model_in_5 : decode b_Model_in 5 = .ok (.iload_n 0, 1) := by decide +kernel
theorem d_Model_in_6 : decode b_Model_in 6 = .ok (.iload_n 2, 1) := by decide +kernel
theorem d_Model_in_7 : decode b_Model_in 7 = .ok (.if_icmp .gt 7, 3) := by decide +kernel
theorem d_Model_in_10 : decode b_Model_in 10 = .ok (.iconst 1, 1) := by decide +kernel
theorem d_Model_in_11 : decode b_Model_in 11 = .ok (.goto 4, 3) := by decide +kernel
theorem d_Model_in_14 : decode b_Model_in 14 = .ok (.iconst 0, 1) := by decide +kernel
theorem d_Model_in_15 : decode b_Model_in 15 = .ok (.ireturn, 1) := by decide +kernel
theorem d_Model_lay_0 : decode b_Model_lay 0 = .ok (.bipush 24, 2) := by decide +kernel
theorem d_Model_lay_2 : decode b_Model_lay 2 = .ok (.istore_n 2, 1) := by decide +kernel
theorem d_Model_lay_3 : decode b_Model_lay 3 = .ok (.iload_n 2, 1) := by decide +kernel
theorem d_Model_lay_4 : decode b_Model_lay 4 = .ok (.ifCond .lt 32, 3) := by decide +kernel
theorem d_Model_lay_7 : decode b_Model_lay 7 = .ok (.aload_n 0, 1) := by decide +kernel
theorem d_Model_lay_8 : decode b_Model_lay 8 = .ok (.getfield 7, 3) := by decide +kernel
theorem d_Model_lay_11 : decode b_Model_lay 11 = .ok (.aload_n 0, 1) := by decide +kernel
theorem d_Model_lay_12 : decode b_Model_lay 12 = .ok (.getfield 56, 3) := by decide +kernel
theorem d_Model_lay_15 : decode b_Model_lay 15 = .ok (.iload_n 1, 1) := by decide +kernel
theorem d_Model_lay_16 : decode b_Model_lay 16 = .ok (.iload_n 2, 1) := by decide +kernel
theorem d_Model_lay_17 : decode b_Model_lay 17 = .ok (.ishr, 1) := by decide +kernel
theorem d_Model_lay_18 : decode b_Model_lay 18 = .ok (.i2b, 1) := by decide +kernel
theorem d_Model_lay_19 : decode b_Model_lay 19 = .ok (.bastore, 1) := by decide +kernel
theorem d_Model_lay_20 : decode b_Model_lay 20 = .ok (.aload_n 0, 1) := by decide +kernel
theorem d_Model_lay_21 : decode b_Model_lay 21 = .ok (.dup, 1) := by decide +kernel
theorem d_Model_lay_22 : decode b_Model_lay 22 = .ok (.getfield 56, 3) := by decide +kernel
theorem d_Model_lay_25 : decode b_Model_lay 25 = .ok (.iconst 1, 1) := by decide +kernel
theorem d_Model_lay_26 : decode b_Model_lay 26 = .ok (.iadd, 1) := by decide +kernel
theorem d_Model_lay_27 : decode b_Model_lay 27 = .ok (.putfield 56, 3) := by decide +kernel
theorem d_Model_lay_30 : decode b_Model_lay 30 = .ok (.iinc 2 (-8), 3) := by decide +kernel
theorem d_Model_lay_33 : decode b_Model_lay 33 = .ok (.goto (-30), 3) := by decide +kernel
theorem d_Model_lay_36 : decode b_Model_lay 36 = .ok (.return_, 1) := by decide +kernel
theorem d_Model_feed_0 : decode b_Model_feed 0 = .ok (.aload_n 0, 1) := by decide +kernel
theorem d_Model_feed_1 : decode b_Model_feed 1 = .ok (.getfield 56, 3) := by decide +kernel
theorem d_Model_feed_4 : decode b_Model_feed 4 = .ok (.bipush 20, 2) := by decide +kernel
theorem d_Model_feed_6 : decode b_Model_feed 6 = .ok (.iadd, 1) := by decide +kernel
theorem d_Model_feed_7 : decode b_Model_feed 7 = .ok (.sipush 1024, 3) := by decide +kernel
theorem d_Model_feed_10 : decode b_Model_feed 10 = .ok (.if_icmp .le 5, 3) := by decide +kernel
theorem d_Model_feed_13 : decode b_Model_feed 13 = .ok (.iconst 0, 1) := by decide +kernel
theorem d_Model_feed_14 : decode b_Model_feed 14 = .ok (.ireturn, 1) := by decide +kernel
theorem d_Model_feed_15 : decode b_Model_feed 15 = .ok (.aload_n 0, 1) := by decide +kernel
theorem d_Model_feed_16 : decode b_Model_feed 16 = .ok (.iload_n 1, 1) := by decide +kernel
theorem d_Model_feed_17 : decode b_Model_feed 17 = .ok (.invokevirtual 60, 3) := by decide +kernel
theorem d_Model_feed_20 : decode b_Model_feed 20 = .ok (.aload_n 0, 1) := by decide +kernel
theorem d_Model_feed_21 : decode b_Model_feed 21 = .ok (.iload_n 2, 1) := by decide +kernel
theorem d_Model_feed_22 : decode b_Model_feed 22 = .ok (.invokevirtual 60, 3) := by decide +kernel
theorem d_Model_feed_25 : decode b_Model_feed 25 = .ok (.aload_n 0, 1) := by decide +kernel
theorem d_Model_feed_26 : decode b_Model_feed 26 = .ok (.iload_n 3, 1) := by decide +kernel
theorem d_Model_feed_27 : decode b_Model_feed 27 = .ok (.invokevirtual 60, 3) := by decide +kernel
theorem d_Model_feed_30 : decode b_Model_feed 30 = .ok (.aload_n 0, 1) := by decide +kernel
theorem d_Model_feed_31 : decode b_Model_feed 31 = .ok (.iload 4, 2) := by decide +kernel
theorem d_Model_feed_33 : decode b_Model_feed 33 = .ok (.invokevirtual 60, 3) := by decide +kernel
theorem d_Model_feed_36 : decode b_Model_feed 36 = .ok (.aload_n 0, 1) := by decide +kernel
theorem d_Model_feed_37 : decode b_Model_feed 37 = .ok (.iload 5, 2) := by decide +kernel
theorem d_Model_feed_39 : decode b_Model_feed 39 = .ok (.invokevirtual 60, 3) := by decide +kernel
theorem d_Model_feed_42 : decode b_Model_feed 42 = .ok (.iconst 1, 1) := by decide +kernel
theorem d_Model_feed_43 : decode b_Model_feed 43 = .ok (.ireturn, 1) := by decide +kernel
theorem d_Model_end_0 : decode b_Model_end 0 = .ok (.iload_n 1, 1) := by decide +kernel
theorem d_Model_end_1 : decode b_Model_end 1 = .ok (.iconst 0, 1) := by decide +kernel
theorem d_Model_end_2 : decode b_Model_end 2 = .ok (.aload_n 0, 1) := by decide +kernel
theorem d_Model_end_3 : decode b_Model_end 3 = .ok (.getfield 56, 3) := by decide +kernel
theorem d_Model_end_6 : decode b_Model_end 6 = .ok (.invokestatic 64, 3) := by decide +kernel
theorem d_Model_end_9 : decode b_Model_end 9 = .ok (.ifCond .ne 5, 3) := by decide +kernel
theorem d_Model_end_12 : decode b_Model_end 12 = .ok (.iconst 0, 1) := by decide +kernel
theorem d_Model_end_13 : decode b_Model_end 13 = .ok (.ireturn, 1) := by decide +kernel
theorem d_Model_end_14 : decode b_Model_end 14 = .ok (.aload_n 0, 1) := by decide +kernel
theorem d_Model_end_15 : decode b_Model_end 15 = .ok (.iload_n 1, 1) := by decide +kernel
theorem d_Model_end_16 : decode b_Model_end 16 = .ok (.putfield 56, 3) := by decide +kernel
theorem d_Model_end_19 : decode b_Model_end 19 = .ok (.iconst 1, 1) := by decide +kernel
theorem d_Model_end_20 : decode b_Model_end 20 = .ok (.ireturn, 1) := by decide +kernel
theorem d_Model_isOneOf_0 : decode b_Model_isOneOf 0 = .ok (.iconst 0, 1) := by decide +kernel
theorem d_Model_isOneOf_1 : decode b_Model_isOneOf 1 = .ok (.istore 4, 2) := by decide +kernel
theorem d_Model_isOneOf_3 : decode b_Model_isOneOf 3 = .ok (.iload_n 1, 1) := by decide +kernel
theorem d_Model_isOneOf_4 : decode b_Model_isOneOf 4 = .ok (.istore 5, 2) := by decide +kernel
theorem d_Model_isOneOf_6 : decode b_Model_isOneOf 6 = .ok (.iload 5, 2) := by decide +kernel
theorem d_Model_isOneOf_8 : decode b_Model_isOneOf 8 = .ok (.iload_n 2, 1) := by decide +kernel
theorem d_Model_isOneOf_9 : decode b_Model_isOneOf 9 = .ok (.if_icmp .ge 90, 3) := by decide +kernel
theorem d_Model_isOneOf_12 : decode b_Model_isOneOf 12 = .ok (.aload_n 0, 1) := by decide +kernel
theorem d_Model_isOneOf_13 : decode b_Model_isOneOf 13 = .ok (.iload 5, 2) := by decide +kernel
theorem d_Model_isOneOf_15 : decode b_Model_isOneOf 15 = .ok (.iload_n 2, 1) := by decide +kernel
theorem d_Model_isOneOf_16 : decode b_Model_isOneOf 16 = .ok (.invokestatic 68, 3) := by decide +kernel
theorem d_Model_isOneOf_19 : decode b_Model_isOneOf 19 = .ok (.istore 6, 2) := by decide +kernel
theorem d_Model_isOneOf_21 : decode b_Model_isOneOf 21 = .ok (.aload_n 0, 1) := by decide +kernel
theorem d_Model_isOneOf_22 : decode b_Model_isOneOf 22 = .ok (.iload 5, 2) := by decide +kernel
theorem d_Model_isOneOf_24 : decode b_Model_isOneOf 24 = .ok (.iload_n 2, 1) := by decide +kernel
theorem d_Model_isOneOf_25 : decode b_Model_isOneOf 25 = .ok (.invokestatic 72, 3) := by decide +kernel
theorem d_Model_isOneOf_28 : decode b_Model_isOneOf 28 = .ok (.istore 5, 2) := by decide +kernel
theorem d_Model_isOneOf_30 : decode b_Model_isOneOf 30 = .ok (.iload 6, 2) := by decide +kernel
theorem d_Model_isOneOf_32 : decode b_Model_isOneOf 32 = .ok (.istore 7, 2) := by decide +kernel
theorem d_Model_isOneOf_34 : decode b_Model_isOneOf 34 = .ok (.iload 5, 2) := by decide +kernel
theorem d_Model_isOneOf_36 : decode b_Model_isOneOf 36 = .ok (.iconst 1, 1) := by decide +kernel
theorem d_Model_isOneOf_37 : decode b_Model_isOneOf 37 = .ok (.iadd, 1) := by decide +kernel
theorem d_Model_isOneOf_38 : decode b_Model_isOneOf 38 = .ok (.iload_n 2, 1) := by decide +kernel
theorem d_Model_isOneOf_39 : decode b_Model_isOneOf 39 = .ok (.if_icmp .ge 34, 3) := by decide +kernel
theorem d_Model_isOneOf_42 : decode b_Model_isOneOf 42 = .ok (.aload_n 0, 1) := by decide +kernel
theorem d_Model_isOneOf_43 : decode b_Model_isOneOf 43 = .ok (.iload 5, 2) := by decide +kernel
theorem d_Model_isOneOf_45 : decode b_Model_isOneOf 45 = .ok (.baload, 1) := by decide +kernel
theorem d_Model_isOneOf_46 : decode b_Model_isOneOf 46 = .ok (.bipush 45, 2) := by decide +kernel
theorem d_Model_isOneOf_48 : decode b_Model_isOneOf 48 = .ok (.if_icmp .ne 25, 3) := by decide +kernel
theorem d_Model_isOneOf_51 : decode b_Model_isOneOf 51 = .ok (.aload_n 0, 1) := by decide +kernel
theorem d_Model_isOneOf_52 : decode b_Model_isOneOf 52 = .ok (.iload 5, 2) := by decide +kernel
theorem d_Model_isOneOf_54 : decode b_Model_isOneOf 54 = .ok (.iconst 1, 1) := by decide +kernel
theorem d_Model_isOneOf_55 : decode b_Model_isOneOf 55 = .ok (.iadd, 1) := by decide +kernel
theorem d_Model_isOneOf_56 : decode b_Model_isOneOf 56 = .ok (.iload_n 2, 1) := by decide +kernel
theorem d_Model_isOneOf_57 : decode b_Model_isOneOf 57 = .ok (.invokestatic 68, 3) := by decide +kernel
theorem d_Model_isOneOf_60 : decode b_Model_isOneOf 60 = .ok (.istore 7, 2) := by decide +kernel
theorem d_Model_isOneOf_62 : decode b_Model_isOneOf 62 = .ok (.aload_n 0, 1) := by decide +kernel
theorem d_Model_isOneOf_63 : decode b_Model_isOneOf 63 = .ok (.iload 5, 2) := by decide +kernel
theorem d_Model_isOneOf_65 : decode b_Model_isOneOf 65 = .ok (.iconst 1, 1) := by decide +kernel
theorem d_Model_isOneOf_66 : decode b_Model_isOneOf 66 = .ok (.iadd, 1) := by decide +kernel
theorem d_Model_isOneOf_67 : decode b_Model_isOneOf 67 = .ok (.iload_n 2, 1) := by decide +kernel
theorem d_Model_isOneOf_68 : decode b_Model_isOneOf 68 = .ok (.invokestatic 72, 3) := by decide +kernel
theorem d_Model_isOneOf_71 : decode b_Model_isOneOf 71 = .ok (.istore 5, 2) := by decide +kernel
theorem d_Model_isOneOf_73 : decode b_Model_isOneOf 73 = .ok (.iload 4, 2) := by decide +kernel
theorem d_Model_isOneOf_75 : decode b_Model_isOneOf 75 = .ok (.ifCond .ne 14, 3) := by decide +kernel
theorem d_Model_isOneOf_78 : decode b_Model_isOneOf 78 = .ok (.iload_n 3, 1) := by decide +kernel
theorem d_Model_isOneOf_79 : decode b_Model_isOneOf 79 = .ok (.iload 6, 2) := by decide +kernel
theorem d_Model_isOneOf_81 : decode b_Model_isOneOf 81 = .ok (.iload 7, 2) := by decide +kernel
theorem d_Model_isOneOf_83 : decode b_Model_isOneOf 83 = .ok (.invokestatic 64, 3) := by decide +kernel
theorem d_Model_isOneOf_86 : decode b_Model_isOneOf 86 = .ok (.ifCond .eq 7, 3) := by decide +kernel
theorem d_Model_isOneOf_89 : decode b_Model_isOneOf 89 = .ok (.iconst 1, 1) := by decide +kernel
theorem d_Model_isOneOf_90 : decode b_Model_isOneOf 90 = .ok (.goto 4, 3) := by decide +kernel
theorem d_Model_isOneOf_93 : decode b_Model_isOneOf 93 = .ok (.iconst 0, 1) := by decide +kernel
theorem d_Model_isOneOf_94 : decode b_Model_isOneOf 94 = .ok (.istore 4, 2) := by decide +kernel
theorem d_Model_isOneOf_96 : decode b_Model_isOneOf 96 = .ok (.goto (-90), 3) := by decide +kernel
theorem d_Model_isOneOf_99 : decode b_Model_isOneOf 99 = .ok (.iload 4, 2) := by decide +kernel
theorem d_Model_isOneOf_101 : decode b_Model_isOneOf 101 = .ok (.ireturn, 1) := by decide +kernel
theorem d_Model_itself_0 : decode b_Model_itself 0 = .ok (.aload_n 0, 1) := by decide +kernel
theorem d_Model_itself_1 : decode b_Model_itself 1 = .ok (.iload_n 1, 1) := by decide +kernel
theorem d_Model_itself_2 : decode b_Model_itself 2 = .ok (.baload, 1) := by decide +kernel
theorem d_Model_itself_3 : decode b_Model_itself 3 = .ok (.bipush 92, 2) := by decide +kernel
theorem d_Model_itself_5 : decode b_Model_itself 5 = .ok (.if_icmp .ne 22, 3) := by decide +kernel
theorem d_Model_itself_8 : decode b_Model_itself 8 = .ok (.iload_n 1, 1) := by decide +kernel
theorem d_Model_itself_9 : decode b_Model_itself 9 = .ok (.iconst 1, 1) := by decide +kernel
theorem d_Model_itself_10 : decode b_Model_itself 10 = .ok (.iadd, 1) := by decide +kernel
theorem d_Model_itself_11 : decode b_Model_itself 11 = .ok (.iload_n 2, 1) := by decide +kernel
theorem d_Model_itself_12 : decode b_Model_itself 12 = .ok (.if_icmp .ge 15, 3) := by decide +kernel
theorem d_Model_itself_15 : decode b_Model_itself 15 = .ok (.aload_n 0, 1) := by decide +kernel
theorem d_Model_itself_16 : decode b_Model_itself 16 = .ok (.iload_n 1, 1) := by decide +kernel
theorem d_Model_itself_17 : decode b_Model_itself 17 = .ok (.iconst 1, 1) := by decide +kernel
theorem d_Model_itself_18 : decode b_Model_itself 18 = .ok (.iadd, 1) := by decide +kernel
theorem d_Model_itself_19 : decode b_Model_itself 19 = .ok (.baload, 1) := by decide +kernel
theorem d_Model_itself_20 : decode b_Model_itself 20 = .ok (.sipush 255, 3) := by decide +kernel
theorem d_Model_itself_23 : decode b_Model_itself 23 = .ok (.iand, 1) := by decide +kernel
theorem d_Model_itself_24 : decode b_Model_itself 24 = .ok (.goto 10, 3) := by decide +kernel
theorem d_Model_itself_27 : decode b_Model_itself 27 = .ok (.aload_n 0, 1) := by decide +kernel
theorem d_Model_itself_28 : decode b_Model_itself 28 = .ok (.iload_n 1, 1) := by decide +kernel
theorem d_Model_itself_29 : decode b_Model_itself 29 = .ok (.baload, 1) := by decide +kernel
theorem d_Model_itself_30 : decode b_Model_itself 30 = .ok (.sipush 255, 3) := by decide +kernel
theorem d_Model_itself_33 : decode b_Model_itself 33 = .ok (.iand, 1) := by decide +kernel
theorem d_Model_itself_34 : decode b_Model_itself 34 = .ok (.ireturn, 1) := by decide +kernel
theorem d_Model_behind_0 : decode b_Model_behind 0 = .ok (.aload_n 0, 1) := by decide +kernel
theorem d_Model_behind_1 : decode b_Model_behind 1 = .ok (.iload_n 1, 1) := by decide +kernel
theorem d_Model_behind_2 : decode b_Model_behind 2 = .ok (.baload, 1) := by decide +kernel
theorem d_Model_behind_3 : decode b_Model_behind 3 = .ok (.bipush 92, 2) := by decide +kernel
theorem d_Model_behind_5 : decode b_Model_behind 5 = .ok (.if_icmp .ne 16, 3) := by decide +kernel
theorem d_Model_behind_8 : decode b_Model_behind 8 = .ok (.iload_n 1, 1) := by decide +kernel
theorem d_Model_behind_9 : decode b_Model_behind 9 = .ok (.iconst 1, 1) := by decide +kernel
theorem d_Model_behind_10 : decode b_Model_behind 10 = .ok (.iadd, 1) := by decide +kernel
theorem d_Model_behind_11 : decode b_Model_behind 11 = .ok (.iload_n 2, 1) := by decide +kernel
theorem d_Model_behind_12 : decode b_Model_behind 12 = .ok (.if_icmp .ge 9, 3) := by decide +kernel
theorem d_Model_behind_15 : decode b_Model_behind 15 = .ok (.iload_n 1, 1) := by decide +kernel
theorem d_Model_behind_16 : decode b_Model_behind 16 = .ok (.iconst 2, 1) := by decide +kernel
theorem d_Model_behind_17 : decode b_Model_behind 17 = .ok (.iadd, 1) := by decide +kernel
theorem d_Model_behind_18 : decode b_Model_behind 18 = .ok (.goto 6, 3) := by decide +kernel
theorem d_Model_behind_21 : decode b_Model_behind 21 = .ok (.iload_n 1, 1) := by decide +kernel
theorem d_Model_behind_22 : decode b_Model_behind 22 = .ok (.iconst 1, 1) := by decide +kernel
theorem d_Model_behind_23 : decode b_Model_behind 23 = .ok (.iadd, 1) := by decide +kernel
theorem d_Model_behind_24 : decode b_Model_behind 24 = .ok (.ireturn, 1) := by decide +kernel
theorem d_Model_closing_0 : decode b_Model_closing 0 = .ok (.iload_n 1, 1) := by decide +kernel
theorem d_Model_closing_1 : decode b_Model_closing 1 = .ok (.istore_n 3, 1) := by decide +kernel
theorem d_Model_closing_2 : decode b_Model_closing 2 = .ok (.iload_n 3, 1) := by decide +kernel
theorem d_Model_closing_3 : decode b_Model_closing 3 = .ok (.iload_n 2, 1) := by decide +kernel
theorem d_Model_closing_4 : decode b_Model_closing 4 = .ok (.if_icmp .ge 21, 3) := by decide +kernel
theorem d_Model_closing_7 : decode b_Model_closing 7 = .ok (.aload_n 0, 1) := by decide +kernel
theorem d_Model_closing_8 : decode b_Model_closing 8 = .ok (.iload_n 3, 1) := by decide +kernel
theorem d_Model_closing_9 : decode b_Model_closing 9 = .ok (.baload, 1) := by decide +kernel
theorem d_Model_closing_10 : decode b_Model_closing 10 = .ok (.bipush 93, 2) := by decide +kernel
theorem d_Model_closing_12 : decode b_Model_closing 12 = .ok (.if_icmp .eq 13, 3) := by decide +kernel
theorem d_Model_closing_15 : decode b_Model_closing 15 = .ok (.aload_n 0, 1) := by decide +kernel
theorem d_Model_closing_16 : decode b_Model_closing 16 = .ok (.iload_n 3, 1) := by decide +kernel
theorem d_Model_closing_17 : decode b_Model_closing 17 = .ok (.iload_n 2, 1) := by decide +kernel
theorem d_Model_closing_18 : decode b_Model_closing 18 = .ok (.invokestatic 72, 3) := by decide +kernel
theorem d_Model_closing_21 : decode b_Model_closing 21 = .ok (.istore_n 3, 1) := by decide +kernel
theorem d_Model_closing_22 : decode b_Model_closing 22 = .ok (.goto (-20), 3) := by decide +kernel
theorem d_Model_closing_25 : decode b_Model_closing 25 = .ok (.iload_n 3, 1) := by decide +kernel
theorem d_Model_closing_26 : decode b_Model_closing 26 = .ok (.ireturn, 1) := by decide +kernel
theorem d_Model_one_0 : decode b_Model_one 0 = .ok (.aload_n 1, 1) := by decide +kernel
theorem d_Model_one_1 : decode b_Model_one 1 = .ok (.iload_n 2, 1) := by decide +kernel
theorem d_Model_one_2 : decode b_Model_one 2 = .ok (.baload, 1) := by decide +kernel
theorem d_Model_one_3 : decode b_Model_one 3 = .ok (.istore 6, 2) := by decide +kernel
theorem d_Model_one_5 : decode b_Model_one 5 = .ok (.iload 5, 2) := by decide +kernel
theorem d_Model_one_7 : decode b_Model_one 7 = .ok (.istore 7, 2) := by decide +kernel
theorem d_Model_one_9 : decode b_Model_one 9 = .ok (.iload 7, 2) := by decide +kernel
theorem d_Model_one_11 : decode b_Model_one 11 = .ok (.ifCond .le 130, 3) := by decide +kernel
theorem d_Model_one_14 : decode b_Model_one 14 = .ok (.aload 4, 2) := by decide +kernel
theorem d_Model_one_16 : decode b_Model_one 16 = .ok (.iload 7, 2) := by decide +kernel
theorem d_Model_one_18 : decode b_Model_one 18 = .ok (.iconst 1, 1) := by decide +kernel
theorem d_Model_one_19 : decode b_Model_one 19 = .ok (.isub, 1) := by decide +kernel
theorem d_Model_one_20 : decode b_Model_one 20 = .ok (.baload, 1) := by decide +kernel
theorem d_Model_one_21 : decode b_Model_one 21 = .ok (.sipush 255, 3) := by decide +kernel
theorem d_Model_one_24 : decode b_Model_one 24 = .ok (.iand, 1) := by decide +kernel
theorem d_Model_one_25 : decode b_Model_one 25 = .ok (.istore 8, 2) := by decide +kernel
theorem d_Model_one_27 : decode b_Model_one 27 = .ok (.iload 6, 2) := by decide +kernel
theorem d_Model_one_29 : decode b_Model_one 29 = .ok (.bipush 63, 2) := by decide +kernel
theorem d_Model_one_31 : decode b_Model_one 31 = .ok (.if_icmp .eq 68, 3) := by decide +kernel
theorem d_Model_one_34 : decode b_Model_one 34 = .ok (.iload 6, 2) := by decide +kernel
theorem d_Model_one_36 : decode b_Model_one 36 = .ok (.bipush 91, 2) := by decide +kernel
theorem d_Model_one_38 : decode b_Model_one 38 = .ok (.if_icmp .ne 19, 3) := by decide +kernel
theorem d_Model_one_41 : decode b_Model_one 41 = .ok (.aload_n 1, 1) := by decide +kernel
theorem d_Model_one_42 : decode b_Model_one 42 = .ok (.iload_n 2, 1) := by decide +kernel
theorem d_Model_one_43 : decode b_Model_one 43 = .ok (.iconst 1, 1) := by decide +kernel
theorem d_Model_one_44 : decode b_Model_one 44 = .ok (.iadd, 1) := by decide +kernel
theorem d_Model_one_45 : decode b_Model_one 45 = .ok (.iload_n 3, 1) := by decide +kernel
theorem d_Model_one_46 : decode b_Model_one 46 = .ok (.iload 8, 2) := by decide +kernel
theorem d_Model_one_48 : decode b_Model_one 48 = .ok (.invokestatic 75, 3) := by decide +kernel
theorem d_Model_one_51 : decode b_Model_one 51 = .ok (.ifCond .eq 52, 3) := by decide +kernel
theorem d_Model_one_54 : decode b_Model_one 54 = .ok (.goto 45, 3) := by decide +kernel
theorem d_Model_one_57 : decode b_Model_one 57 = .ok (.iload 6, 2) := by decide +kernel
theorem d_Model_one_59 : decode b_Model_one 59 = .ok (.bipush 92, 2) := by decide +kernel
theorem d_Model_one_61 : decode b_Model_one 61 = .ok (.if_icmp .ne 27, 3) := by decide +kernel
theorem d_Model_one_64 : decode b_Model_one 64 = .ok (.iload_n 2, 1) := by decide +kernel
theorem d_Model_one_65 : decode b_Model_one 65 = .ok (.iconst 1, 1) := by decide +kernel
theorem d_Model_one_66 : decode b_Model_one 66 = .ok (.iadd, 1) := by decide +kernel
theorem d_Model_one_67 : decode b_Model_one 67 = .ok (.iload_n 3, 1) := by decide +kernel
theorem d_Model_one_68 : decode b_Model_one 68 = .ok (.if_icmp .ge 20, 3) := by decide +kernel
theorem d_Model_one_71 : decode b_Model_one 71 = .ok (.iload 8, 2) := by decide +kernel
theorem d_Model_one_73 : decode b_Model_one 73 = .ok (.aload_n 1, 1) := by decide +kernel
theorem d_Model_one_74 : decode b_Model_one 74 = .ok (.iload_n 2, 1) := by decide +kernel
theorem d_Model_one_75 : decode b_Model_one 75 = .ok (.iconst 1, 1) := by decide +kernel
theorem d_Model_one_76 : decode b_Model_one 76 = .ok (.iadd, 1) := by decide +kernel
theorem d_Model_one_77 : decode b_Model_one 77 = .ok (.baload, 1) := by decide +kernel
theorem d_Model_one_78 : decode b_Model_one 78 = .ok (.sipush 255, 3) := by decide +kernel
theorem d_Model_one_81 : decode b_Model_one 81 = .ok (.iand, 1) := by decide +kernel
theorem d_Model_one_82 : decode b_Model_one 82 = .ok (.if_icmp .ne 21, 3) := by decide +kernel
theorem d_Model_one_85 : decode b_Model_one 85 = .ok (.goto 14, 3) := by decide +kernel
theorem d_Model_one_88 : decode b_Model_one 88 = .ok (.iload 8, 2) := by decide +kernel
theorem d_Model_one_90 : decode b_Model_one 90 = .ok (.iload 6, 2) := by decide +kernel
theorem d_Model_one_92 : decode b_Model_one 92 = .ok (.sipush 255, 3) := by decide +kernel
theorem d_Model_one_95 : decode b_Model_one 95 = .ok (.iand, 1) := by decide +kernel
theorem d_Model_one_96 : decode b_Model_one 96 = .ok (.if_icmp .ne 7, 3) := by decide +kernel
theorem d_Model_one_99 : decode b_Model_one 99 = .ok (.iconst 1, 1) := by decide +kernel
theorem d_Model_one_100 : decode b_Model_one 100 = .ok (.goto 4, 3) := by decide +kernel
theorem d_Model_one_103 : decode b_Model_one 103 = .ok (.iconst 0, 1) := by decide +kernel
theorem d_Model_one_104 : decode b_Model_one 104 = .ok (.istore 9, 2) := by decide +kernel
theorem d_Model_one_106 : decode b_Model_one 106 = .ok (.aload_n 0, 1) := by decide +kernel
theorem d_Model_one_107 : decode b_Model_one 107 = .ok (.getfield 52, 3) := by decide +kernel
theorem d_Model_one_110 : decode b_Model_one 110 = .ok (.iload 7, 2) := by decide +kernel
theorem d_Model_one_112 : decode b_Model_one 112 = .ok (.aload_n 0, 1) := by decide +kernel
theorem d_Model_one_113 : decode b_Model_one 113 = .ok (.getfield 52, 3) := by decide +kernel
theorem d_Model_one_116 : decode b_Model_one 116 = .ok (.iload 7, 2) := by decide +kernel
theorem d_Model_one_118 : decode b_Model_one 118 = .ok (.iconst 1, 1) := by decide +kernel
theorem d_Model_one_119 : decode b_Model_one 119 = .ok (.isub, 1) := by decide +kernel
theorem d_Model_one_120 : decode b_Model_one 120 = .ok (.baload, 1) := by decide +kernel
theorem d_Model_one_121 : decode b_Model_one 121 = .ok (.ifCond .eq 12, 3) := by decide +kernel
theorem d_Model_one_124 : decode b_Model_one 124 = .ok (.iload 9, 2) := by decide +kernel
theorem d_Model_one_126 : decode b_Model_one 126 = .ok (.ifCond .eq 7, 3) := by decide +kernel
theorem d_Model_one_129 : decode b_Model_one 129 = .ok (.iconst 1, 1) := by decide +kernel
theorem d_Model_one_130 : decode b_Model_one 130 = .ok (.goto 4, 3) := by decide +kernel
theorem d_Model_one_133 : decode b_Model_one 133 = .ok (.iconst 0, 1) := by decide +kernel
theorem d_Model_one_134 : decode b_Model_one 134 = .ok (.bastore, 1) := by decide +kernel
theorem d_Model_one_135 : decode b_Model_one 135 = .ok (.iinc 7 (-1), 3) := by decide +kernel
theorem d_Model_one_138 : decode b_Model_one 138 = .ok (.goto (-129), 3) := by decide +kernel
theorem d_Model_one_141 : decode b_Model_one 141 = .ok (.aload_n 0, 1) := by decide +kernel
theorem d_Model_one_142 : decode b_Model_one 142 = .ok (.getfield 52, 3) := by decide +kernel
theorem d_Model_one_145 : decode b_Model_one 145 = .ok (.iconst 0, 1) := by decide +kernel
theorem d_Model_one_146 : decode b_Model_one 146 = .ok (.iconst 0, 1) := by decide +kernel
theorem d_Model_one_147 : decode b_Model_one 147 = .ok (.bastore, 1) := by decide +kernel
theorem d_Model_one_148 : decode b_Model_one 148 = .ok (.return_, 1) := by decide +kernel
theorem d_Model_go_0 : decode b_Model_go 0 = .ok (.iload_n 2, 1) := by decide +kernel
theorem d_Model_go_1 : decode b_Model_go 1 = .ok (.istore 6, 2) := by decide +kernel
theorem d_Model_go_3 : decode b_Model_go 3 = .ok (.iload 6, 2) := by decide +kernel
theorem d_Model_go_5 : decode b_Model_go 5 = .ok (.iload_n 3, 1) := by decide +kernel
theorem d_Model_go_6 : decode b_Model_go 6 = .ok (.if_icmp .ge 174, 3) := by decide +kernel
theorem d_Model_go_9 : decode b_Model_go 9 = .ok (.aload_n 1, 1) := by decide +kernel
theorem d_Model_go_10 : decode b_Model_go 10 = .ok (.iload 6, 2) := by decide +kernel
theorem d_Model_go_12 : decode b_Model_go 12 = .ok (.baload, 1) := by decide +kernel
theorem d_Model_go_13 : decode b_Model_go 13 = .ok (.istore 7, 2) := by decide +kernel
theorem d_Model_go_15 : decode b_Model_go 15 = .ok (.iload 7, 2) := by decide +kernel
theorem d_Model_go_17 : decode b_Model_go 17 = .ok (.bipush 42, 2) := by decide +kernel
theorem d_Model_go_19 : decode b_Model_go 19 = .ok (.if_icmp .ne 59, 3) := by decide +kernel
theorem d_Model_go_22 : decode b_Model_go 22 = .ok (.iconst 1, 1) := by decide +kernel
theorem d_Model_go_23 : decode b_Model_go 23 = .ok (.istore 8, 2) := by decide +kernel
theorem d_Model_go_25 : decode b_Model_go 25 = .ok (.iload 8, 2) := by decide +kernel
theorem d_Model_go_27 : decode b_Model_go 27 = .ok (.iload 5, 2) := by decide +kernel
theorem d_Model_go_29 : decode b_Model_go 29 = .ok (.if_icmp .gt 43, 3) := by decide +kernel
theorem d_Model_go_32 : decode b_Model_go 32 = .ok (.aload_n 0, 1) := by decide +kernel
theorem d_Model_go_33 : decode b_Model_go 33 = .ok (.getfield 52, 3) := by decide +kernel
theorem d_Model_go_36 : decode b_Model_go 36 = .ok (.iload 8, 2) := by decide +kernel
theorem d_Model_go_38 : decode b_Model_go 38 = .ok (.aload_n 0, 1) := by decide +kernel
theorem d_Model_go_39 : decode b_Model_go 39 = .ok (.getfield 52, 3) := by decide +kernel
theorem d_Model_go_42 : decode b_Model_go 42 = .ok (.iload 8, 2) := by decide +kernel
theorem d_Model_go_44 : decode b_Model_go 44 = .ok (.baload, 1) := by decide +kernel
theorem d_Model_go_45 : decode b_Model_go 45 = .ok (.ifCond .ne 15, 3) := by decide +kernel
theorem d_Model_go_48 : decode b_Model_go 48 = .ok (.aload_n 0, 1) := by decide +kernel
theorem d_Model_go_49 : decode b_Model_go 49 = .ok (.getfield 52, 3) := by decide +kernel
theorem d_Model_go_52 : decode b_Model_go 52 = .ok (.iload 8, 2) := by decide +kernel
theorem d_Model_go_54 : decode b_Model_go 54 = .ok (.iconst 1, 1) := by decide +kernel
theorem d_Model_go_55 : decode b_Model_go 55 = .ok (.isub, 1) := by decide +kernel
theorem d_Model_go_56 : decode b_Model_go 56 = .ok (.baload, 1) := by decide +kernel
theorem d_Model_go_57 : decode b_Model_go 57 = .ok (.ifCond .eq 7, 3) := by decide +kernel
theorem d_Model_go_60 : decode b_Model_go 60 = .ok (.iconst 1, 1) := by decide +kernel
theorem d_Model_go_61 : decode b_Model_go 61 = .ok (.goto 4, 3) := by decide +kernel
theorem d_Model_go_64 : decode b_Model_go 64 = .ok (.iconst 0, 1) := by decide +kernel
theorem d_Model_go_65 : decode b_Model_go 65 = .ok (.bastore, 1) := by decide +kernel
theorem d_Model_go_66 : decode b_Model_go 66 = .ok (.iinc 8 1, 3) := by decide +kernel
theorem d_Model_go_69 : decode b_Model_go 69 = .ok (.goto (-44), 3) := by decide +kernel
theorem d_Model_go_72 : decode b_Model_go 72 = .ok (.iinc 6 1, 3) := by decide +kernel
theorem d_Model_go_75 : decode b_Model_go 75 = .ok (.goto 102, 3) := by decide +kernel
theorem d_Model_go_78 : decode b_Model_go 78 = .ok (.iload 7, 2) := by decide +kernel
theorem d_Model_go_80 : decode b_Model_go 80 = .ok (.bipush 91, 2) := by decide +kernel
theorem d_Model_go_82 : decode b_Model_go 82 = .ok (.if_icmp .ne 15, 3) := by decide +kernel
theorem d_Model_go_85 : decode b_Model_go 85 = .ok (.aload_n 1, 1) := by decide +kernel
theorem d_Model_go_86 : decode b_Model_go 86 = .ok (.iload 6, 2) := by decide +kernel
theorem d_Model_go_88 : decode b_Model_go 88 = .ok (.iconst 1, 1) := by decide +kernel
theorem d_Model_go_89 : decode b_Model_go 89 = .ok (.iadd, 1) := by decide +kernel
theorem d_Model_go_90 : decode b_Model_go 90 = .ok (.iload_n 3, 1) := by decide +kernel
theorem d_Model_go_91 : decode b_Model_go 91 = .ok (.invokestatic 79, 3) := by decide +kernel
theorem d_Model_go_94 : decode b_Model_go 94 = .ok (.goto 4, 3) := by decide +kernel
theorem d_Model_go_97 : decode b_Model_go 97 = .ok (.iload_n 3, 1) := by decide +kernel
theorem d_Model_go_98 : decode b_Model_go 98 = .ok (.istore 8, 2) := by decide +kernel
theorem d_Model_go_100 : decode b_Model_go 100 = .ok (.iload 7, 2) := by decide +kernel
theorem d_Model_go_102 : decode b_Model_go 102 = .ok (.bipush 91, 2) := by decide +kernel
theorem d_Model_go_104 : decode b_Model_go 104 = .ok (.if_icmp .ne 8, 3) := by decide +kernel
theorem d_Model_go_107 : decode b_Model_go 107 = .ok (.iload 8, 2) := by decide +kernel
theorem d_Model_go_109 : decode b_Model_go 109 = .ok (.goto 29, 3) := by decide +kernel
theorem d_Model_go_112 : decode b_Model_go 112 = .ok (.iload 7, 2) := by decide +kernel
theorem d_Model_go_114 : decode b_Model_go 114 = .ok (.bipush 92, 2) := by decide +kernel
theorem d_Model_go_116 : decode b_Model_go 116 = .ok (.if_icmp .ne 18, 3) := by decide +kernel
theorem d_Model_go_119 : decode b_Model_go 119 = .ok (.iload 6, 2) := by decide +kernel
theorem d_Model_go_121 : decode b_Model_go 121 = .ok (.iconst 1, 1) := by decide +kernel
theorem d_Model_go_122 : decode b_Model_go 122 = .ok (.iadd, 1) := by decide +kernel
theorem d_Model_go_123 : decode b_Model_go 123 = .ok (.iload_n 3, 1) := by decide +kernel
theorem d_Model_go_124 : decode b_Model_go 124 = .ok (.if_icmp .ge 10, 3) := by decide +kernel
theorem d_Model_go_127 : decode b_Model_go 127 = .ok (.iload 6, 2) := by decide +kernel
theorem d_Model_go_129 : decode b_Model_go 129 = .ok (.iconst 2, 1) := by decide +kernel
theorem d_Model_go_130 : decode b_Model_go 130 = .ok (.iadd, 1) := by decide +kernel
theorem d_Model_go_131 : decode b_Model_go 131 = .ok (.goto 7, 3) := by decide +kernel
theorem d_Model_go_134 : decode b_Model_go 134 = .ok (.iload 6, 2) := by decide +kernel
theorem d_Model_go_136 : decode b_Model_go 136 = .ok (.iconst 1, 1) := by decide +kernel
theorem d_Model_go_137 : decode b_Model_go 137 = .ok (.iadd, 1) := by decide +kernel
theorem d_Model_go_138 : decode b_Model_go 138 = .ok (.istore 9, 2) := by decide +kernel
theorem d_Model_go_140 : decode b_Model_go 140 = .ok (.aload_n 0, 1) := by decide +kernel
theorem d_Model_go_141 : decode b_Model_go 141 = .ok (.aload_n 1, 1) := by decide +kernel
theorem d_Model_go_142 : decode b_Model_go 142 = .ok (.iload 6, 2) := by decide +kernel
theorem d_Model_go_144 : decode b_Model_go 144 = .ok (.iload 9, 2) := by decide +kernel
theorem d_Model_go_146 : decode b_Model_go 146 = .ok (.aload 4, 2) := by decide +kernel
theorem d_Model_go_148 : decode b_Model_go 148 = .ok (.iload 5, 2) := by decide +kernel
theorem d_Model_go_150 : decode b_Model_go 150 = .ok (.invokevirtual 82, 3) := by decide +kernel
theorem d_Model_go_153 : decode b_Model_go 153 = .ok (.iload 7, 2) := by decide +kernel
theorem d_Model_go_155 : decode b_Model_go 155 = .ok (.bipush 91, 2) := by decide +kernel
theorem d_Model_go_157 : decode b_Model_go 157 = .ok (.if_icmp .ne 16, 3) := by decide +kernel
theorem d_Model_go_160 : decode b_Model_go 160 = .ok (.iload 8, 2) := by decide +kernel
theorem d_Model_go_162 : decode b_Model_go 162 = .ok (.iload_n 3, 1) := by decide +kernel
theorem d_Model_go_163 : decode b_Model_go 163 = .ok (.if_icmp .ge 10, 3) := by decide +kernel
theorem d_Model_go_166 : decode b_Model_go 166 = .ok (.iload 8, 2) := by decide +kernel
theorem d_Model_go_168 : decode b_Model_go 168 = .ok (.iconst 1, 1) := by decide +kernel
theorem d_Model_go_169 : decode b_Model_go 169 = .ok (.iadd, 1) := by decide +kernel
theorem d_Model_go_170 : decode b_Model_go 170 = .ok (.goto 5, 3) := by decide +kernel
theorem d_Model_go_173 : decode b_Model_go 173 = .ok (.iload 9, 2) := by decide +kernel
theorem d_Model_go_175 : decode b_Model_go 175 = .ok (.istore 6, 2) := by decide +kernel
theorem d_Model_go_177 : decode b_Model_go 177 = .ok (.goto (-174), 3) := by decide +kernel
theorem d_Model_go_180 : decode b_Model_go 180 = .ok (.return_, 1) := by decide +kernel
theorem d_Model_fitsLine_0 : decode b_Model_fitsLine 0 = .ok (.iconst 0, 1) := by decide +kernel
theorem d_Model_fitsLine_1 : decode b_Model_fitsLine 1 = .ok (.istore_n 2, 1) := by decide +kernel
theorem d_Model_fitsLine_2 : decode b_Model_fitsLine 2 = .ok (.iload_n 2, 1) := by decide +kernel
theorem d_Model_fitsLine_3 : decode b_Model_fitsLine 3 = .ok (.aload_n 0, 1) := by decide +kernel
theorem d_Model_fitsLine_4 : decode b_Model_fitsLine 4 = .ok (.getfield 86, 3) := by decide +kernel
theorem d_Model_fitsLine_7 : decode b_Model_fitsLine 7 = .ok (.if_icmp .gt 24, 3) := by decide +kernel
theorem d_Model_fitsLine_10 : decode b_Model_fitsLine 10 = .ok (.aload_n 0, 1) := by decide +kernel
theorem d_Model_fitsLine_11 : decode b_Model_fitsLine 11 = .ok (.getfield 52, 3) := by decide +kernel
theorem d_Model_fitsLine_14 : decode b_Model_fitsLine 14 = .ok (.iload_n 2, 1) := by decide +kernel
theorem d_Model_fitsLine_15 : decode b_Model_fitsLine 15 = .ok (.iload_n 2, 1) := by decide +kernel
theorem d_Model_fitsLine_16 : decode b_Model_fitsLine 16 = .ok (.ifCond .ne 7, 3) := by decide +kernel
theorem d_Model_fitsLine_19 : decode b_Model_fitsLine 19 = .ok (.iconst 1, 1) := by decide +kernel
theorem d_Model_fitsLine_20 : decode b_Model_fitsLine 20 = .ok (.goto 4, 3) := by decide +kernel
theorem d_Model_fitsLine_23 : decode b_Model_fitsLine 23 = .ok (.iconst 0, 1) := by decide +kernel
theorem d_Model_fitsLine_24 : decode b_Model_fitsLine 24 = .ok (.bastore, 1) := by decide +kernel
theorem d_Model_fitsLine_25 : decode b_Model_fitsLine 25 = .ok (.iinc 2 1, 3) := by decide +kernel
theorem d_Model_fitsLine_28 : decode b_Model_fitsLine 28 = .ok (.goto (-26), 3) := by decide +kernel
theorem d_Model_fitsLine_31 : decode b_Model_fitsLine 31 = .ok (.aload_n 0, 1) := by decide +kernel
theorem d_Model_fitsLine_32 : decode b_Model_fitsLine 32 = .ok (.aload_n 0, 1) := by decide +kernel
theorem d_Model_fitsLine_33 : decode b_Model_fitsLine 33 = .ok (.getfield 29, 3) := by decide +kernel
theorem d_Model_fitsLine_36 : decode b_Model_fitsLine 36 = .ok (.sipush 200, 3) := by decide +kernel
theorem d_Model_fitsLine_39 : decode b_Model_fitsLine 39 = .ok (.iload_n 1, 1) := by decide +kernel
theorem d_Model_fitsLine_40 : decode b_Model_fitsLine 40 = .ok (.imul, 1) := by decide +kernel
theorem d_Model_fitsLine_41 : decode b_Model_fitsLine 41 = .ok (.sipush 200, 3) := by decide +kernel
theorem d_Model_fitsLine_44 : decode b_Model_fitsLine 44 = .ok (.iload_n 1, 1) := by decide +kernel
theorem d_Model_fitsLine_45 : decode b_Model_fitsLine 45 = .ok (.imul, 1) := by decide +kernel
theorem d_Model_fitsLine_46 : decode b_Model_fitsLine 46 = .ok (.aload_n 0, 1) := by decide +kernel
theorem d_Model_fitsLine_47 : decode b_Model_fitsLine 47 = .ok (.getfield 23, 3) := by decide +kernel
theorem d_Model_fitsLine_50 : decode b_Model_fitsLine 50 = .ok (.iload_n 1, 1) := by decide +kernel
theorem d_Model_fitsLine_51 : decode b_Model_fitsLine 51 = .ok (.iaload, 1) := by decide +kernel
theorem d_Model_fitsLine_52 : decode b_Model_fitsLine 52 = .ok (.iadd, 1) := by decide +kernel
theorem d_Model_fitsLine_53 : decode b_Model_fitsLine 53 = .ok (.aload_n 0, 1) := by decide +kernel
theorem d_Model_fitsLine_54 : decode b_Model_fitsLine 54 = .ok (.getfield 35, 3) := by decide +kernel
theorem d_Model_fitsLine_57 : decode b_Model_fitsLine 57 = .ok (.aload_n 0, 1) := by decide +kernel
theorem d_Model_fitsLine_58 : decode b_Model_fitsLine 58 = .ok (.getfield 86, 3) := by decide +kernel
theorem d_Model_fitsLine_61 : decode b_Model_fitsLine 61 = .ok (.invokevirtual 89, 3) := by decide +kernel
theorem d_Model_fitsLine_64 : decode b_Model_fitsLine 64 = .ok (.aload_n 0, 1) := by decide +kernel
theorem d_Model_fitsLine_65 : decode b_Model_fitsLine 65 = .ok (.getfield 52, 3) := by decide +kernel
theorem d_Model_fitsLine_68 : decode b_Model_fitsLine 68 = .ok (.aload_n 0, 1) := by decide +kernel
theorem d_Model_fitsLine_69 : decode b_Model_fitsLine 69 = .ok (.getfield 86, 3) := by decide +kernel
theorem d_Model_fitsLine_72 : decode b_Model_fitsLine 72 = .ok (.baload, 1) := by decide +kernel
theorem d_Model_fitsLine_73 : decode b_Model_fitsLine 73 = .ok (.ireturn, 1) := by decide +kernel
theorem d_Model_rule_0 : decode b_Model_rule 0 = .ok (.aload_n 0, 1) := by decide +kernel
theorem d_Model_rule_1 : decode b_Model_rule 1 = .ok (.getfield 56, 3) := by decide +kernel
theorem d_Model_rule_4 : decode b_Model_rule 4 = .ok (.istore 4, 2) := by decide +kernel
theorem d_Model_rule_6 : decode b_Model_rule 6 = .ok (.aload_n 0, 1) := by decide +kernel
theorem d_Model_rule_7 : decode b_Model_rule 7 = .ok (.iconst 0, 1) := by decide +kernel
theorem d_Model_rule_8 : decode b_Model_rule 8 = .ok (.putfield 56, 3) := by decide +kernel
theorem d_Model_rule_11 : decode b_Model_rule 11 = .ok (.iconst 0, 1) := by decide +kernel
theorem d_Model_rule_12 : decode b_Model_rule 12 = .ok (.istore 5, 2) := by decide +kernel
theorem d_Model_rule_14 : decode b_Model_rule 14 = .ok (.iload 5, 2) := by decide +kernel
theorem d_Model_rule_16 : decode b_Model_rule 16 = .ok (.iload 4, 2) := by decide +kernel
theorem d_Model_rule_18 : decode b_Model_rule 18 = .ok (.if_icmp .ge 19, 3) := by decide +kernel
theorem d_Model_rule_21 : decode b_Model_rule 21 = .ok (.aload_n 0, 1) := by decide +kernel
theorem d_Model_rule_22 : decode b_Model_rule 22 = .ok (.getfield 7, 3) := by decide +kernel
theorem d_Model_rule_25 : decode b_Model_rule 25 = .ok (.iload 5, 2) := by decide +kernel
theorem d_Model_rule_27 : decode b_Model_rule 27 = .ok (.baload, 1) := by decide +kernel
theorem d_Model_rule_28 : decode b_Model_rule 28 = .ok (.ifCond .eq 9, 3) := by decide +kernel
theorem d_Model_rule_31 : decode b_Model_rule 31 = .ok (.iinc 5 1, 3) := by decide +kernel
theorem d_Model_rule_34 : decode b_Model_rule 34 = .ok (.goto (-20), 3) := by decide +kernel
theorem d_Model_rule_37 : decode b_Model_rule 37 = .ok (.iload 4, 2) := by decide +kernel
theorem d_Model_rule_39 : decode b_Model_rule 39 = .ok (.iload 5, 2) := by decide +kernel
theorem d_Model_rule_41 : decode b_Model_rule 41 = .ok (.isub, 1) := by decide +kernel
theorem d_Model_rule_42 : decode b_Model_rule 42 = .ok (.iconst 1, 1) := by decide +kernel
theorem d_Model_rule_43 : decode b_Model_rule 43 = .ok (.isub, 1) := by decide +kernel
theorem d_Model_rule_44 : decode b_Model_rule 44 = .ok (.istore 6, 2) := by decide +kernel
theorem d_Model_rule_46 : decode b_Model_rule 46 = .ok (.iload 5, 2) := by decide +kernel
theorem d_Model_rule_48 : decode b_Model_rule 48 = .ok (.iload 4, 2) := by decide +kernel
theorem d_Model_rule_50 : decode b_Model_rule 50 = .ok (.if_icmp .eq 59, 3) := by decide +kernel
theorem d_Model_rule_53 : decode b_Model_rule 53 = .ok (.iload 5, 2) := by decide +kernel
theorem d_Model_rule_55 : decode b_Model_rule 55 = .ok (.sipush 200, 3) := by decide +kernel
theorem d_Model_rule_58 : decode b_Model_rule 58 = .ok (.if_icmp .gt 51, 3) := by decide +kernel
theorem d_Model_rule_61 : decode b_Model_rule 61 = .ok (.iload 6, 2) := by decide +kernel
theorem d_Model_rule_63 : decode b_Model_rule 63 = .ok (.sipush 200, 3) := by decide +kernel
theorem d_Model_rule_66 : decode b_Model_rule 66 = .ok (.if_icmp .gt 43, 3) := by decide +kernel
theorem d_Model_rule_69 : decode b_Model_rule 69 = .ok (.iload_n 1, 1) := by decide +kernel
theorem d_Model_rule_70 : decode b_Model_rule 70 = .ok (.iconst 0, 1) := by decide +kernel
theorem d_Model_rule_71 : decode b_Model_rule 71 = .ok (.bipush 31, 2) := by decide +kernel
theorem d_Model_rule_73 : decode b_Model_rule 73 = .ok (.invokestatic 64, 3) := by decide +kernel
theorem d_Model_rule_76 : decode b_Model_rule 76 = .ok (.ifCond .eq 33, 3) := by decide +kernel
theorem d_Model_rule_79 : decode b_Model_rule 79 = .ok (.iload_n 2, 1) := by decide +kernel
theorem d_Model_rule_80 : decode b_Model_rule 80 = .ok (.iconst 0, 1) := by decide +kernel
theorem d_Model_rule_81 : decode b_Model_rule 81 = .ok (.sipush 1000, 3) := by decide +kernel
theorem d_Model_rule_84 : decode b_Model_rule 84 = .ok (.invokestatic 64, 3) := by decide +kernel
theorem d_Model_rule_87 : decode b_Model_rule 87 = .ok (.ifCond .eq 22, 3) := by decide +kernel
theorem d_Model_rule_90 : decode b_Model_rule 90 = .ok (.iload_n 3, 1) := by decide +kernel
theorem d_Model_rule_91 : decode b_Model_rule 91 = .ok (.iconst 0, 1) := by decide +kernel
theorem d_Model_rule_92 : decode b_Model_rule 92 = .ok (.bipush 31, 2) := by decide +kernel
theorem d_Model_rule_94 : decode b_Model_rule 94 = .ok (.invokestatic 64, 3) := by decide +kernel
theorem d_Model_rule_97 : decode b_Model_rule 97 = .ok (.ifCond .eq 12, 3) := by decide +kernel
theorem d_Model_rule_100 : decode b_Model_rule 100 = .ok (.aload_n 0, 1) := by decide +kernel
theorem d_Model_rule_101 : decode b_Model_rule 101 = .ok (.getfield 92, 3) := by decide +kernel
theorem d_Model_rule_104 : decode b_Model_rule 104 = .ok (.bipush 64, 2) := by decide +kernel
theorem d_Model_rule_106 : decode b_Model_rule 106 = .ok (.if_icmp .ne 5, 3) := by decide +kernel
theorem d_Model_rule_109 : decode b_Model_rule 109 = .ok (.iconst (-1), 1) := by decide +kernel
theorem d_Model_rule_110 : decode b_Model_rule 110 = .ok (.ireturn, 1) := by decide +kernel
theorem d_Model_rule_111 : decode b_Model_rule 111 = .ok (.aload_n 0, 1) := by decide +kernel
theorem d_Model_rule_112 : decode b_Model_rule 112 = .ok (.getfield 13, 3) := by decide +kernel
theorem d_Model_rule_115 : decode b_Model_rule 115 = .ok (.aload_n 0, 1) := by decide +kernel
theorem d_Model_rule_116 : decode b_Model_rule 116 = .ok (.getfield 92, 3) := by decide +kernel
theorem d_Model_rule_119 : decode b_Model_rule 119 = .ok (.iload_n 1, 1) := by decide +kernel
theorem d_Model_rule_120 : decode b_Model_rule 120 = .ok (.iastore, 1) := by decide +kernel
theorem d_Model_rule_121 : decode b_Model_rule 121 = .ok (.aload_n 0, 1) := by decide +kernel
theorem d_Model_rule_122 : decode b_Model_rule 122 = .ok (.getfield 17, 3) := by decide +kernel
theorem d_Model_rule_125 : decode b_Model_rule 125 = .ok (.aload_n 0, 1) := by decide +kernel
theorem d_Model_rule_126 : decode b_Model_rule 126 = .ok (.getfield 92, 3) := by decide +kernel
theorem d_Model_rule_129 : decode b_Model_rule 129 = .ok (.iload_n 2, 1) := by decide +kernel
theorem d_Model_rule_130 : decode b_Model_rule 130 = .ok (.iastore, 1) := by decide +kernel
theorem d_Model_rule_131 : decode b_Model_rule 131 = .ok (.aload_n 0, 1) := by decide +kernel
theorem d_Model_rule_132 : decode b_Model_rule 132 = .ok (.getfield 20, 3) := by decide +kernel
theorem d_Model_rule_135 : decode b_Model_rule 135 = .ok (.aload_n 0, 1) := by decide +kernel
theorem d_Model_rule_136 : decode b_Model_rule 136 = .ok (.getfield 92, 3) := by decide +kernel
theorem d_Model_rule_139 : decode b_Model_rule 139 = .ok (.iload_n 3, 1) := by decide +kernel
theorem d_Model_rule_140 : decode b_Model_rule 140 = .ok (.iastore, 1) := by decide +kernel
theorem d_Model_rule_141 : decode b_Model_rule 141 = .ok (.aload_n 0, 1) := by decide +kernel
theorem d_Model_rule_142 : decode b_Model_rule 142 = .ok (.getfield 23, 3) := by decide +kernel
theorem d_Model_rule_145 : decode b_Model_rule 145 = .ok (.aload_n 0, 1) := by decide +kernel
theorem d_Model_rule_146 : decode b_Model_rule 146 = .ok (.getfield 92, 3) := by decide +kernel
theorem d_Model_rule_149 : decode b_Model_rule 149 = .ok (.iload 5, 2) := by decide +kernel
theorem d_Model_rule_151 : decode b_Model_rule 151 = .ok (.iastore, 1) := by decide +kernel
theorem d_Model_rule_152 : decode b_Model_rule 152 = .ok (.aload_n 0, 1) := by decide +kernel
theorem d_Model_rule_153 : decode b_Model_rule 153 = .ok (.getfield 26, 3) := by decide +kernel
theorem d_Model_rule_156 : decode b_Model_rule 156 = .ok (.aload_n 0, 1) := by decide +kernel
theorem d_Model_rule_157 : decode b_Model_rule 157 = .ok (.getfield 92, 3) := by decide +kernel
theorem d_Model_rule_160 : decode b_Model_rule 160 = .ok (.iload 6, 2) := by decide +kernel
theorem d_Model_rule_162 : decode b_Model_rule 162 = .ok (.iastore, 1) := by decide +kernel
theorem d_Model_rule_163 : decode b_Model_rule 163 = .ok (.iconst 0, 1) := by decide +kernel
theorem d_Model_rule_164 : decode b_Model_rule 164 = .ok (.istore 7, 2) := by decide +kernel
theorem d_Model_rule_166 : decode b_Model_rule 166 = .ok (.iload 7, 2) := by decide +kernel
theorem d_Model_rule_168 : decode b_Model_rule 168 = .ok (.iload 5, 2) := by decide +kernel
theorem d_Model_rule_170 : decode b_Model_rule 170 = .ok (.if_icmp .ge 32, 3) := by decide +kernel
theorem d_Model_rule_173 : decode b_Model_rule 173 = .ok (.aload_n 0, 1) := by decide +kernel
theorem d_Model_rule_174 : decode b_Model_rule 174 = .ok (.getfield 29, 3) := by decide +kernel
theorem d_Model_rule_177 : decode b_Model_rule 177 = .ok (.sipush 200, 3) := by decide +kernel
theorem d_Model_rule_180 : decode b_Model_rule 180 = .ok (.aload_n 0, 1) := by decide +kernel
theorem d_Model_rule_181 : decode b_Model_rule 181 = .ok (.getfield 92, 3) := by decide +kernel
theorem d_Model_rule_184 : decode b_Model_rule 184 = .ok (.imul, 1) := by decide +kernel
theorem d_Model_rule_185 : decode b_Model_rule 185 = .ok (.iload 7, 2) := by decide +kernel
theorem d_Model_rule_187 : decode b_Model_rule 187 = .ok (.iadd, 1) := by decide +kernel
theorem d_Model_rule_188 : decode b_Model_rule 188 = .ok (.aload_n 0, 1) := by decide +kernel
theorem d_Model_rule_189 : decode b_Model_rule 189 = .ok (.getfield 7, 3) := by decide +kernel
theorem d_Model_rule_192 : decode b_Model_rule 192 = .ok (.iload 7, 2) := by decide +kernel
theorem d_Model_rule_194 : decode b_Model_rule 194 = .ok (.baload, 1) := by decide +kernel
theorem d_Model_rule_195 : decode b_Model_rule 195 = .ok (.bastore, 1) := by decide +kernel
