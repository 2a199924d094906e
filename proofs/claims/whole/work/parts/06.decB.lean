theorem d_Pattern_init_0 : decode b_Pattern_init 0 = .ok (.aload_n 0, 1) := by decide +kernel
theorem d_Pattern_init_1 : decode b_Pattern_init 1 = .ok (.invokespecial 3, 3) := by decide +kernel
theorem d_Pattern_init_4 : decode b_Pattern_init 4 = .ok (.iconst 0, 1) := by decide +kernel
theorem d_Pattern_init_5 : decode b_Pattern_init 5 = .ok (.iload_n 2, 1) := by decide +kernel
theorem d_Pattern_init_6 : decode b_Pattern_init 6 = .ok (.aload_n 1, 1) := by decide +kernel
theorem d_Pattern_init_7 : decode b_Pattern_init 7 = .ok (.invokevirtual 9, 3) := by decide +kernel
theorem d_Pattern_init_10 : decode b_Pattern_init 10 = .ok (.invokestatic 15, 3) := by decide +kernel
theorem d_Pattern_init_13 : decode b_Pattern_init 13 = .ok (.invokestatic 21, 3) := by decide +kernel
theorem d_Pattern_init_16 : decode b_Pattern_init 16 = .ok (.istore_n 3, 1) := by decide +kernel
theorem d_Pattern_init_17 : decode b_Pattern_init 17 = .ok (.aload_n 0, 1) := by decide +kernel
theorem d_Pattern_init_18 : decode b_Pattern_init 18 = .ok (.iload_n 3, 1) := by decide +kernel
theorem d_Pattern_init_19 : decode b_Pattern_init 19 = .ok (.iconst 4, 1) := by decide +kernel
theorem d_Pattern_init_20 : decode b_Pattern_init 20 = .ok (.imul, 1) := by decide +kernel
theorem d_Pattern_init_21 : decode b_Pattern_init 21 = .ok (.newarray .long, 2) := by decide +kernel
theorem d_Pattern_init_23 : decode b_Pattern_init 23 = .ok (.putfield 26, 3) := by decide +kernel
theorem d_Pattern_init_26 : decode b_Pattern_init 26 = .ok (.aload_n 0, 1) := by decide +kernel
theorem d_Pattern_init_27 : decode b_Pattern_init 27 = .ok (.iload_n 3, 1) := by decide +kernel
theorem d_Pattern_init_28 : decode b_Pattern_init 28 = .ok (.newarray .boolean, 2) := by decide +kernel
theorem d_Pattern_init_30 : decode b_Pattern_init 30 = .ok (.putfield 30, 3) := by decide +kernel
theorem d_Pattern_init_33 : decode b_Pattern_init 33 = .ok (.new 34, 3) := by decide +kernel
theorem d_Pattern_init_36 : decode b_Pattern_init 36 = .ok (.dup, 1) := by decide +kernel
theorem d_Pattern_init_37 : decode b_Pattern_init 37 = .ok (.aload_n 1, 1) := by decide +kernel
theorem d_Pattern_init_38 : decode b_Pattern_init 38 = .ok (.iload_n 3, 1) := by decide +kernel
theorem d_Pattern_init_39 : decode b_Pattern_init 39 = .ok (.invokespecial 36, 3) := by decide +kernel
theorem d_Pattern_init_42 : decode b_Pattern_init 42 = .ok (.astore 4, 2) := by decide +kernel
theorem d_Pattern_init_44 : decode b_Pattern_init 44 = .ok (.aload_n 0, 1) := by decide +kernel
theorem d_Pattern_init_45 : decode b_Pattern_init 45 = .ok (.iconst 0, 1) := by decide +kernel
theorem d_Pattern_init_46 : decode b_Pattern_init 46 = .ok (.putfield 39, 3) := by decide +kernel
theorem d_Pattern_init_49 : decode b_Pattern_init 49 = .ok (.aload_n 0, 1) := by decide +kernel
theorem d_Pattern_init_50 : decode b_Pattern_init 50 = .ok (.getfield 39, 3) := by decide +kernel
theorem d_Pattern_init_53 : decode b_Pattern_init 53 = .ok (.iload_n 3, 1) := by decide +kernel
theorem d_Pattern_init_54 : decode b_Pattern_init 54 = .ok (.if_icmp .ge 32, 3) := by decide +kernel
theorem d_Pattern_init_57 : decode b_Pattern_init 57 = .ok (.aload 4, 2) := by decide +kernel
theorem d_Pattern_init_59 : decode b_Pattern_init 59 = .ok (.iconst 0, 1) := by decide +kernel
theorem d_Pattern_init_60 : decode b_Pattern_init 60 = .ok (.invokevirtual 43, 3) := by decide +kernel
theorem d_Pattern_init_63 : decode b_Pattern_init 63 = .ok (.iconst (-1), 1) := by decide +kernel
theorem d_Pattern_init_64 : decode b_Pattern_init 64 = .ok (.if_icmp .eq 22, 3) := by decide +kernel
theorem d_Pattern_init_67 : decode b_Pattern_init 67 = .ok (.aload_n 0, 1) := by decide +kernel
theorem d_Pattern_init_68 : decode b_Pattern_init 68 = .ok (.aload 4, 2) := by decide +kernel
theorem d_Pattern_init_70 : decode b_Pattern_init 70 = .ok (.invokevirtual 47, 3) := by decide +kernel
theorem d_Pattern_init_73 : decode b_Pattern_init 73 = .ok (.aload_n 0, 1) := by decide +kernel
theorem d_Pattern_init_74 : decode b_Pattern_init 74 = .ok (.dup, 1) := by decide +kernel
theorem d_Pattern_init_75 : decode b_Pattern_init 75 = .ok (.getfield 39, 3) := by decide +kernel
theorem d_Pattern_init_78 : decode b_Pattern_init 78 = .ok (.iconst 1, 1) := by decide +kernel
theorem d_Pattern_init_79 : decode b_Pattern_init 79 = .ok (.iadd, 1) := by decide +kernel
theorem d_Pattern_init_80 : decode b_Pattern_init 80 = .ok (.putfield 39, 3) := by decide +kernel
theorem d_Pattern_init_83 : decode b_Pattern_init 83 = .ok (.goto (-34), 3) := by decide +kernel
theorem d_Pattern_init_86 : decode b_Pattern_init 86 = .ok (.return_, 1) := by decide +kernel
theorem d_Pattern_readItem_0 : decode b_Pattern_readItem 0 = .ok (.aload_n 1, 1) := by decide +kernel
theorem d_Pattern_readItem_1 : decode b_Pattern_readItem 1 = .ok (.iconst 0, 1) := by decide +kernel
theorem d_Pattern_readItem_2 : decode b_Pattern_readItem 2 = .ok (.invokevirtual 43, 3) := by decide +kernel
theorem d_Pattern_readItem_5 : decode b_Pattern_readItem 5 = .ok (.lookupswitch 73 #[(42, 35), (63, 46), (91, 61)], 35) := by decide +kernel
theorem d_Pattern_readItem_40 : decode b_Pattern_readItem 40 = .ok (.aload_n 1, 1) := by decide +kernel
theorem d_Pattern_readItem_41 : decode b_Pattern_readItem 41 = .ok (.invokevirtual 51, 3) := by decide +kernel
theorem d_Pattern_readItem_44 : decode b_Pattern_readItem 44 = .ok (.aload_n 0, 1) := by decide +kernel
theorem d_Pattern_readItem_45 : decode b_Pattern_readItem 45 = .ok (.invokevirtual 54, 3) := by decide +kernel
theorem d_Pattern_readItem_48 : decode b_Pattern_readItem 48 = .ok (.goto 41, 3) := by decide +kernel
theorem d_Pattern_readItem_51 : decode b_Pattern_readItem 51 = .ok (.aload_n 1, 1) := by decide +kernel
theorem d_Pattern_readItem_52 : decode b_Pattern_readItem 52 = .ok (.invokevirtual 51, 3) := by decide +kernel
theorem d_Pattern_readItem_55 : decode b_Pattern_readItem 55 = .ok (.aload_n 0, 1) := by decide +kernel
theorem d_Pattern_readItem_56 : decode b_Pattern_readItem 56 = .ok (.iconst 0, 1) := by decide +kernel
theorem d_Pattern_readItem_57 : decode b_Pattern_readItem 57 = .ok (.sipush 255, 3) := by decide +kernel
theorem d_Pattern_readItem_60 : decode b_Pattern_readItem 60 = .ok (.invokevirtual 57, 3) := by decide +kernel
theorem d_Pattern_readItem_63 : decode b_Pattern_readItem 63 = .ok (.goto 26, 3) := by decide +kernel
theorem d_Pattern_readItem_66 : decode b_Pattern_readItem 66 = .ok (.aload_n 1, 1) := by decide +kernel
theorem d_Pattern_readItem_67 : decode b_Pattern_readItem 67 = .ok (.invokevirtual 51, 3) := by decide +kernel
theorem d_Pattern_readItem_70 : decode b_Pattern_readItem 70 = .ok (.aload_n 0, 1) := by decide +kernel
theorem d_Pattern_readItem_71 : decode b_Pattern_readItem 71 = .ok (.aload_n 1, 1) := by decide +kernel
theorem d_Pattern_readItem_72 : decode b_Pattern_readItem 72 = .ok (.invokevirtual 61, 3) := by decide +kernel
theorem d_Pattern_readItem_75 : decode b_Pattern_readItem 75 = .ok (.goto 14, 3) := by decide +kernel
theorem d_Pattern_readItem_78 : decode b_Pattern_readItem 78 = .ok (.aload_n 1, 1) := by decide +kernel
theorem d_Pattern_readItem_79 : decode b_Pattern_readItem 79 = .ok (.invokevirtual 64, 3) := by decide +kernel
theorem d_Pattern_readItem_82 : decode b_Pattern_readItem 82 = .ok (.istore_n 2, 1) := by decide +kernel
theorem d_Pattern_readItem_83 : decode b_Pattern_readItem 83 = .ok (.aload_n 0, 1) := by decide +kernel
theorem d_Pattern_readItem_84 : decode b_Pattern_readItem 84 = .ok (.iload_n 2, 1) := by decide +kernel
theorem d_Pattern_readItem_85 : decode b_Pattern_readItem 85 = .ok (.iload_n 2, 1) := by decide +kernel
theorem d_Pattern_readItem_86 : decode b_Pattern_readItem 86 = .ok (.invokevirtual 57, 3) := by decide +kernel
theorem d_Pattern_readItem_89 : decode b_Pattern_readItem 89 = .ok (.return_, 1) := by decide +kernel
theorem d_Pattern_readChoice_0 : decode b_Pattern_readChoice 0 = .ok (.iconst 0, 1) := by decide +kernel
theorem d_Pattern_readChoice_1 : decode b_Pattern_readChoice 1 = .ok (.istore_n 2, 1) := by decide +kernel
theorem d_Pattern_readChoice_2 : decode b_Pattern_readChoice 2 = .ok (.iload_n 2, 1) := by decide +kernel
theorem d_Pattern_readChoice_3 : decode b_Pattern_readChoice 3 = .ok (.aload_n 0, 1) := by decide +kernel
theorem d_Pattern_readChoice_4 : decode b_Pattern_readChoice 4 = .ok (.getfield 30, 3) := by decide +kernel
theorem d_Pattern_readChoice_7 : decode b_Pattern_readChoice 7 = .ok (.arraylength, 1) := by decide +kernel
theorem d_Pattern_readChoice_8 : decode b_Pattern_readChoice 8 = .ok (.if_icmp .ge 85, 3) := by decide +kernel
theorem d_Pattern_readChoice_11 : decode b_Pattern_readChoice 11 = .ok (.aload_n 1, 1) := by decide +kernel
theorem d_Pattern_readChoice_12 : decode b_Pattern_readChoice 12 = .ok (.iconst 0, 1) := by decide +kernel
theorem d_Pattern_readChoice_13 : decode b_Pattern_readChoice 13 = .ok (.invokevirtual 43, 3) := by decide +kernel
theorem d_Pattern_readChoice_16 : decode b_Pattern_readChoice 16 = .ok (.iconst (-1), 1) := by decide +kernel
theorem d_Pattern_readChoice_17 : decode b_Pattern_readChoice 17 = .ok (.if_icmp .eq 76, 3) := by decide +kernel
theorem d_Pattern_readChoice_20 : decode b_Pattern_readChoice 20 = .ok (.aload_n 1, 1) := by decide +kernel
theorem d_Pattern_readChoice_21 : decode b_Pattern_readChoice 21 = .ok (.iconst 0, 1) := by decide +kernel
theorem d_Pattern_readChoice_22 : decode b_Pattern_readChoice 22 = .ok (.invokevirtual 43, 3) := by decide +kernel
theorem d_Pattern_readChoice_25 : decode b_Pattern_readChoice 25 = .ok (.bipush 93, 2) := by decide +kernel
theorem d_Pattern_readChoice_27 : decode b_Pattern_readChoice 27 = .ok (.if_icmp .ne 6, 3) := by decide +kernel
theorem d_Pattern_readChoice_30 : decode b_Pattern_readChoice 30 = .ok (.goto 63, 3) := by decide +kernel
theorem d_Pattern_readChoice_33 : decode b_Pattern_readChoice 33 = .ok (.aload_n 1, 1) := by decide +kernel
theorem d_Pattern_readChoice_34 : decode b_Pattern_readChoice 34 = .ok (.invokevirtual 64, 3) := by decide +kernel
theorem d_Pattern_readChoice_37 : decode b_Pattern_readChoice 37 = .ok (.istore_n 3, 1) := by decide +kernel
theorem d_Pattern_readChoice_38 : decode b_Pattern_readChoice 38 = .ok (.iload_n 3, 1) := by decide +kernel
theorem d_Pattern_readChoice_39 : decode b_Pattern_readChoice 39 = .ok (.istore 4, 2) := by decide +kernel
theorem d_Pattern_readChoice_41 : decode b_Pattern_readChoice 41 = .ok (.aload_n 1, 1) := by decide +kernel
theorem d_Pattern_readChoice_42 : decode b_Pattern_readChoice 42 = .ok (.iconst 0, 1) := by decide +kernel
theorem d_Pattern_readChoice_43 : decode b_Pattern_readChoice 43 = .ok (.invokevirtual 43, 3) := by decide +kernel
theorem d_Pattern_readChoice_46 : decode b_Pattern_readChoice 46 = .ok (.bipush 45, 2) := by decide +kernel
theorem d_Pattern_readChoice_48 : decode b_Pattern_readChoice 48 = .ok (.if_icmp .ne 32, 3) := by decide +kernel
theorem d_Pattern_readChoice_51 : decode b_Pattern_readChoice 51 = .ok (.aload_n 1, 1) := by decide +kernel
theorem d_Pattern_readChoice_52 : decode b_Pattern_readChoice 52 = .ok (.iconst 1, 1) := by decide +kernel
theorem d_Pattern_readChoice_53 : decode b_Pattern_readChoice 53 = .ok (.invokevirtual 43, 3) := by decide +kernel
theorem d_Pattern_readChoice_56 : decode b_Pattern_readChoice 56 = .ok (.bipush 93, 2) := by decide +kernel
theorem d_Pattern_readChoice_58 : decode b_Pattern_readChoice 58 = .ok (.if_icmp .eq 22, 3) := by decide +kernel
theorem d_Pattern_readChoice_61 : decode b_Pattern_readChoice 61 = .ok (.aload_n 1, 1) := by decide +kernel
theorem d_Pattern_readChoice_62 : decode b_Pattern_readChoice 62 = .ok (.iconst 1, 1) := by decide +kernel
theorem d_Pattern_readChoice_63 : decode b_Pattern_readChoice 63 = .ok (.invokevirtual 43, 3) := by decide +kernel
theorem d_Pattern_readChoice_66 : decode b_Pattern_readChoice 66 = .ok (.iconst (-1), 1) := by decide +kernel
theorem d_Pattern_readChoice_67 : decode b_Pattern_readChoice 67 = .ok (.if_icmp .eq 13, 3) := by decide +kernel
theorem d_Pattern_readChoice_70 : decode b_Pattern_readChoice 70 = .ok (.aload_n 1, 1) := by decide +kernel
theorem d_Pattern_readChoice_71 : decode b_Pattern_readChoice 71 = .ok (.invokevirtual 51, 3) := by decide +kernel
theorem d_Pattern_readChoice_74 : decode b_Pattern_readChoice 74 = .ok (.aload_n 1, 1) := by decide +kernel
theorem d_Pattern_readChoice_75 : decode b_Pattern_readChoice 75 = .ok (.invokevirtual 64, 3) := by decide +kernel
theorem d_Pattern_readChoice_78 : decode b_Pattern_readChoice 78 = .ok (.istore 4, 2) := by decide +kernel
theorem d_Pattern_readChoice_80 : decode b_Pattern_readChoice 80 = .ok (.aload_n 0, 1) := by decide +kernel
theorem d_Pattern_readChoice_81 : decode b_Pattern_readChoice 81 = .ok (.iload_n 3, 1) := by decide +kernel
theorem d_Pattern_readChoice_82 : decode b_Pattern_readChoice 82 = .ok (.iload 4, 2) := by decide +kernel
theorem d_Pattern_readChoice_84 : decode b_Pattern_readChoice 84 = .ok (.invokevirtual 57, 3) := by decide +kernel
theorem d_Pattern_readChoice_87 : decode b_Pattern_readChoice 87 = .ok (.iinc 2 1, 3) := by decide +kernel
theorem d_Pattern_readChoice_90 : decode b_Pattern_readChoice 90 = .ok (.goto (-88), 3) := by decide +kernel
theorem d_Pattern_readChoice_93 : decode b_Pattern_readChoice 93 = .ok (.aload_n 1, 1) := by decide +kernel
theorem d_Pattern_readChoice_94 : decode b_Pattern_readChoice 94 = .ok (.invokevirtual 51, 3) := by decide +kernel
theorem d_Pattern_readChoice_97 : decode b_Pattern_readChoice 97 = .ok (.return_, 1) := by decide +kernel
theorem d_Pattern_markStar_0 : decode b_Pattern_markStar 0 = .ok (.aload_n 0, 1) := by decide +kernel
theorem d_Pattern_markStar_1 : decode b_Pattern_markStar 1 = .ok (.getfield 39, 3) := by decide +kernel
theorem d_Pattern_markStar_4 : decode b_Pattern_markStar 4 = .ok (.ifCond .lt 25, 3) := by decide +kernel
theorem d_Pattern_markStar_7 : decode b_Pattern_markStar 7 = .ok (.aload_n 0, 1) := by decide +kernel
theorem d_Pattern_markStar_8 : decode b_Pattern_markStar 8 = .ok (.getfield 39, 3) := by decide +kernel
theorem d_Pattern_markStar_11 : decode b_Pattern_markStar 11 = .ok (.aload_n 0, 1) := by decide +kernel
theorem d_Pattern_markStar_12 : decode b_Pattern_markStar 12 = .ok (.getfield 30, 3) := by decide +kernel
theorem d_Pattern_markStar_15 : decode b_Pattern_markStar 15 = .ok (.arraylength, 1) := by decide +kernel
theorem d_Pattern_markStar_16 : decode b_Pattern_markStar 16 = .ok (.if_icmp .ge 13, 3) := by decide +kernel
theorem d_Pattern_markStar_19 : decode b_Pattern_markStar 19 = .ok (.aload_n 0, 1) := by decide +kernel
theorem d_Pattern_markStar_20 : decode b_Pattern_markStar 20 = .ok (.getfield 30, 3) := by decide +kernel
theorem d_Pattern_markStar_23 : decode b_Pattern_markStar 23 = .ok (.aload_n 0, 1) := by decide +kernel
theorem d_Pattern_markStar_24 : decode b_Pattern_markStar 24 = .ok (.getfield 39, 3) := by decide +kernel
theorem d_Pattern_markStar_27 : decode b_Pattern_markStar 27 = .ok (.iconst 1, 1) := by decide +kernel
theorem d_Pattern_markStar_28 : decode b_Pattern_markStar 28 = .ok (.bastore, 1) := by decide +kernel
theorem d_Pattern_markStar_29 : decode b_Pattern_markStar 29 = .ok (.return_, 1) := by decide +kernel
theorem d_Pattern_allow_0 : decode b_Pattern_allow 0 = .ok (.iconst 0, 1) := by decide +kernel
theorem d_Pattern_allow_1 : decode b_Pattern_allow 1 = .ok (.iload_n 1, 1) := by decide +kernel
theorem d_Pattern_allow_2 : decode b_Pattern_allow 2 = .ok (.invokestatic 21, 3) := by decide +kernel
theorem d_Pattern_allow_5 : decode b_Pattern_allow 5 = .ok (.istore_n 3, 1) := by decide +kernel
theorem d_Pattern_allow_6 : decode b_Pattern_allow 6 = .ok (.iload_n 3, 1) := by decide +kernel
theorem d_Pattern_allow_7 : decode b_Pattern_allow 7 = .ok (.iload_n 2, 1) := by decide +kernel
theorem d_Pattern_allow_8 : decode b_Pattern_allow 8 = .ok (.if_icmp .gt 55, 3) := by decide +kernel
theorem d_Pattern_allow_11 : decode b_Pattern_allow 11 = .ok (.iload_n 3, 1) := by decide +kernel
theorem d_Pattern_allow_12 : decode b_Pattern_allow 12 = .ok (.sipush 255, 3) := by decide +kernel
theorem d_Pattern_allow_15 : decode b_Pattern_allow 15 = .ok (.if_icmp .gt 48, 3) := by decide +kernel
theorem d_Pattern_allow_18 : decode b_Pattern_allow 18 = .ok (.aload_n 0, 1) := by decide +kernel
theorem d_Pattern_allow_19 : decode b_Pattern_allow 19 = .ok (.getfield 39, 3) := by decide +kernel
theorem d_Pattern_allow_22 : decode b_Pattern_allow 22 = .ok (.iconst 4, 1) := by decide +kernel
theorem d_Pattern_allow_23 : decode b_Pattern_allow 23 = .ok (.imul, 1) := by decide +kernel
theorem d_Pattern_allow_24 : decode b_Pattern_allow 24 = .ok (.iload_n 3, 1) := by decide +kernel
theorem d_Pattern_allow_25 : decode b_Pattern_allow 25 = .ok (.bipush 6, 2) := by decide +kernel
theorem d_Pattern_allow_27 : decode b_Pattern_allow 27 = .ok (.ishr, 1) := by decide +kernel
theorem d_Pattern_allow_28 : decode b_Pattern_allow 28 = .ok (.iadd, 1) := by decide +kernel
theorem d_Pattern_allow_29 : decode b_Pattern_allow 29 = .ok (.istore 4, 2) := by decide +kernel
theorem d_Pattern_allow_31 : decode b_Pattern_allow 31 = .ok (.iload 4, 2) := by decide +kernel
theorem d_Pattern_allow_33 : decode b_Pattern_allow 33 = .ok (.aload_n 0, 1) := by decide +kernel
theorem d_Pattern_allow_34 : decode b_Pattern_allow 34 = .ok (.getfield 26, 3) := by decide +kernel
theorem d_Pattern_allow_37 : decode b_Pattern_allow 37 = .ok (.arraylength, 1) := by decide +kernel
theorem d_Pattern_allow_38 : decode b_Pattern_allow 38 = .ok (.if_icmp .ge 19, 3) := by decide +kernel
theorem d_Pattern_allow_41 : decode b_Pattern_allow 41 = .ok (.aload_n 0, 1) := by decide +kernel
theorem d_Pattern_allow_42 : decode b_Pattern_allow 42 = .ok (.getfield 26, 3) := by decide +kernel
theorem d_Pattern_allow_45 : decode b_Pattern_allow 45 = .ok (.iload 4, 2) := by decide +kernel
theorem d_Pattern_allow_47 : decode b_Pattern_allow 47 = .ok (.dup2, 1) := by decide +kernel
theorem d_Pattern_allow_48 : decode b_Pattern_allow 48 = .ok (.laload, 1) := by decide +kernel
theorem d_Pattern_allow_49 : decode b_Pattern_allow 49 = .ok (.lconst 1, 1) := by decide +kernel
theorem d_Pattern_allow_50 : decode b_Pattern_allow 50 = .ok (.iload_n 3, 1) := by decide +kernel
theorem d_Pattern_allow_51 : decode b_Pattern_allow 51 = .ok (.bipush 63, 2) := by decide +kernel
theorem d_Pattern_allow_53 : decode b_Pattern_allow 53 = .ok (.iand, 1) := by decide +kernel
theorem d_Pattern_allow_54 : decode b_Pattern_allow 54 = .ok (.lshl, 1) := by decide +kernel
theorem d_Pattern_allow_55 : decode b_Pattern_allow 55 = .ok (.lor, 1) := by decide +kernel
theorem d_Pattern_allow_56 : decode b_Pattern_allow 56 = .ok (.lastore, 1) := by decide +kernel
theorem d_Pattern_allow_57 : decode b_Pattern_allow 57 = .ok (.iinc 3 1, 3) := by decide +kernel
theorem d_Pattern_allow_60 : decode b_Pattern_allow 60 = .ok (.goto (-54), 3) := by decide +kernel
theorem d_Pattern_allow_63 : decode b_Pattern_allow 63 = .ok (.return_, 1) := by decide +kernel
theorem d_Pattern_isStar_0 : decode b_Pattern_isStar 0 = .ok (.iload_n 1, 1) := by decide +kernel
theorem d_Pattern_isStar_1 : decode b_Pattern_isStar 1 = .ok (.ifCond .lt 25, 3) := by decide +kernel
theorem d_Pattern_isStar_4 : decode b_Pattern_isStar 4 = .ok (.iload_n 1, 1) := by decide +kernel
theorem d_Pattern_isStar_5 : decode b_Pattern_isStar 5 = .ok (.aload_n 0, 1) := by decide +kernel
theorem d_Pattern_isStar_6 : decode b_Pattern_isStar 6 = .ok (.getfield 30, 3) := by decide +kernel
theorem d_Pattern_isStar_9 : decode b_Pattern_isStar 9 = .ok (.arraylength, 1) := by decide +kernel
theorem d_Pattern_isStar_10 : decode b_Pattern_isStar 10 = .ok (.if_icmp .ge 16, 3) := by decide +kernel
theorem d_Pattern_isStar_13 : decode b_Pattern_isStar 13 = .ok (.aload_n 0, 1) := by decide +kernel
theorem d_Pattern_isStar_14 : decode b_Pattern_isStar 14 = .ok (.getfield 30, 3) := by decide +kernel
theorem d_Pattern_isStar_17 : decode b_Pattern_isStar 17 = .ok (.iload_n 1, 1) := by decide +kernel
theorem d_Pattern_isStar_18 : decode b_Pattern_isStar 18 = .ok (.baload, 1) := by decide +kernel
theorem d_Pattern_isStar_19 : decode b_Pattern_isStar 19 = .ok (.ifCond .eq 7, 3) := by decide +kernel
theorem d_Pattern_isStar_22 : decode b_Pattern_isStar 22 = .ok (.iconst 1, 1) := by decide +kernel
theorem d_Pattern_isStar_23 : decode b_Pattern_isStar 23 = .ok (.goto 4, 3) := by decide +kernel
theorem d_Pattern_isStar_26 : decode b_Pattern_isStar 26 = .ok (.iconst 0, 1) := by decide +kernel
theorem d_Pattern_isStar_27 : decode b_Pattern_isStar 27 = .ok (.ireturn, 1) := by decide +kernel
theorem d_Pattern_starOrEndFrom_0 : decode b_Pattern_starOrEndFrom 0 = .ok (.iload_n 1, 1) := by decide +kernel
theorem d_Pattern_starOrEndFrom_1 : decode b_Pattern_starOrEndFrom 1 = .ok (.istore_n 2, 1) := by decide +kernel
theorem d_Pattern_starOrEndFrom_2 : decode b_Pattern_starOrEndFrom 2 = .ok (.iload_n 2, 1) := by decide +kernel
theorem d_Pattern_starOrEndFrom_3 : decode b_Pattern_starOrEndFrom 3 = .ok (.aload_n 0, 1) := by decide +kernel
theorem d_Pattern_starOrEndFrom_4 : decode b_Pattern_starOrEndFrom 4 = .ok (.getfield 39, 3) := by decide +kernel
theorem d_Pattern_starOrEndFrom_7 : decode b_Pattern_starOrEndFrom 7 = .ok (.if_icmp .ge 17, 3) := by decide +kernel
theorem d_Pattern_starOrEndFrom_10 : decode b_Pattern_starOrEndFrom 10 = .ok (.aload_n 0, 1) := by decide +kernel
theorem d_Pattern_starOrEndFrom_11 : decode b_Pattern_starOrEndFrom 11 = .ok (.iload_n 2, 1) := by decide +kernel
theorem d_Pattern_starOrEndFrom_12 : decode b_Pattern_starOrEndFrom 12 = .ok (.invokevirtual 67, 3) := by decide +kernel
theorem d_Pattern_starOrEndFrom_15 : decode b_Pattern_starOrEndFrom 15 = .ok (.ifCond .ne 9, 3) := by decide +kernel
theorem d_Pattern_starOrEndFrom_18 : decode b_Pattern_starOrEndFrom 18 = .ok (.iinc 2 1, 3) := by decide +kernel
theorem d_Pattern_starOrEndFrom_21 : decode b_Pattern_starOrEndFrom 21 = .ok (.goto (-19), 3) := by decide +kernel
theorem d_Pattern_starOrEndFrom_24 : decode b_Pattern_starOrEndFrom 24 = .ok (.iload_n 2, 1) := by decide +kernel
theorem d_Pattern_starOrEndFrom_25 : decode b_Pattern_starOrEndFrom 25 = .ok (.ireturn, 1) := by decide +kernel
theorem d_Pattern_behindLastStar_0 : decode b_Pattern_behindLastStar 0 = .ok (.aload_n 0, 1) := by decide +kernel
theorem d_Pattern_behindLastStar_1 : decode b_Pattern_behindLastStar 1 = .ok (.getfield 39, 3) := by decide +kernel
theorem d_Pattern_behindLastStar_4 : decode b_Pattern_behindLastStar 4 = .ok (.istore_n 1, 1) := by decide +kernel
theorem d_Pattern_behindLastStar_5 : decode b_Pattern_behindLastStar 5 = .ok (.iload_n 1, 1) := by decide +kernel
theorem d_Pattern_behindLastStar_6 : decode b_Pattern_behindLastStar 6 = .ok (.ifCond .le 19, 3) := by decide +kernel
theorem d_Pattern_behindLastStar_9 : decode b_Pattern_behindLastStar 9 = .ok (.aload_n 0, 1) := by decide +kernel
theorem d_Pattern_behindLastStar_10 : decode b_Pattern_behindLastStar 10 = .ok (.iload_n 1, 1) := by decide +kernel
theorem d_Pattern_behindLastStar_11 : decode b_Pattern_behindLastStar 11 = .ok (.iconst 1, 1) := by decide +kernel
theorem d_Pattern_behindLastStar_12 : decode b_Pattern_behindLastStar 12 = .ok (.isub, 1) := by decide +kernel
theorem d_Pattern_behindLastStar_13 : decode b_Pattern_behindLastStar 13 = .ok (.invokevirtual 67, 3) := by decide +kernel
theorem d_Pattern_behindLastStar_16 : decode b_Pattern_behindLastStar 16 = .ok (.ifCond .ne 9, 3) := by decide +kernel
theorem d_Pattern_behindLastStar_19 : decode b_Pattern_behindLastStar 19 = .ok (.iinc 1 (-1), 3) := by decide +kernel
theorem d_Pattern_behindLastStar_22 : decode b_Pattern_behindLastStar 22 = .ok (.goto (-17), 3) := by decide +kernel
theorem d_Pattern_behindLastStar_25 : decode b_Pattern_behindLastStar 25 = .ok (.iload_n 1, 1) := by decide +kernel
theorem d_Pattern_behindLastStar_26 : decode b_Pattern_behindLastStar 26 = .ok (.ireturn, 1) := by decide +kernel
theorem d_Pattern_fitsWhole_0 : decode b_Pattern_fitsWhole 0 = .ok (.aload_n 0, 1) := by decide +kernel
theorem d_Pattern_fitsWhole_1 : decode b_Pattern_fitsWhole 1 = .ok (.iconst 0, 1) := by decide +kernel
theorem d_Pattern_fitsWhole_2 : decode b_Pattern_fitsWhole 2 = .ok (.invokevirtual 71, 3) := by decide +kernel
theorem d_Pattern_fitsWhole_5 : decode b_Pattern_fitsWhole 5 = .ok (.istore_n 2, 1) := by decide +kernel
theorem d_Pattern_fitsWhole_6 : decode b_Pattern_fitsWhole 6 = .ok (.iload_n 2, 1) := by decide +kernel
theorem d_Pattern_fitsWhole_7 : decode b_Pattern_fitsWhole 7 = .ok (.aload_n 0, 1) := by decide +kernel
theorem d_Pattern_fitsWhole_8 : decode b_Pattern_fitsWhole 8 = .ok (.getfield 39, 3) := by decide +kernel
theorem d_Pattern_fitsWhole_11 : decode b_Pattern_fitsWhole 11 = .ok (.if_icmp .ne 34, 3) := by decide +kernel
theorem d_Pattern_fitsWhole_14 : decode b_Pattern_fitsWhole 14 = .ok (.aload_n 1, 1) := by decide +kernel
theorem d_Pattern_fitsWhole_15 : decode b_Pattern_fitsWhole 15 = .ok (.invokevirtual 9, 3) := by decide +kernel
theorem d_Pattern_fitsWhole_18 : decode b_Pattern_fitsWhole 18 = .ok (.aload_n 0, 1) := by decide +kernel
theorem d_Pattern_fitsWhole_19 : decode b_Pattern_fitsWhole 19 = .ok (.getfield 39, 3) := by decide +kernel
theorem d_Pattern_fitsWhole_22 : decode b_Pattern_fitsWhole 22 = .ok (.if_icmp .ne 21, 3) := by decide +kernel
theorem d_Pattern_fitsWhole_25 : decode b_Pattern_fitsWhole 25 = .ok (.aload_n 0, 1) := by decide +kernel
theorem d_Pattern_fitsWhole_26 : decode b_Pattern_fitsWhole 26 = .ok (.aload_n 1, 1) := by decide +kernel
theorem d_Pattern_fitsWhole_27 : decode b_Pattern_fitsWhole 27 = .ok (.iconst 0, 1) := by decide +kernel
theorem d_Pattern_fitsWhole_28 : decode b_Pattern_fitsWhole 28 = .ok (.iconst 0, 1) := by decide +kernel
theorem d_Pattern_fitsWhole_29 : decode b_Pattern_fitsWhole 29 = .ok (.aload_n 0, 1) := by decide +kernel
theorem d_Pattern_fitsWhole_30 : decode b_Pattern_fitsWhole 30 = .ok (.getfield 39, 3) := by decide +kernel
theorem d_Pattern_fitsWhole_33 : decode b_Pattern_fitsWhole 33 = .ok (.invokevirtual 74, 3) := by decide +kernel
theorem d_Pattern_fitsWhole_36 : decode b_Pattern_fitsWhole 36 = .ok (.ifCond .eq 7, 3) := by decide +kernel
theorem d_Pattern_fitsWhole_39 : decode b_Pattern_fitsWhole 39 = .ok (.iconst 1, 1) := by decide +kernel
theorem d_Pattern_fitsWhole_40 : decode b_Pattern_fitsWhole 40 = .ok (.goto 4, 3) := by decide +kernel
theorem d_Pattern_fitsWhole_43 : decode b_Pattern_fitsWhole 43 = .ok (.iconst 0, 1) := by decide +kernel
theorem d_Pattern_fitsWhole_44 : decode b_Pattern_fitsWhole 44 = .ok (.ireturn, 1) := by decide +kernel
theorem d_Pattern_fitsWhole_45 : decode b_Pattern_fitsWhole 45 = .ok (.aload_n 0, 1) := by decide +kernel
theorem d_Pattern_fitsWhole_46 : decode b_Pattern_fitsWhole 46 = .ok (.invokevirtual 78, 3) := by decide +kernel
theorem d_Pattern_fitsWhole_49 : decode b_Pattern_fitsWhole 49 = .ok (.istore_n 3, 1) := by decide +kernel
theorem d_Pattern_fitsWhole_50 : decode b_Pattern_fitsWhole 50 = .ok (.aload_n 1, 1) := by decide +kernel
theorem d_Pattern_fitsWhole_51 : decode b_Pattern_fitsWhole 51 = .ok (.invokevirtual 9, 3) := by decide +kernel
theorem d_Pattern_fitsWhole_54 : decode b_Pattern_fitsWhole 54 = .ok (.aload_n 0, 1) := by decide +kernel
theorem d_Pattern_fitsWhole_55 : decode b_Pattern_fitsWhole 55 = .ok (.getfield 39, 3) := by decide +kernel
theorem d_Pattern_fitsWhole_58 : decode b_Pattern_fitsWhole 58 = .ok (.iload_n 3, 1) := by decide +kernel
theorem d_Pattern_fitsWhole_59 : decode b_Pattern_fitsWhole 59 = .ok (.isub, 1) := by decide +kernel
theorem d_Pattern_fitsWhole_60 : decode b_Pattern_fitsWhole 60 = .ok (.isub, 1) := by decide +kernel
theorem d_Pattern_fitsWhole_61 : decode b_Pattern_fitsWhole 61 = .ok (.istore 4, 2) := by decide +kernel
theorem d_Pattern_fitsWhole_63 : decode b_Pattern_fitsWhole 63 = .ok (.iload_n 2, 1) := by decide +kernel
theorem d_Pattern_fitsWhole_64 : decode b_Pattern_fitsWhole 64 = .ok (.iload 4, 2) := by decide +kernel
theorem d_Pattern_fitsWhole_66 : decode b_Pattern_fitsWhole 66 = .ok (.if_icmp .gt 47, 3) := by decide +kernel
theorem d_Pattern_fitsWhole_69 : decode b_Pattern_fitsWhole 69 = .ok (.aload_n 0, 1) := by decide +kernel
theorem d_Pattern_fitsWhole_70 : decode b_Pattern_fitsWhole 70 = .ok (.aload_n 1, 1) := by decide +kernel
theorem d_Pattern_fitsWhole_71 : decode b_Pattern_fitsWhole 71 = .ok (.iconst 0, 1) := by decide +kernel
theorem d_Pattern_fitsWhole_72 : decode b_Pattern_fitsWhole 72 = .ok (.iconst 0, 1) := by decide +kernel
theorem d_Pattern_fitsWhole_73 : decode b_Pattern_fitsWhole 73 = .ok (.iload_n 2, 1) := by decide +kernel
theorem d_Pattern_fitsWhole_74 : decode b_Pattern_fitsWhole 74 = .ok (.invokevirtual 74, 3) := by decide +kernel
theorem d_Pattern_fitsWhole_77 : decode b_Pattern_fitsWhole 77 = .ok (.ifCond .eq 36, 3) := by decide +kernel
theorem d_Pattern_fitsWhole_80 : decode b_Pattern_fitsWhole 80 = .ok (.aload_n 0, 1) := by decide +kernel
theorem d_Pattern_fitsWhole_81 : decode b_Pattern_fitsWhole 81 = .ok (.aload_n 1, 1) := by decide +kernel
theorem d_Pattern_fitsWhole_82 : decode b_Pattern_fitsWhole 82 = .ok (.iload 4, 2) := by decide +kernel
theorem d_Pattern_fitsWhole_84 : decode b_Pattern_fitsWhole 84 = .ok (.iload_n 3, 1) := by decide +kernel
theorem d_Pattern_fitsWhole_85 : decode b_Pattern_fitsWhole 85 = .ok (.aload_n 0, 1) := by decide +kernel
theorem d_Pattern_fitsWhole_86 : decode b_Pattern_fitsWhole 86 = .ok (.getfield 39, 3) := by decide +kernel
theorem d_Pattern_fitsWhole_89 : decode b_Pattern_fitsWhole 89 = .ok (.invokevirtual 74, 3) := by decide +kernel
theorem d_Pattern_fitsWhole_92 : decode b_Pattern_fitsWhole 92 = .ok (.ifCond .eq 21, 3) := by decide +kernel
theorem d_Pattern_fitsWhole_95 : decode b_Pattern_fitsWhole 95 = .ok (.aload_n 0, 1) := by decide +kernel
theorem d_Pattern_fitsWhole_96 : decode b_Pattern_fitsWhole 96 = .ok (.aload_n 1, 1) := by decide +kernel
theorem d_Pattern_fitsWhole_97 : decode b_Pattern_fitsWhole 97 = .ok (.iload_n 2, 1) := by decide +kernel
theorem d_Pattern_fitsWhole_98 : decode b_Pattern_fitsWhole 98 = .ok (.iload 4, 2) := by decide +kernel
theorem d_Pattern_fitsWhole_100 : decode b_Pattern_fitsWhole 100 = .ok (.iload_n 2, 1) := by decide +kernel
theorem d_Pattern_fitsWhole_101 : decode b_Pattern_fitsWhole 101 = .ok (.iload_n 3, 1) := by decide +kernel
theorem d_Pattern_fitsWhole_102 : decode b_Pattern_fitsWhole 102 = .ok (.invokevirtual 81, 3) := by decide +kernel
theorem d_Pattern_fitsWhole_105 : decode b_Pattern_fitsWhole 105 = .ok (.iconst (-1), 1) := by decide +kernel
theorem d_Pattern_fitsWhole_106 : decode b_Pattern_fitsWhole 106 = .ok (.if_icmp .eq 7, 3) := by decide +kernel
theorem d_Pattern_fitsWhole_109 : decode b_Pattern_fitsWhole 109 = .ok (.iconst 1, 1) := by decide +kernel
theorem d_Pattern_fitsWhole_110 : decode b_Pattern_fitsWhole 110 = .ok (.goto 4, 3) := by decide +kernel
theorem d_Pattern_fitsWhole_113 : decode b_Pattern_fitsWhole 113 = .ok (.iconst 0, 1) := by decide +kernel
theorem d_Pattern_fitsWhole_114 : decode b_Pattern_fitsWhole 114 = .ok (.ireturn, 1) := by decide +kernel
theorem d_Pattern_shortestBeginning_0 : decode b_Pattern_shortestBeginning 0 = .ok (.aload_n 0, 1) := by decide +kernel
theorem d_Pattern_shortestBeginning_1 : decode b_Pattern_shortestBeginning 1 = .ok (.aload_n 1, 1) := by decide +kernel
theorem d_Pattern_shortestBeginning_2 : decode b_Pattern_shortestBeginning 2 = .ok (.iconst 0, 1) := by decide +kernel
theorem d_Pattern_shortestBeginning_3 : decode b_Pattern_shortestBeginning 3 = .ok (.aload_n 1, 1) := by decide +kernel
theorem d_Pattern_shortestBeginning_4 : decode b_Pattern_shortestBeginning 4 = .ok (.invokevirtual 9, 3) := by decide +kernel
theorem d_Pattern_shortestBeginning_7 : decode b_Pattern_shortestBeginning 7 = .ok (.iconst 0, 1) := by decide +kernel
theorem d_Pattern_shortestBeginning_8 : decode b_Pattern_shortestBeginning 8 = .ok (.aload_n 0, 1) := by decide +kernel
theorem d_Pattern_shortestBeginning_9 : decode b_Pattern_shortestBeginning 9 = .ok (.getfield 39, 3) := by decide +kernel
theorem d_Pattern_shortestBeginning_12 : decode b_Pattern_shortestBeginning 12 = .ok (.invokevirtual 81, 3) := by decide +kernel
theorem d_Pattern_shortestBeginning_15 : decode b_Pattern_shortestBeginning 15 = .ok (.ireturn, 1) := by decide +kernel
theorem d_Pattern_earliestEnd_0 : decode b_Pattern_earliestEnd 0 = .ok (.iload_n 2, 1) := by decide +kernel
theorem d_Pattern_earliestEnd_1 : decode b_Pattern_earliestEnd 1 = .ok (.istore 6, 2) := by decide +kernel
theorem d_Pattern_earliestEnd_3 : decode b_Pattern_earliestEnd 3 = .ok (.iload 4, 2) := by decide +kernel
theorem d_Pattern_earliestEnd_5 : decode b_Pattern_earliestEnd 5 = .ok (.istore 7, 2) := by decide +kernel
theorem d_Pattern_earliestEnd_7 : decode b_Pattern_earliestEnd 7 = .ok (.iload 7, 2) := by decide +kernel
theorem d_Pattern_earliestEnd_9 : decode b_Pattern_earliestEnd 9 = .ok (.iload 5, 2) := by decide +kernel
theorem d_Pattern_earliestEnd_11 : decode b_Pattern_earliestEnd 11 = .ok (.if_icmp .ge 62, 3) := by decide +kernel
theorem d_Pattern_earliestEnd_14 : decode b_Pattern_earliestEnd 14 = .ok (.iload 5, 2) := by decide +kernel
theorem d_Pattern_earliestEnd_16 : decode b_Pattern_earliestEnd 16 = .ok (.aload_n 0, 1) := by decide +kernel
theorem d_Pattern_earliestEnd_17 : decode b_Pattern_earliestEnd 17 = .ok (.iload 7, 2) := by decide +kernel
theorem d_Pattern_earliestEnd_19 : decode b_Pattern_earliestEnd 19 = .ok (.invokevirtual 71, 3) := by decide +kernel
theorem d_Pattern_earliestEnd_22 : decode b_Pattern_earliestEnd 22 = .ok (.invokestatic 15, 3) := by decide +kernel
theorem d_Pattern_earliestEnd_25 : decode b_Pattern_earliestEnd 25 = .ok (.istore 8, 2) := by decide +kernel
theorem d_Pattern_earliestEnd_27 : decode b_Pattern_earliestEnd 27 = .ok (.aload_n 0, 1) := by decide +kernel
theorem d_Pattern_earliestEnd_28 : decode b_Pattern_earliestEnd 28 = .ok (.aload_n 1, 1) := by decide +kernel
theorem d_Pattern_earliestEnd_29 : decode b_Pattern_earliestEnd 29 = .ok (.iload 6, 2) := by decide +kernel
theorem d_Pattern_earliestEnd_31 : decode b_Pattern_earliestEnd 31 = .ok (.iload_n 3, 1) := by decide +kernel
theorem d_Pattern_earliestEnd_32 : decode b_Pattern_earliestEnd 32 = .ok (.iload 7, 2) := by decide +kernel
theorem d_Pattern_earliestEnd_34 : decode b_Pattern_earliestEnd 34 = .ok (.iload 8, 2) := by decide +kernel
theorem d_Pattern_earliestEnd_36 : decode b_Pattern_earliestEnd 36 = .ok (.invokevirtual 85, 3) := by decide +kernel
theorem d_Pattern_earliestEnd_39 : decode b_Pattern_earliestEnd 39 = .ok (.istore 6, 2) := by decide +kernel
theorem d_Pattern_earliestEnd_41 : decode b_Pattern_earliestEnd 41 = .ok (.iload 6, 2) := by decide +kernel
theorem d_Pattern_earliestEnd_43 : decode b_Pattern_earliestEnd 43 = .ok (.iconst (-1), 1) := by decide +kernel
theorem d_Pattern_earliestEnd_44 : decode b_Pattern_earliestEnd 44 = .ok (.if_icmp .ne 5, 3) := by decide +kernel
theorem d_Pattern_earliestEnd_47 : decode b_Pattern_earliestEnd 47 = .ok (.iconst (-1), 1) := by decide +kernel
theorem d_Pattern_earliestEnd_48 : decode b_Pattern_earliestEnd 48 = .ok (.ireturn, 1) := by decide +kernel
theorem d_Pattern_earliestEnd_49 : decode b_Pattern_earliestEnd 49 = .ok (.iload 6, 2) := by decide +kernel
theorem d_Pattern_earliestEnd_51 : decode b_Pattern_earliestEnd 51 = .ok (.iload 8, 2) := by decide +kernel
theorem d_Pattern_earliestEnd_53 : decode b_Pattern_earliestEnd 53 = .ok (.iload 7, 2) := by decide +kernel
theorem d_Pattern_earliestEnd_55 : decode b_Pattern_earliestEnd 55 = .ok (.isub, 1) := by decide +kernel
theorem d_Pattern_earliestEnd_56 : decode b_Pattern_earliestEnd 56 = .ok (.iadd, 1) := by decide +kernel
theorem d_Pattern_earliestEnd_57 : decode b_Pattern_earliestEnd 57 = .ok (.istore 6, 2) := by decide +kernel
theorem d_Pattern_earliestEnd_59 : decode b_Pattern_earliestEnd 59 = .ok (.iload 7, 2) := by decide +kernel
theorem d_Pattern_earliestEnd_61 : decode b_Pattern_earliestEnd 61 = .ok (.iload 8, 2) := by decide +kernel
theorem d_Pattern_earliestEnd_63 : decode b_Pattern_earliestEnd 63 = .ok (.invokestatic 21, 3) := by decide +kernel
theorem d_Pattern_earliestEnd_66 : decode b_Pattern_earliestEnd 66 = .ok (.iconst 1, 1) := by decide +kernel
theorem d_Pattern_earliestEnd_67 : decode b_Pattern_earliestEnd 67 = .ok (.iadd, 1) := by decide +kernel
theorem d_Pattern_earliestEnd_68 : decode b_Pattern_earliestEnd 68 = .ok (.istore 7, 2) := by decide +kernel
theorem d_Pattern_earliestEnd_70 : decode b_Pattern_earliestEnd 70 = .ok (.goto (-63), 3) := by decide +kernel
theorem d_Pattern_earliestEnd_73 : decode b_Pattern_earliestEnd 73 = .ok (.iload 6, 2) := by decide +kernel
theorem d_Pattern_earliestEnd_75 : decode b_Pattern_earliestEnd 75 = .ok (.ireturn, 1) := by decide +kernel
theorem d_Pattern_earliestPlace_0 : decode b_Pattern_earliestPlace 0 = .ok (.iload_n 2, 1) := by decide +kernel
theorem d_Pattern_earliestPlace_1 : decode b_Pattern_earliestPlace 1 = .ok (.istore 6, 2) := by decide +kernel
theorem d_Pattern_earliestPlace_3 : decode b_Pattern_earliestPlace 3 = .ok (.iload 6, 2) := by decide +kernel
theorem d_Pattern_earliestPlace_5 : decode b_Pattern_earliestPlace 5 = .ok (.iload_n 3, 1) := by decide +kernel
theorem d_Pattern_earliestPlace_6 : decode b_Pattern_earliestPlace 6 = .ok (.iload 5, 2) := by decide +kernel
theorem d_Pattern_earliestPlace_8 : decode b_Pattern_earliestPlace 8 = .ok (.iload 4, 2) := by decide +kernel
theorem d_Pattern_earliestPlace_10 : decode b_Pattern_earliestPlace 10 = .ok (.isub, 1) := by decide +kernel
theorem d_Pattern_earliestPlace_11 : decode b_Pattern_earliestPlace 11 = .ok (.isub, 1) := by decide +kernel
theorem d_Pattern_earliestPlace_12 : decode b_Pattern_earliestPlace 12 = .ok (.if_icmp .gt 26, 3) := by decide +kernel
theorem d_Pattern_earliestPlace_15 : decode b_Pattern_earliestPlace 15 = .ok (.aload_n 0, 1) := by decide +kernel
theorem d_Pattern_earliestPlace_16 : decode b_Pattern_earliestPlace 16 = .ok (.aload_n 1, 1) := by decide +kernel
theorem d_Pattern_earliestPlace_17 : decode b_Pattern_earliestPlace 17 = .ok (.iload 6, 2) := by decide +kernel
theorem d_Pattern_earliestPlace_19 : decode b_Pattern_earliestPlace 19 = .ok (.iload 4, 2) := by decide +kernel
theorem d_Pattern_earliestPlace_21 : decode b_Pattern_earliestPlace 21 = .ok (.iload 5, 2) := by decide +kernel
theorem d_Pattern_earliestPlace_23 : decode b_Pattern_earliestPlace 23 = .ok (.invokevirtual 74, 3) := by decide +kernel
theorem d_Pattern_earliestPlace_26 : decode b_Pattern_earliestPlace 26 = .ok (.ifCond .eq 6, 3) := by decide +kernel
theorem d_Pattern_earliestPlace_29 : decode b_Pattern_earliestPlace 29 = .ok (.iload 6, 2) := by decide +kernel
theorem d_Pattern_earliestPlace_31 : decode b_Pattern_earliestPlace 31 = .ok (.ireturn, 1) := by decide +kernel
theorem d_Pattern_earliestPlace_32 : decode b_Pattern_earliestPlace 32 = .ok (.iinc 6 1, 3) := by decide +kernel
theorem d_Pattern_earliestPlace_35 : decode b_Pattern_earliestPlace 35 = .ok (.goto (-32), 3) := by decide +kernel
theorem d_Pattern_earliestPlace_38 : decode b_Pattern_earliestPlace 38 = .ok (.iconst (-1), 1) := by decide +kernel
theorem d_Pattern_earliestPlace_39 : decode b_Pattern_earliestPlace 39 = .ok (.ireturn, 1) := by decide +kernel
theorem d_Pattern_standsAt_0 : decode b_Pattern_standsAt 0 = .ok (.iload_n 3, 1) := by decide +kernel
theorem d_Pattern_standsAt_1 : decode b_Pattern_standsAt 1 = .ok (.istore 5, 2) := by decide +kernel
theorem d_Pattern_standsAt_3 : decode b_Pattern_standsAt 3 = .ok (.iload 5, 2) := by decide +kernel
theorem d_Pattern_standsAt_5 : decode b_Pattern_standsAt 5 = .ok (.iload 4, 2) := by decide +kernel
theorem d_Pattern_standsAt_7 : decode b_Pattern_standsAt 7 = .ok (.if_icmp .ge 76, 3) := by decide +kernel
theorem d_Pattern_standsAt_10 : decode b_Pattern_standsAt 10 = .ok (.aload_n 1, 1) := by decide +kernel
theorem d_Pattern_standsAt_11 : decode b_Pattern_standsAt 11 = .ok (.iload_n 2, 1) := by decide +kernel
theorem d_Pattern_standsAt_12 : decode b_Pattern_standsAt 12 = .ok (.iload 5, 2) := by decide +kernel
theorem d_Pattern_standsAt_14 : decode b_Pattern_standsAt 14 = .ok (.iadd, 1) := by decide +kernel
theorem d_Pattern_standsAt_15 : decode b_Pattern_standsAt 15 = .ok (.iload_n 3, 1) := by decide +kernel
theorem d_Pattern_standsAt_16 : decode b_Pattern_standsAt 16 = .ok (.isub, 1) := by decide +kernel
theorem d_Pattern_standsAt_17 : decode b_Pattern_standsAt 17 = .ok (.invokevirtual 88, 3) := by decide +kernel
theorem d_Pattern_standsAt_20 : decode b_Pattern_standsAt 20 = .ok (.istore 6, 2) := by decide +kernel
theorem d_Pattern_standsAt_22 : decode b_Pattern_standsAt 22 = .ok (.iload 5, 2) := by decide +kernel
theorem d_Pattern_standsAt_24 : decode b_Pattern_standsAt 24 = .ok (.iconst 4, 1) := by decide +kernel
theorem d_Pattern_standsAt_25 : decode b_Pattern_standsAt 25 = .ok (.imul, 1) := by decide +kernel
theorem d_Pattern_standsAt_26 : decode b_Pattern_standsAt 26 = .ok (.iload 6, 2) := by decide +kernel
theorem d_Pattern_standsAt_28 : decode b_Pattern_standsAt 28 = .ok (.bipush 6, 2) := by decide +kernel
theorem d_Pattern_standsAt_30 : decode b_Pattern_standsAt 30 = .ok (.ishr, 1) := by decide +kernel
theorem d_Pattern_standsAt_31 : decode b_Pattern_standsAt 31 = .ok (.iadd, 1) := by decide +kernel
theorem d_Pattern_standsAt_32 : decode b_Pattern_standsAt 32 = .ok (.istore 7, 2) := by decide +kernel
theorem d_Pattern_standsAt_34 : decode b_Pattern_standsAt 34 = .ok (.iload 6, 2) := by decide +kernel
theorem d_Pattern_standsAt_36 : decode b_Pattern_standsAt 36 = .ok (.iconst (-1), 1) := by decide +kernel
theorem d_Pattern_standsAt_37 : decode b_Pattern_standsAt 37 = .ok (.if_icmp .eq 38, 3) := by decide +kernel
theorem d_Pattern_standsAt_40 : decode b_Pattern_standsAt 40 = .ok (.iload 7, 2) := by decide +kernel
theorem d_Pattern_standsAt_42 : decode b_Pattern_standsAt 42 = .ok (.ifCond .lt 33, 3) := by decide +kernel
theorem d_Pattern_standsAt_45 : decode b_Pattern_standsAt 45 = .ok (.iload 7, 2) := by decide +kernel
theorem d_Pattern_standsAt_47 : decode b_Pattern_standsAt 47 = .ok (.aload_n 0, 1) := by decide +kernel
theorem d_Pattern_standsAt_48 : decode b_Pattern_standsAt 48 = .ok (.getfield 26, 3) := by decide +kernel
theorem d_Pattern_standsAt_51 : decode b_Pattern_standsAt 51 = .ok (.arraylength, 1) := by decide +kernel
theorem d_Pattern_standsAt_52 : decode b_Pattern_standsAt 52 = .ok (.if_icmp .ge 23, 3) := by decide +kernel
theorem d_Pattern_standsAt_55 : decode b_Pattern_standsAt 55 = .ok (.aload_n 0, 1) := by decide +kernel
theorem d_Pattern_standsAt_56 : decode b_Pattern_standsAt 56 = .ok (.getfield 26, 3) := by decide +kernel
theorem d_Pattern_standsAt_59 : decode b_Pattern_standsAt 59 = .ok (.iload 7, 2) := by decide +kernel
theorem d_Pattern_standsAt_61 : decode b_Pattern_standsAt 61 = .ok (.laload, 1) := by decide +kernel
theorem d_Pattern_standsAt_62 : decode b_Pattern_standsAt 62 = .ok (.iload 6, 2) := by decide +kernel
theorem d_Pattern_standsAt_64 : decode b_Pattern_standsAt 64 = .ok (.bipush 63, 2) := by decide +kernel
theorem d_Pattern_standsAt_66 : decode b_Pattern_standsAt 66 = .ok (.iand, 1) := by decide +kernel
theorem d_Pattern_standsAt_67 : decode b_Pattern_standsAt 67 = .ok (.lushr, 1) := by decide +kernel
theorem d_Pattern_standsAt_68 : decode b_Pattern_standsAt 68 = .ok (.lconst 1, 1) := by decide +kernel
theorem d_Pattern_standsAt_69 : decode b_Pattern_standsAt 69 = .ok (.land, 1) := by decide +kernel
theorem d_Pattern_standsAt_70 : decode b_Pattern_standsAt 70 = .ok (.lconst 0, 1) := by decide +kernel
theorem d_Pattern_standsAt_71 : decode b_Pattern_standsAt 71 = .ok (.lcmp, 1) := by decide +kernel
theorem d_Pattern_standsAt_72 : decode b_Pattern_standsAt 72 = .ok (.ifCond .ne 5, 3) := by decide +kernel
theorem d_Pattern_standsAt_75 : decode b_Pattern_standsAt 75 = .ok (.iconst 0, 1) := by decide +kernel
theorem d_Pattern_standsAt_76 : decode b_Pattern_standsAt 76 = .ok (.ireturn, 1) := by decide +kernel
theorem d_Pattern_standsAt_77 : decode b_Pattern_standsAt 77 = .ok (.iinc 5 1, 3) := by decide +kernel
theorem d_Pattern_standsAt_80 : decode b_Pattern_standsAt 80 = .ok (.goto (-77), 3) := by decide +kernel
theorem d_Pattern_standsAt_83 : decode b_Pattern_standsAt 83 = .ok (.iconst 1, 1) := by decide +kernel
theorem d_Pattern_standsAt_84 : decode b_Pattern_standsAt 84 = .ok (.ireturn, 1) := by decide +kernel
