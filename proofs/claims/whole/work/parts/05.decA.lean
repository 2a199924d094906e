theorem d_Bytes_init_0 : decode b_Bytes_init 0 = .ok (.aload_n 0, 1) := by decide +kernel
theorem d_Bytes_init_1 : decode b_Bytes_init 1 = .ok (.invokespecial 3, 3) := by decide +kernel
theorem d_Bytes_init_4 : decode b_Bytes_init 4 = .ok (.aload_n 0, 1) := by decide +kernel
theorem d_Bytes_init_5 : decode b_Bytes_init 5 = .ok (.iconst 0, 1) := by decide +kernel
theorem d_Bytes_init_6 : decode b_Bytes_init 6 = .ok (.iload_n 1, 1) := by decide +kernel
theorem d_Bytes_init_7 : decode b_Bytes_init 7 = .ok (.invokestatic 9, 3) := by decide +kernel
theorem d_Bytes_init_10 : decode b_Bytes_init 10 = .ok (.putfield 15, 3) := by decide +kernel
theorem d_Bytes_init_13 : decode b_Bytes_init 13 = .ok (.aload_n 0, 1) := by decide +kernel
theorem d_Bytes_init_14 : decode b_Bytes_init 14 = .ok (.aload_n 0, 1) := by decide +kernel
theorem d_Bytes_init_15 : decode b_Bytes_init 15 = .ok (.getfield 15, 3) := by decide +kernel
theorem d_Bytes_init_18 : decode b_Bytes_init 18 = .ok (.bipush 64, 2) := by decide +kernel
theorem d_Bytes_init_20 : decode b_Bytes_init 20 = .ok (.invokestatic 21, 3) := by decide +kernel
theorem d_Bytes_init_23 : decode b_Bytes_init 23 = .ok (.newarray .byte, 2) := by decide +kernel
theorem d_Bytes_init_25 : decode b_Bytes_init 25 = .ok (.putfield 24, 3) := by decide +kernel
theorem d_Bytes_init_28 : decode b_Bytes_init 28 = .ok (.aload_n 0, 1) := by decide +kernel
theorem d_Bytes_init_29 : decode b_Bytes_init 29 = .ok (.iconst 0, 1) := by decide +kernel
theorem d_Bytes_init_30 : decode b_Bytes_init 30 = .ok (.putfield 28, 3) := by decide +kernel
theorem d_Bytes_init_33 : decode b_Bytes_init 33 = .ok (.return_, 1) := by decide +kernel
theorem d_Bytes_size_0 : decode b_Bytes_size 0 = .ok (.aload_n 0, 1) := by decide +kernel
theorem d_Bytes_size_1 : decode b_Bytes_size 1 = .ok (.getfield 28, 3) := by decide +kernel
theorem d_Bytes_size_4 : decode b_Bytes_size 4 = .ok (.ireturn, 1) := by decide +kernel
theorem d_Bytes_at_0 : decode b_Bytes_at 0 = .ok (.iload_n 1, 1) := by decide +kernel
theorem d_Bytes_at_1 : decode b_Bytes_at 1 = .ok (.ifCond .lt 33, 3) := by decide +kernel
theorem d_Bytes_at_4 : decode b_Bytes_at 4 = .ok (.iload_n 1, 1) := by decide +kernel
theorem d_Bytes_at_5 : decode b_Bytes_at 5 = .ok (.aload_n 0, 1) := by decide +kernel
theorem d_Bytes_at_6 : decode b_Bytes_at 6 = .ok (.getfield 28, 3) := by decide +kernel
theorem d_Bytes_at_9 : decode b_Bytes_at 9 = .ok (.if_icmp .ge 25, 3) := by decide +kernel
theorem d_Bytes_at_12 : decode b_Bytes_at 12 = .ok (.iload_n 1, 1) := by decide +kernel
theorem d_Bytes_at_13 : decode b_Bytes_at 13 = .ok (.aload_n 0, 1) := by decide +kernel
theorem d_Bytes_at_14 : decode b_Bytes_at 14 = .ok (.getfield 24, 3) := by decide +kernel
theorem d_Bytes_at_17 : decode b_Bytes_at 17 = .ok (.arraylength, 1) := by decide +kernel
theorem d_Bytes_at_18 : decode b_Bytes_at 18 = .ok (.if_icmp .ge 16, 3) := by decide +kernel
theorem d_Bytes_at_21 : decode b_Bytes_at 21 = .ok (.aload_n 0, 1) := by decide +kernel
theorem d_Bytes_at_22 : decode b_Bytes_at 22 = .ok (.getfield 24, 3) := by decide +kernel
theorem d_Bytes_at_25 : decode b_Bytes_at 25 = .ok (.iload_n 1, 1) := by decide +kernel
theorem d_Bytes_at_26 : decode b_Bytes_at 26 = .ok (.baload, 1) := by decide +kernel
theorem d_Bytes_at_27 : decode b_Bytes_at 27 = .ok (.sipush 255, 3) := by decide +kernel
theorem d_Bytes_at_30 : decode b_Bytes_at 30 = .ok (.iand, 1) := by decide +kernel
theorem d_Bytes_at_31 : decode b_Bytes_at 31 = .ok (.goto 4, 3) := by decide +kernel
theorem d_Bytes_at_34 : decode b_Bytes_at 34 = .ok (.iconst (-1), 1) := by decide +kernel
theorem d_Bytes_at_35 : decode b_Bytes_at 35 = .ok (.ireturn, 1) := by decide +kernel
theorem d_Bytes_hasRoomFor_0 : decode b_Bytes_hasRoomFor 0 = .ok (.iload_n 1, 1) := by decide +kernel
theorem d_Bytes_hasRoomFor_1 : decode b_Bytes_hasRoomFor 1 = .ok (.aload_n 0, 1) := by decide +kernel
theorem d_Bytes_hasRoomFor_2 : decode b_Bytes_hasRoomFor 2 = .ok (.getfield 15, 3) := by decide +kernel
theorem d_Bytes_hasRoomFor_5 : decode b_Bytes_hasRoomFor 5 = .ok (.aload_n 0, 1) := by decide +kernel
theorem d_Bytes_hasRoomFor_6 : decode b_Bytes_hasRoomFor 6 = .ok (.getfield 28, 3) := by decide +kernel
theorem d_Bytes_hasRoomFor_9 : decode b_Bytes_hasRoomFor 9 = .ok (.isub, 1) := by decide +kernel
theorem d_Bytes_hasRoomFor_10 : decode b_Bytes_hasRoomFor 10 = .ok (.if_icmp .gt 7, 3) := by decide +kernel
theorem d_Bytes_hasRoomFor_13 : decode b_Bytes_hasRoomFor 13 = .ok (.iconst 1, 1) := by decide +kernel
theorem d_Bytes_hasRoomFor_14 : decode b_Bytes_hasRoomFor 14 = .ok (.goto 4, 3) := by decide +kernel
theorem d_Bytes_hasRoomFor_17 : decode b_Bytes_hasRoomFor 17 = .ok (.iconst 0, 1) := by decide +kernel
theorem d_Bytes_hasRoomFor_18 : decode b_Bytes_hasRoomFor 18 = .ok (.ireturn, 1) := by decide +kernel
theorem d_Bytes_firstZero_0 : decode b_Bytes_firstZero 0 = .ok (.iconst 0, 1) := by decide +kernel
theorem d_Bytes_firstZero_1 : decode b_Bytes_firstZero 1 = .ok (.istore_n 1, 1) := by decide +kernel
theorem d_Bytes_firstZero_2 : decode b_Bytes_firstZero 2 = .ok (.iload_n 1, 1) := by decide +kernel
theorem d_Bytes_firstZero_3 : decode b_Bytes_firstZero 3 = .ok (.aload_n 0, 1) := by decide +kernel
theorem d_Bytes_firstZero_4 : decode b_Bytes_firstZero 4 = .ok (.getfield 28, 3) := by decide +kernel
theorem d_Bytes_firstZero_7 : decode b_Bytes_firstZero 7 = .ok (.if_icmp .ge 19, 3) := by decide +kernel
theorem d_Bytes_firstZero_10 : decode b_Bytes_firstZero 10 = .ok (.aload_n 0, 1) := by decide +kernel
theorem d_Bytes_firstZero_11 : decode b_Bytes_firstZero 11 = .ok (.iload_n 1, 1) := by decide +kernel
theorem d_Bytes_firstZero_12 : decode b_Bytes_firstZero 12 = .ok (.invokevirtual 31, 3) := by decide +kernel
theorem d_Bytes_firstZero_15 : decode b_Bytes_firstZero 15 = .ok (.ifCond .ne 5, 3) := by decide +kernel
theorem d_Bytes_firstZero_18 : decode b_Bytes_firstZero 18 = .ok (.iload_n 1, 1) := by decide +kernel
theorem d_Bytes_firstZero_19 : decode b_Bytes_firstZero 19 = .ok (.ireturn, 1) := by decide +kernel
theorem d_Bytes_firstZero_20 : decode b_Bytes_firstZero 20 = .ok (.iinc 1 1, 3) := by decide +kernel
theorem d_Bytes_firstZero_23 : decode b_Bytes_firstZero 23 = .ok (.goto (-21), 3) := by decide +kernel
theorem d_Bytes_firstZero_26 : decode b_Bytes_firstZero 26 = .ok (.iconst (-1), 1) := by decide +kernel
theorem d_Bytes_firstZero_27 : decode b_Bytes_firstZero 27 = .ok (.ireturn, 1) := by decide +kernel
theorem d_Bytes_clear_0 : decode b_Bytes_clear 0 = .ok (.aload_n 0, 1) := by decide +kernel
theorem d_Bytes_clear_1 : decode b_Bytes_clear 1 = .ok (.iconst 0, 1) := by decide +kernel
theorem d_Bytes_clear_2 : decode b_Bytes_clear 2 = .ok (.putfield 28, 3) := by decide +kernel
theorem d_Bytes_clear_5 : decode b_Bytes_clear 5 = .ok (.return_, 1) := by decide +kernel
theorem d_Bytes_keepFirst_0 : decode b_Bytes_keepFirst 0 = .ok (.iload_n 1, 1) := by decide +kernel
theorem d_Bytes_keepFirst_1 : decode b_Bytes_keepFirst 1 = .ok (.ifCond .lt 11, 3) := by decide +kernel
theorem d_Bytes_keepFirst_4 : decode b_Bytes_keepFirst 4 = .ok (.iload_n 1, 1) := by decide +kernel
theorem d_Bytes_keepFirst_5 : decode b_Bytes_keepFirst 5 = .ok (.aload_n 0, 1) := by decide +kernel
theorem d_Bytes_keepFirst_6 : decode b_Bytes_keepFirst 6 = .ok (.getfield 28, 3) := by decide +kernel
theorem d_Bytes_keepFirst_9 : decode b_Bytes_keepFirst 9 = .ok (.if_icmp .le 5, 3) := by decide +kernel
theorem d_Bytes_keepFirst_12 : decode b_Bytes_keepFirst 12 = .ok (.iconst 0, 1) := by decide +kernel
theorem d_Bytes_keepFirst_13 : decode b_Bytes_keepFirst 13 = .ok (.ireturn, 1) := by decide +kernel
theorem d_Bytes_keepFirst_14 : decode b_Bytes_keepFirst 14 = .ok (.aload_n 0, 1) := by decide +kernel
theorem d_Bytes_keepFirst_15 : decode b_Bytes_keepFirst 15 = .ok (.iload_n 1, 1) := by decide +kernel
theorem d_Bytes_keepFirst_16 : decode b_Bytes_keepFirst 16 = .ok (.putfield 28, 3) := by decide +kernel
theorem d_Bytes_keepFirst_19 : decode b_Bytes_keepFirst 19 = .ok (.iconst 1, 1) := by decide +kernel
theorem d_Bytes_keepFirst_20 : decode b_Bytes_keepFirst 20 = .ok (.ireturn, 1) := by decide +kernel
theorem d_Bytes_dropFirst_0 : decode b_Bytes_dropFirst 0 = .ok (.iload_n 1, 1) := by decide +kernel
theorem d_Bytes_dropFirst_1 : decode b_Bytes_dropFirst 1 = .ok (.ifCond .lt 11, 3) := by decide +kernel
theorem d_Bytes_dropFirst_4 : decode b_Bytes_dropFirst 4 = .ok (.iload_n 1, 1) := by decide +kernel
theorem d_Bytes_dropFirst_5 : decode b_Bytes_dropFirst 5 = .ok (.aload_n 0, 1) := by decide +kernel
theorem d_Bytes_dropFirst_6 : decode b_Bytes_dropFirst 6 = .ok (.getfield 28, 3) := by decide +kernel
theorem d_Bytes_dropFirst_9 : decode b_Bytes_dropFirst 9 = .ok (.if_icmp .le 5, 3) := by decide +kernel
theorem d_Bytes_dropFirst_12 : decode b_Bytes_dropFirst 12 = .ok (.iconst 0, 1) := by decide +kernel
theorem d_Bytes_dropFirst_13 : decode b_Bytes_dropFirst 13 = .ok (.ireturn, 1) := by decide +kernel
theorem d_Bytes_dropFirst_14 : decode b_Bytes_dropFirst 14 = .ok (.aload_n 0, 1) := by decide +kernel
theorem d_Bytes_dropFirst_15 : decode b_Bytes_dropFirst 15 = .ok (.getfield 24, 3) := by decide +kernel
theorem d_Bytes_dropFirst_18 : decode b_Bytes_dropFirst 18 = .ok (.iload_n 1, 1) := by decide +kernel
theorem d_Bytes_dropFirst_19 : decode b_Bytes_dropFirst 19 = .ok (.aload_n 0, 1) := by decide +kernel
theorem d_Bytes_dropFirst_20 : decode b_Bytes_dropFirst 20 = .ok (.getfield 24, 3) := by decide +kernel
theorem d_Bytes_dropFirst_23 : decode b_Bytes_dropFirst 23 = .ok (.iconst 0, 1) := by decide +kernel
theorem d_Bytes_dropFirst_24 : decode b_Bytes_dropFirst 24 = .ok (.aload_n 0, 1) := by decide +kernel
theorem d_Bytes_dropFirst_25 : decode b_Bytes_dropFirst 25 = .ok (.getfield 28, 3) := by decide +kernel
theorem d_Bytes_dropFirst_28 : decode b_Bytes_dropFirst 28 = .ok (.iload_n 1, 1) := by decide +kernel
theorem d_Bytes_dropFirst_29 : decode b_Bytes_dropFirst 29 = .ok (.isub, 1) := by decide +kernel
theorem d_Bytes_dropFirst_30 : decode b_Bytes_dropFirst 30 = .ok (.invokestatic 35, 3) := by decide +kernel
theorem d_Bytes_dropFirst_33 : decode b_Bytes_dropFirst 33 = .ok (.aload_n 0, 1) := by decide +kernel
theorem d_Bytes_dropFirst_34 : decode b_Bytes_dropFirst 34 = .ok (.dup, 1) := by decide +kernel
theorem d_Bytes_dropFirst_35 : decode b_Bytes_dropFirst 35 = .ok (.getfield 28, 3) := by decide +kernel
theorem d_Bytes_dropFirst_38 : decode b_Bytes_dropFirst 38 = .ok (.iload_n 1, 1) := by decide +kernel
theorem d_Bytes_dropFirst_39 : decode b_Bytes_dropFirst 39 = .ok (.isub, 1) := by decide +kernel
theorem d_Bytes_dropFirst_40 : decode b_Bytes_dropFirst 40 = .ok (.putfield 28, 3) := by decide +kernel
theorem d_Bytes_dropFirst_43 : decode b_Bytes_dropFirst 43 = .ok (.iconst 1, 1) := by decide +kernel
theorem d_Bytes_dropFirst_44 : decode b_Bytes_dropFirst 44 = .ok (.ireturn, 1) := by decide +kernel
theorem d_Bytes_append_0 : decode b_Bytes_append 0 = .ok (.aload_n 0, 1) := by decide +kernel
theorem d_Bytes_append_1 : decode b_Bytes_append 1 = .ok (.getfield 28, 3) := by decide +kernel
theorem d_Bytes_append_4 : decode b_Bytes_append 4 = .ok (.aload_n 0, 1) := by decide +kernel
theorem d_Bytes_append_5 : decode b_Bytes_append 5 = .ok (.getfield 15, 3) := by decide +kernel
theorem d_Bytes_append_8 : decode b_Bytes_append 8 = .ok (.if_icmp .lt 4, 3) := by decide +kernel
theorem d_Bytes_append_11 : decode b_Bytes_append 11 = .ok (.return_, 1) := by decide +kernel
theorem d_Bytes_append_12 : decode b_Bytes_append 12 = .ok (.aload_n 0, 1) := by decide +kernel
theorem d_Bytes_append_13 : decode b_Bytes_append 13 = .ok (.getfield 28, 3) := by decide +kernel
theorem d_Bytes_append_16 : decode b_Bytes_append 16 = .ok (.aload_n 0, 1) := by decide +kernel
theorem d_Bytes_append_17 : decode b_Bytes_append 17 = .ok (.getfield 24, 3) := by decide +kernel
theorem d_Bytes_append_20 : decode b_Bytes_append 20 = .ok (.arraylength, 1) := by decide +kernel
theorem d_Bytes_append_21 : decode b_Bytes_append 21 = .ok (.if_icmp .lt 30, 3) := by decide +kernel
theorem d_Bytes_append_24 : decode b_Bytes_append 24 = .ok (.aload_n 0, 1) := by decide +kernel
theorem d_Bytes_append_25 : decode b_Bytes_append 25 = .ok (.aload_n 0, 1) := by decide +kernel
theorem d_Bytes_append_26 : decode b_Bytes_append 26 = .ok (.getfield 24, 3) := by decide +kernel
theorem d_Bytes_append_29 : decode b_Bytes_append 29 = .ok (.aload_n 0, 1) := by decide +kernel
theorem d_Bytes_append_30 : decode b_Bytes_append 30 = .ok (.getfield 15, 3) := by decide +kernel
theorem d_Bytes_append_33 : decode b_Bytes_append 33 = .ok (.aload_n 0, 1) := by decide +kernel
theorem d_Bytes_append_34 : decode b_Bytes_append 34 = .ok (.getfield 28, 3) := by decide +kernel
theorem d_Bytes_append_37 : decode b_Bytes_append 37 = .ok (.aload_n 0, 1) := by decide +kernel
theorem d_Bytes_append_38 : decode b_Bytes_append 38 = .ok (.getfield 28, 3) := by decide +kernel
theorem d_Bytes_append_41 : decode b_Bytes_append 41 = .ok (.iadd, 1) := by decide +kernel
theorem d_Bytes_append_42 : decode b_Bytes_append 42 = .ok (.invokestatic 21, 3) := by decide +kernel
theorem d_Bytes_append_45 : decode b_Bytes_append 45 = .ok (.invokestatic 41, 3) := by decide +kernel
theorem d_Bytes_append_48 : decode b_Bytes_append 48 = .ok (.putfield 24, 3) := by decide +kernel
theorem d_Bytes_append_51 : decode b_Bytes_append 51 = .ok (.aload_n 0, 1) := by decide +kernel
theorem d_Bytes_append_52 : decode b_Bytes_append 52 = .ok (.getfield 28, 3) := by decide +kernel
theorem d_Bytes_append_55 : decode b_Bytes_append 55 = .ok (.aload_n 0, 1) := by decide +kernel
theorem d_Bytes_append_56 : decode b_Bytes_append 56 = .ok (.getfield 24, 3) := by decide +kernel
theorem d_Bytes_append_59 : decode b_Bytes_append 59 = .ok (.arraylength, 1) := by decide +kernel
theorem d_Bytes_append_60 : decode b_Bytes_append 60 = .ok (.if_icmp .ge 24, 3) := by decide +kernel
theorem d_Bytes_append_63 : decode b_Bytes_append 63 = .ok (.aload_n 0, 1) := by decide +kernel
theorem d_Bytes_append_64 : decode b_Bytes_append 64 = .ok (.getfield 24, 3) := by decide +kernel
theorem d_Bytes_append_67 : decode b_Bytes_append 67 = .ok (.aload_n 0, 1) := by decide +kernel
theorem d_Bytes_append_68 : decode b_Bytes_append 68 = .ok (.getfield 28, 3) := by decide +kernel
theorem d_Bytes_append_71 : decode b_Bytes_append 71 = .ok (.iload_n 1, 1) := by decide +kernel
theorem d_Bytes_append_72 : decode b_Bytes_append 72 = .ok (.i2b, 1) := by decide +kernel
theorem d_Bytes_append_73 : decode b_Bytes_append 73 = .ok (.bastore, 1) := by decide +kernel
theorem d_Bytes_append_74 : decode b_Bytes_append 74 = .ok (.aload_n 0, 1) := by decide +kernel
theorem d_Bytes_append_75 : decode b_Bytes_append 75 = .ok (.dup, 1) := by decide +kernel
theorem d_Bytes_append_76 : decode b_Bytes_append 76 = .ok (.getfield 28, 3) := by decide +kernel
theorem d_Bytes_append_79 : decode b_Bytes_append 79 = .ok (.iconst 1, 1) := by decide +kernel
theorem d_Bytes_append_80 : decode b_Bytes_append 80 = .ok (.iadd, 1) := by decide +kernel
theorem d_Bytes_append_81 : decode b_Bytes_append 81 = .ok (.putfield 28, 3) := by decide +kernel
theorem d_Bytes_append_84 : decode b_Bytes_append 84 = .ok (.return_, 1) := by decide +kernel
theorem d_Bytes_appendNumber_0 : decode b_Bytes_appendNumber 0 = .ok (.aload_n 0, 1) := by decide +kernel
theorem d_Bytes_appendNumber_1 : decode b_Bytes_appendNumber 1 = .ok (.iload_n 1, 1) := by decide +kernel
theorem d_Bytes_appendNumber_2 : decode b_Bytes_appendNumber 2 = .ok (.bipush 24, 2) := by decide +kernel
theorem d_Bytes_appendNumber_4 : decode b_Bytes_appendNumber 4 = .ok (.iushr, 1) := by decide +kernel
theorem d_Bytes_appendNumber_5 : decode b_Bytes_appendNumber 5 = .ok (.invokevirtual 47, 3) := by decide +kernel
theorem d_Bytes_appendNumber_8 : decode b_Bytes_appendNumber 8 = .ok (.aload_n 0, 1) := by decide +kernel
theorem d_Bytes_appendNumber_9 : decode b_Bytes_appendNumber 9 = .ok (.iload_n 1, 1) := by decide +kernel
theorem d_Bytes_appendNumber_10 : decode b_Bytes_appendNumber 10 = .ok (.bipush 16, 2) := by decide +kernel
theorem d_Bytes_appendNumber_12 : decode b_Bytes_appendNumber 12 = .ok (.iushr, 1) := by decide +kernel
theorem d_Bytes_appendNumber_13 : decode b_Bytes_appendNumber 13 = .ok (.invokevirtual 47, 3) := by decide +kernel
theorem d_Bytes_appendNumber_16 : decode b_Bytes_appendNumber 16 = .ok (.aload_n 0, 1) := by decide +kernel
theorem d_Bytes_appendNumber_17 : decode b_Bytes_appendNumber 17 = .ok (.iload_n 1, 1) := by decide +kernel
theorem d_Bytes_appendNumber_18 : decode b_Bytes_appendNumber 18 = .ok (.bipush 8, 2) := by decide +kernel
theorem d_Bytes_appendNumber_20 : decode b_Bytes_appendNumber 20 = .ok (.iushr, 1) := by decide +kernel
theorem d_Bytes_appendNumber_21 : decode b_Bytes_appendNumber 21 = .ok (.invokevirtual 47, 3) := by decide +kernel
theorem d_Bytes_appendNumber_24 : decode b_Bytes_appendNumber 24 = .ok (.aload_n 0, 1) := by decide +kernel
theorem d_Bytes_appendNumber_25 : decode b_Bytes_appendNumber 25 = .ok (.iload_n 1, 1) := by decide +kernel
theorem d_Bytes_appendNumber_26 : decode b_Bytes_appendNumber 26 = .ok (.invokevirtual 47, 3) := by decide +kernel
theorem d_Bytes_appendNumber_29 : decode b_Bytes_appendNumber 29 = .ok (.return_, 1) := by decide +kernel
theorem d_Bytes_appendAll_0 : decode b_Bytes_appendAll 0 = .ok (.iconst 0, 1) := by decide +kernel
theorem d_Bytes_appendAll_1 : decode b_Bytes_appendAll 1 = .ok (.istore_n 2, 1) := by decide +kernel
theorem d_Bytes_appendAll_2 : decode b_Bytes_appendAll 2 = .ok (.iload_n 2, 1) := by decide +kernel
theorem d_Bytes_appendAll_3 : decode b_Bytes_appendAll 3 = .ok (.aload_n 1, 1) := by decide +kernel
theorem d_Bytes_appendAll_4 : decode b_Bytes_appendAll 4 = .ok (.invokevirtual 51, 3) := by decide +kernel
theorem d_Bytes_appendAll_7 : decode b_Bytes_appendAll 7 = .ok (.if_icmp .ge 18, 3) := by decide +kernel
theorem d_Bytes_appendAll_10 : decode b_Bytes_appendAll 10 = .ok (.aload_n 0, 1) := by decide +kernel
theorem d_Bytes_appendAll_11 : decode b_Bytes_appendAll 11 = .ok (.aload_n 1, 1) := by decide +kernel
theorem d_Bytes_appendAll_12 : decode b_Bytes_appendAll 12 = .ok (.iload_n 2, 1) := by decide +kernel
theorem d_Bytes_appendAll_13 : decode b_Bytes_appendAll 13 = .ok (.invokevirtual 31, 3) := by decide +kernel
theorem d_Bytes_appendAll_16 : decode b_Bytes_appendAll 16 = .ok (.invokevirtual 47, 3) := by decide +kernel
theorem d_Bytes_appendAll_19 : decode b_Bytes_appendAll 19 = .ok (.iinc 2 1, 3) := by decide +kernel
theorem d_Bytes_appendAll_22 : decode b_Bytes_appendAll 22 = .ok (.goto (-20), 3) := by decide +kernel
theorem d_Bytes_appendAll_25 : decode b_Bytes_appendAll 25 = .ok (.return_, 1) := by decide +kernel
theorem d_Bytes_copyFrom_0 : decode b_Bytes_copyFrom 0 = .ok (.new 16, 3) := by decide +kernel
theorem d_Bytes_copyFrom_3 : decode b_Bytes_copyFrom 3 = .ok (.dup, 1) := by decide +kernel
theorem d_Bytes_copyFrom_4 : decode b_Bytes_copyFrom 4 = .ok (.iload_n 2, 1) := by decide +kernel
theorem d_Bytes_copyFrom_5 : decode b_Bytes_copyFrom 5 = .ok (.invokespecial 54, 3) := by decide +kernel
theorem d_Bytes_copyFrom_8 : decode b_Bytes_copyFrom 8 = .ok (.astore_n 3, 1) := by decide +kernel
theorem d_Bytes_copyFrom_9 : decode b_Bytes_copyFrom 9 = .ok (.iconst 0, 1) := by decide +kernel
theorem d_Bytes_copyFrom_10 : decode b_Bytes_copyFrom 10 = .ok (.iload_n 1, 1) := by decide +kernel
theorem d_Bytes_copyFrom_11 : decode b_Bytes_copyFrom 11 = .ok (.invokestatic 9, 3) := by decide +kernel
theorem d_Bytes_copyFrom_14 : decode b_Bytes_copyFrom 14 = .ok (.istore 4, 2) := by decide +kernel
theorem d_Bytes_copyFrom_16 : decode b_Bytes_copyFrom 16 = .ok (.iload 4, 2) := by decide +kernel
theorem d_Bytes_copyFrom_18 : decode b_Bytes_copyFrom 18 = .ok (.aload_n 0, 1) := by decide +kernel
theorem d_Bytes_copyFrom_19 : decode b_Bytes_copyFrom 19 = .ok (.getfield 28, 3) := by decide +kernel
theorem d_Bytes_copyFrom_22 : decode b_Bytes_copyFrom 22 = .ok (.if_icmp .ge 19, 3) := by decide +kernel
theorem d_Bytes_copyFrom_25 : decode b_Bytes_copyFrom 25 = .ok (.aload_n 3, 1) := by decide +kernel
theorem d_Bytes_copyFrom_26 : decode b_Bytes_copyFrom 26 = .ok (.aload_n 0, 1) := by decide +kernel
theorem d_Bytes_copyFrom_27 : decode b_Bytes_copyFrom 27 = .ok (.iload 4, 2) := by decide +kernel
theorem d_Bytes_copyFrom_29 : decode b_Bytes_copyFrom 29 = .ok (.invokevirtual 31, 3) := by decide +kernel
theorem d_Bytes_copyFrom_32 : decode b_Bytes_copyFrom 32 = .ok (.invokevirtual 47, 3) := by decide +kernel
theorem d_Bytes_copyFrom_35 : decode b_Bytes_copyFrom 35 = .ok (.iinc 4 1, 3) := by decide +kernel
theorem d_Bytes_copyFrom_38 : decode b_Bytes_copyFrom 38 = .ok (.goto (-22), 3) := by decide +kernel
theorem d_Bytes_copyFrom_41 : decode b_Bytes_copyFrom 41 = .ok (.aload_n 3, 1) := by decide +kernel
theorem d_Bytes_copyFrom_42 : decode b_Bytes_copyFrom 42 = .ok (.areturn, 1) := by decide +kernel
theorem d_Coming_init_0 : decode b_Coming_init 0 = .ok (.aload_n 0, 1) := by decide +kernel
theorem d_Coming_init_1 : decode b_Coming_init 1 = .ok (.invokespecial 3, 3) := by decide +kernel
theorem d_Coming_init_4 : decode b_Coming_init 4 = .ok (.aload_n 0, 1) := by decide +kernel
theorem d_Coming_init_5 : decode b_Coming_init 5 = .ok (.bipush 64, 2) := by decide +kernel
theorem d_Coming_init_7 : decode b_Coming_init 7 = .ok (.newarray .long, 2) := by decide +kernel
theorem d_Coming_init_9 : decode b_Coming_init 9 = .ok (.putfield 9, 3) := by decide +kernel
theorem d_Coming_init_12 : decode b_Coming_init 12 = .ok (.aload_n 0, 1) := by decide +kernel
theorem d_Coming_init_13 : decode b_Coming_init 13 = .ok (.bipush 64, 2) := by decide +kernel
theorem d_Coming_init_15 : decode b_Coming_init 15 = .ok (.anewarray 15, 3) := by decide +kernel
theorem d_Coming_init_18 : decode b_Coming_init 18 = .ok (.putfield 17, 3) := by decide +kernel
theorem d_Coming_init_21 : decode b_Coming_init 21 = .ok (.aload_n 0, 1) := by decide +kernel
theorem d_Coming_init_22 : decode b_Coming_init 22 = .ok (.iconst 0, 1) := by decide +kernel
theorem d_Coming_init_23 : decode b_Coming_init 23 = .ok (.putfield 21, 3) := by decide +kernel
theorem d_Coming_init_26 : decode b_Coming_init 26 = .ok (.return_, 1) := by decide +kernel
theorem d_Coming_size_0 : decode b_Coming_size 0 = .ok (.aload_n 0, 1) := by decide +kernel
theorem d_Coming_size_1 : decode b_Coming_size 1 = .ok (.getfield 21, 3) := by decide +kernel
theorem d_Coming_size_4 : decode b_Coming_size 4 = .ok (.ireturn, 1) := by decide +kernel
theorem d_Coming_first_0 : decode b_Coming_first 0 = .ok (.aload_n 0, 1) := by decide +kernel
theorem d_Coming_first_1 : decode b_Coming_first 1 = .ok (.getfield 21, 3) := by decide +kernel
theorem d_Coming_first_4 : decode b_Coming_first 4 = .ok (.ifCond .le 12, 3) := by decide +kernel
theorem d_Coming_first_7 : decode b_Coming_first 7 = .ok (.aload_n 0, 1) := by decide +kernel
theorem d_Coming_first_8 : decode b_Coming_first 8 = .ok (.getfield 17, 3) := by decide +kernel
theorem d_Coming_first_11 : decode b_Coming_first 11 = .ok (.iconst 0, 1) := by decide +kernel
theorem d_Coming_first_12 : decode b_Coming_first 12 = .ok (.aaload, 1) := by decide +kernel
theorem d_Coming_first_13 : decode b_Coming_first 13 = .ok (.goto 4, 3) := by decide +kernel
theorem d_Coming_first_16 : decode b_Coming_first 16 = .ok (.aconst_null, 1) := by decide +kernel
theorem d_Coming_first_17 : decode b_Coming_first 17 = .ok (.areturn, 1) := by decide +kernel
theorem d_Coming_firstTime_0 : decode b_Coming_firstTime 0 = .ok (.aload_n 0, 1) := by decide +kernel
theorem d_Coming_firstTime_1 : decode b_Coming_firstTime 1 = .ok (.getfield 21, 3) := by decide +kernel
theorem d_Coming_firstTime_4 : decode b_Coming_firstTime 4 = .ok (.ifCond .le 12, 3) := by decide +kernel
theorem d_Coming_firstTime_7 : decode b_Coming_firstTime 7 = .ok (.aload_n 0, 1) := by decide +kernel
theorem d_Coming_firstTime_8 : decode b_Coming_firstTime 8 = .ok (.getfield 9, 3) := by decide +kernel
theorem d_Coming_firstTime_11 : decode b_Coming_firstTime 11 = .ok (.iconst 0, 1) := by decide +kernel
theorem d_Coming_firstTime_12 : decode b_Coming_firstTime 12 = .ok (.laload, 1) := by decide +kernel
theorem d_Coming_firstTime_13 : decode b_Coming_firstTime 13 = .ok (.goto 4, 3) := by decide +kernel
theorem d_Coming_firstTime_16 : decode b_Coming_firstTime 16 = .ok (.lconst 0, 1) := by decide +kernel
theorem d_Coming_firstTime_17 : decode b_Coming_firstTime 17 = .ok (.lreturn, 1) := by decide +kernel
theorem d_Coming_clear_0 : decode b_Coming_clear 0 = .ok (.aload_n 0, 1) := by decide +kernel
theorem d_Coming_clear_1 : decode b_Coming_clear 1 = .ok (.iconst 0, 1) := by decide +kernel
theorem d_Coming_clear_2 : decode b_Coming_clear 2 = .ok (.putfield 21, 3) := by decide +kernel
theorem d_Coming_clear_5 : decode b_Coming_clear 5 = .ok (.return_, 1) := by decide +kernel
theorem d_Coming_add_0 : decode b_Coming_add 0 = .ok (.aload_n 0, 1) := by decide +kernel
theorem d_Coming_add_1 : decode b_Coming_add 1 = .ok (.getfield 21, 3) := by decide +kernel
theorem d_Coming_add_4 : decode b_Coming_add 4 = .ok (.bipush 64, 2) := by decide +kernel
theorem d_Coming_add_6 : decode b_Coming_add 6 = .ok (.if_icmp .lt 4, 3) := by decide +kernel
theorem d_Coming_add_9 : decode b_Coming_add 9 = .ok (.return_, 1) := by decide +kernel
theorem d_Coming_add_10 : decode b_Coming_add 10 = .ok (.aload_n 0, 1) := by decide +kernel
theorem d_Coming_add_11 : decode b_Coming_add 11 = .ok (.getfield 21, 3) := by decide +kernel
theorem d_Coming_add_14 : decode b_Coming_add 14 = .ok (.istore 4, 2) := by decide +kernel
theorem d_Coming_add_16 : decode b_Coming_add 16 = .ok (.iload 4, 2) := by decide +kernel
theorem d_Coming_add_18 : decode b_Coming_add 18 = .ok (.ifCond .le 55, 3) := by decide +kernel
theorem d_Coming_add_21 : decode b_Coming_add 21 = .ok (.aload_n 0, 1) := by decide +kernel
theorem d_Coming_add_22 : decode b_Coming_add 22 = .ok (.getfield 9, 3) := by decide +kernel
theorem d_Coming_add_25 : decode b_Coming_add 25 = .ok (.iload 4, 2) := by decide +kernel
theorem d_Coming_add_27 : decode b_Coming_add 27 = .ok (.iconst 1, 1) := by decide +kernel
theorem d_Coming_add_28 : decode b_Coming_add 28 = .ok (.isub, 1) := by decide +kernel
theorem d_Coming_add_29 : decode b_Coming_add 29 = .ok (.laload, 1) := by decide +kernel
theorem d_Coming_add_30 : decode b_Coming_add 30 = .ok (.lload_n 1, 1) := by decide +kernel
theorem d_Coming_add_31 : decode b_Coming_add 31 = .ok (.lcmp, 1) := by decide +kernel
theorem d_Coming_add_32 : decode b_Coming_add 32 = .ok (.ifCond .le 41, 3) := by decide +kernel
theorem d_Coming_add_35 : decode b_Coming_add 35 = .ok (.aload_n 0, 1) := by decide +kernel
theorem d_Coming_add_36 : decode b_Coming_add 36 = .ok (.getfield 9, 3) := by decide +kernel
theorem d_Coming_add_39 : decode b_Coming_add 39 = .ok (.iload 4, 2) := by decide +kernel
theorem d_Coming_add_41 : decode b_Coming_add 41 = .ok (.aload_n 0, 1) := by decide +kernel
theorem d_Coming_add_42 : decode b_Coming_add 42 = .ok (.getfield 9, 3) := by decide +kernel
theorem d_Coming_add_45 : decode b_Coming_add 45 = .ok (.iload 4, 2) := by decide +kernel
theorem d_Coming_add_47 : decode b_Coming_add 47 = .ok (.iconst 1, 1) := by decide +kernel
theorem d_Coming_add_48 : decode b_Coming_add 48 = .ok (.isub, 1) := by decide +kernel
theorem d_Coming_add_49 : decode b_Coming_add 49 = .ok (.laload, 1) := by decide +kernel
theorem d_Coming_add_50 : decode b_Coming_add 50 = .ok (.lastore, 1) := by decide +kernel
theorem d_Coming_add_51 : decode b_Coming_add 51 = .ok (.aload_n 0, 1) := by decide +kernel
theorem d_Coming_add_52 : decode b_Coming_add 52 = .ok (.getfield 17, 3) := by decide +kernel
theorem d_Coming_add_55 : decode b_Coming_add 55 = .ok (.iload 4, 2) := by decide +kernel
theorem d_Coming_add_57 : decode b_Coming_add 57 = .ok (.aload_n 0, 1) := by decide +kernel
theorem d_Coming_add_58 : decode b_Coming_add 58 = .ok (.getfield 17, 3) := by decide +kernel
theorem d_Coming_add_61 : decode b_Coming_add 61 = .ok (.iload 4, 2) := by decide +kernel
theorem d_Coming_add_63 : decode b_Coming_add 63 = .ok (.iconst 1, 1) := by decide +kernel
theorem d_Coming_add_64 : decode b_Coming_add 64 = .ok (.isub, 1) := by decide +kernel
theorem d_Coming_add_65 : decode b_Coming_add 65 = .ok (.aaload, 1) := by decide +kernel
theorem d_Coming_add_66 : decode b_Coming_add 66 = .ok (.aastore, 1) := by decide +kernel
theorem d_Coming_add_67 : decode b_Coming_add 67 = .ok (.iinc 4 (-1), 3) := by decide +kernel
theorem d_Coming_add_70 : decode b_Coming_add 70 = .ok (.goto (-54), 3) := by decide +kernel
theorem d_Coming_add_73 : decode b_Coming_add 73 = .ok (.aload_n 0, 1) := by decide +kernel
theorem d_Coming_add_74 : decode b_Coming_add 74 = .ok (.getfield 9, 3) := by decide +kernel
theorem d_Coming_add_77 : decode b_Coming_add 77 = .ok (.iload 4, 2) := by decide +kernel
theorem d_Coming_add_79 : decode b_Coming_add 79 = .ok (.lload_n 1, 1) := by decide +kernel
theorem d_Coming_add_80 : decode b_Coming_add 80 = .ok (.lastore, 1) := by decide +kernel
theorem d_Coming_add_81 : decode b_Coming_add 81 = .ok (.aload_n 0, 1) := by decide +kernel
theorem d_Coming_add_82 : decode b_Coming_add 82 = .ok (.getfield 17, 3) := by decide +kernel
theorem d_Coming_add_85 : decode b_Coming_add 85 = .ok (.iload 4, 2) := by decide +kernel
theorem d_Coming_add_87 : decode b_Coming_add 87 = .ok (.aload_n 3, 1) := by decide +kernel
theorem d_Coming_add_88 : decode b_Coming_add 88 = .ok (.aastore, 1) := by decide +kernel
theorem d_Coming_add_89 : decode b_Coming_add 89 = .ok (.aload_n 0, 1) := by decide +kernel
theorem d_Coming_add_90 : decode b_Coming_add 90 = .ok (.dup, 1) := by decide +kernel
theorem d_Coming_add_91 : decode b_Coming_add 91 = .ok (.getfield 21, 3) := by decide +kernel
theorem d_Coming_add_94 : decode b_Coming_add 94 = .ok (.iconst 1, 1) := by decide +kernel
theorem d_Coming_add_95 : decode b_Coming_add 95 = .ok (.iadd, 1) := by decide +kernel
theorem d_Coming_add_96 : decode b_Coming_add 96 = .ok (.putfield 21, 3) := by decide +kernel
theorem d_Coming_add_99 : decode b_Coming_add 99 = .ok (.return_, 1) := by decide +kernel
theorem d_Coming_dropFirst_0 : decode b_Coming_dropFirst 0 = .ok (.aload_n 0, 1) := by decide +kernel
theorem d_Coming_dropFirst_1 : decode b_Coming_dropFirst 1 = .ok (.getfield 21, 3) := by decide +kernel
theorem d_Coming_dropFirst_4 : decode b_Coming_dropFirst 4 = .ok (.ifCond .gt 4, 3) := by decide +kernel
theorem d_Coming_dropFirst_7 : decode b_Coming_dropFirst 7 = .ok (.return_, 1) := by decide +kernel
theorem d_Coming_dropFirst_8 : decode b_Coming_dropFirst 8 = .ok (.iconst 1, 1) := by decide +kernel
theorem d_Coming_dropFirst_9 : decode b_Coming_dropFirst 9 = .ok (.istore_n 1, 1) := by decide +kernel
theorem d_Coming_dropFirst_10 : decode b_Coming_dropFirst 10 = .ok (.iload_n 1, 1) := by decide +kernel
theorem d_Coming_dropFirst_11 : decode b_Coming_dropFirst 11 = .ok (.aload_n 0, 1) := by decide +kernel
theorem d_Coming_dropFirst_12 : decode b_Coming_dropFirst 12 = .ok (.getfield 21, 3) := by decide +kernel
theorem d_Coming_dropFirst_15 : decode b_Coming_dropFirst 15 = .ok (.if_icmp .ge 37, 3) := by decide +kernel
theorem d_Coming_dropFirst_18 : decode b_Coming_dropFirst 18 = .ok (.aload_n 0, 1) := by decide +kernel
theorem d_Coming_dropFirst_19 : decode b_Coming_dropFirst 19 = .ok (.getfield 9, 3) := by decide +kernel
theorem d_Coming_dropFirst_22 : decode b_Coming_dropFirst 22 = .ok (.iload_n 1, 1) := by decide +kernel
theorem d_Coming_dropFirst_23 : decode b_Coming_dropFirst 23 = .ok (.iconst 1, 1) := by decide +kernel
theorem d_Coming_dropFirst_24 : decode b_Coming_dropFirst 24 = .ok (.isub, 1) := by decide +kernel
theorem d_Coming_dropFirst_25 : decode b_Coming_dropFirst 25 = .ok (.aload_n 0, 1) := by decide +kernel
theorem d_Coming_dropFirst_26 : decode b_Coming_dropFirst 26 = .ok (.getfield 9, 3) := by decide +kernel
theorem d_Coming_dropFirst_29 : decode b_Coming_dropFirst 29 = .ok (.iload_n 1, 1) := by decide +kernel
theorem d_Coming_dropFirst_30 : decode b_Coming_dropFirst 30 = .ok (.laload, 1) := by decide +kernel
theorem d_Coming_dropFirst_31 : decode b_Coming_dropFirst 31 = .ok (.lastore, 1) := by decide +kernel
theorem d_Coming_dropFirst_32 : decode b_Coming_dropFirst 32 = .ok (.aload_n 0, 1) := by decide +kernel
theorem d_Coming_dropFirst_33 : decode b_Coming_dropFirst 33 = .ok (.getfield 17, 3) := by decide +kernel
theorem d_Coming_dropFirst_36 : decode b_Coming_dropFirst 36 = .ok (.iload_n 1, 1) := by decide +kernel
theorem d_Coming_dropFirst_37 : decode b_Coming_dropFirst 37 = .ok (.iconst 1, 1) := by decide +kernel
theorem d_Coming_dropFirst_38 : decode b_Coming_dropFirst 38 = .ok (.isub, 1) := by decide +kernel
theorem d_Coming_dropFirst_39 : decode b_Coming_dropFirst 39 = .ok (.aload_n 0, 1) := by decide +kernel
theorem d_Coming_dropFirst_40 : decode b_Coming_dropFirst 40 = .ok (.getfield 17, 3) := by decide +kernel
theorem d_Coming_dropFirst_43 : decode b_Coming_dropFirst 43 = .ok (.iload_n 1, 1) := by decide +kernel
theorem d_Coming_dropFirst_44 : decode b_Coming_dropFirst 44 = .ok (.aaload, 1) := by decide +kernel
theorem d_Coming_dropFirst_45 : decode b_Coming_dropFirst 45 = .ok (.aastore, 1) := by decide +kernel
theorem d_Coming_dropFirst_46 : decode b_Coming_dropFirst 46 = .ok (.iinc 1 1, 3) := by decide +kernel
theorem d_Coming_dropFirst_49 : decode b_Coming_dropFirst 49 = .ok (.goto (-39), 3) := by decide +kernel
theorem d_Coming_dropFirst_52 : decode b_Coming_dropFirst 52 = .ok (.aload_n 0, 1) := by decide +kernel
theorem d_Coming_dropFirst_53 : decode b_Coming_dropFirst 53 = .ok (.dup, 1) := by decide +kernel
theorem d_Coming_dropFirst_54 : decode b_Coming_dropFirst 54 = .ok (.getfield 21, 3) := by decide +kernel
theorem d_Coming_dropFirst_57 : decode b_Coming_dropFirst 57 = .ok (.iconst 1, 1) := by decide +kernel
theorem d_Coming_dropFirst_58 : decode b_Coming_dropFirst 58 = .ok (.isub, 1) := by decide +kernel
theorem d_Coming_dropFirst_59 : decode b_Coming_dropFirst 59 = .ok (.putfield 21, 3) := by decide +kernel
theorem d_Coming_dropFirst_62 : decode b_Coming_dropFirst 62 = .ok (.return_, 1) := by decide +kernel
theorem d_Reader_init_0 : decode b_Reader_init 0 = .ok (.aload_n 0, 1) := by decide +kernel
theorem d_Reader_init_1 : decode b_Reader_init 1 = .ok (.invokespecial 3, 3) := by decide +kernel
theorem d_Reader_init_4 : decode b_Reader_init 4 = .ok (.aload_n 0, 1) := by decide +kernel
theorem d_Reader_init_5 : decode b_Reader_init 5 = .ok (.aload_n 1, 1) := by decide +kernel
theorem d_Reader_init_6 : decode b_Reader_init 6 = .ok (.putfield 9, 3) := by decide +kernel
theorem d_Reader_init_9 : decode b_Reader_init 9 = .ok (.aload_n 0, 1) := by decide +kernel
theorem d_Reader_init_10 : decode b_Reader_init 10 = .ok (.iload_n 2, 1) := by decide +kernel
theorem d_Reader_init_11 : decode b_Reader_init 11 = .ok (.putfield 15, 3) := by decide +kernel
theorem d_Reader_init_14 : decode b_Reader_init 14 = .ok (.aload_n 0, 1) := by decide +kernel
theorem d_Reader_init_15 : decode b_Reader_init 15 = .ok (.iconst 0, 1) := by decide +kernel
theorem d_Reader_init_16 : decode b_Reader_init 16 = .ok (.putfield 19, 3) := by decide +kernel
theorem d_Reader_init_19 : decode b_Reader_init 19 = .ok (.return_, 1) := by decide +kernel
theorem d_Reader_ahead_0 : decode b_Reader_ahead 0 = .ok (.aload_n 0, 1) := by decide +kernel
theorem d_Reader_ahead_1 : decode b_Reader_ahead 1 = .ok (.getfield 19, 3) := by decide +kernel
theorem d_Reader_ahead_4 : decode b_Reader_ahead 4 = .ok (.iload_n 1, 1) := by decide +kernel
theorem d_Reader_ahead_5 : decode b_Reader_ahead 5 = .ok (.iadd, 1) := by decide +kernel
theorem d_Reader_ahead_6 : decode b_Reader_ahead 6 = .ok (.aload_n 0, 1) := by decide +kernel
theorem d_Reader_ahead_7 : decode b_Reader_ahead 7 = .ok (.getfield 15, 3) := by decide +kernel
theorem d_Reader_ahead_10 : decode b_Reader_ahead 10 = .ok (.if_icmp .ge 19, 3) := by decide +kernel
theorem d_Reader_ahead_13 : decode b_Reader_ahead 13 = .ok (.aload_n 0, 1) := by decide +kernel
theorem d_Reader_ahead_14 : decode b_Reader_ahead 14 = .ok (.getfield 9, 3) := by decide +kernel
theorem d_Reader_ahead_17 : decode b_Reader_ahead 17 = .ok (.aload_n 0, 1) := by decide +kernel
theorem d_Reader_ahead_18 : decode b_Reader_ahead 18 = .ok (.getfield 19, 3) := by decide +kernel
theorem d_Reader_ahead_21 : decode b_Reader_ahead 21 = .ok (.iload_n 1, 1) := by decide +kernel
theorem d_Reader_ahead_22 : decode b_Reader_ahead 22 = .ok (.iadd, 1) := by decide +kernel
theorem d_Reader_ahead_23 : decode b_Reader_ahead 23 = .ok (.invokevirtual 22, 3) := by decide +kernel
theorem d_Reader_ahead_26 : decode b_Reader_ahead 26 = .ok (.goto 4, 3) := by decide +kernel
theorem d_Reader_ahead_29 : decode b_Reader_ahead 29 = .ok (.iconst (-1), 1) := by decide +kernel
theorem d_Reader_ahead_30 : decode b_Reader_ahead 30 = .ok (.ireturn, 1) := by decide +kernel
theorem d_Reader_skip_0 : decode b_Reader_skip 0 = .ok (.aload_n 0, 1) := by decide +kernel
theorem d_Reader_skip_1 : decode b_Reader_skip 1 = .ok (.dup, 1) := by decide +kernel
theorem d_Reader_skip_2 : decode b_Reader_skip 2 = .ok (.getfield 19, 3) := by decide +kernel
theorem d_Reader_skip_5 : decode b_Reader_skip 5 = .ok (.iconst 1, 1) := by decide +kernel
theorem d_Reader_skip_6 : decode b_Reader_skip 6 = .ok (.iadd, 1) := by decide +kernel
theorem d_Reader_skip_7 : decode b_Reader_skip 7 = .ok (.putfield 19, 3) := by decide +kernel
theorem d_Reader_skip_10 : decode b_Reader_skip 10 = .ok (.return_, 1) := by decide +kernel
theorem d_Reader_nextItself_0 : decode b_Reader_nextItself 0 = .ok (.aload_n 0, 1) := by decide +kernel
theorem d_Reader_nextItself_1 : decode b_Reader_nextItself 1 = .ok (.iconst 0, 1) := by decide +kernel
theorem d_Reader_nextItself_2 : decode b_Reader_nextItself 2 = .ok (.invokevirtual 27, 3) := by decide +kernel
theorem d_Reader_nextItself_5 : decode b_Reader_nextItself 5 = .ok (.bipush 92, 2) := by decide +kernel
theorem d_Reader_nextItself_7 : decode b_Reader_nextItself 7 = .ok (.if_icmp .ne 22, 3) := by decide +kernel
theorem d_Reader_nextItself_10 : decode b_Reader_nextItself 10 = .ok (.aload_n 0, 1) := by decide +kernel
theorem d_Reader_nextItself_11 : decode b_Reader_nextItself 11 = .ok (.iconst 1, 1) := by decide +kernel
theorem d_Reader_nextItself_12 : decode b_Reader_nextItself 12 = .ok (.invokevirtual 27, 3) := by decide +kernel
theorem d_Reader_nextItself_15 : decode b_Reader_nextItself 15 = .ok (.iconst (-1), 1) := by decide +kernel
theorem d_Reader_nextItself_16 : decode b_Reader_nextItself 16 = .ok (.if_icmp .eq 13, 3) := by decide +kernel
theorem d_Reader_nextItself_19 : decode b_Reader_nextItself 19 = .ok (.aload_n 0, 1) := by decide +kernel
theorem d_Reader_nextItself_20 : decode b_Reader_nextItself 20 = .ok (.dup, 1) := by decide +kernel
theorem d_Reader_nextItself_21 : decode b_Reader_nextItself 21 = .ok (.getfield 19, 3) := by decide +kernel
theorem d_Reader_nextItself_24 : decode b_Reader_nextItself 24 = .ok (.iconst 1, 1) := by decide +kernel
theorem d_Reader_nextItself_25 : decode b_Reader_nextItself 25 = .ok (.iadd, 1) := by decide +kernel
theorem d_Reader_nextItself_26 : decode b_Reader_nextItself 26 = .ok (.putfield 19, 3) := by decide +kernel
theorem d_Reader_nextItself_29 : decode b_Reader_nextItself 29 = .ok (.aload_n 0, 1) := by decide +kernel
theorem d_Reader_nextItself_30 : decode b_Reader_nextItself 30 = .ok (.iconst 0, 1) := by decide +kernel
theorem d_Reader_nextItself_31 : decode b_Reader_nextItself 31 = .ok (.invokevirtual 27, 3) := by decide +kernel
theorem d_Reader_nextItself_34 : decode b_Reader_nextItself 34 = .ok (.istore_n 1, 1) := by decide +kernel
theorem d_Reader_nextItself_35 : decode b_Reader_nextItself 35 = .ok (.aload_n 0, 1) := by decide +kernel
theorem d_Reader_nextItself_36 : decode b_Reader_nextItself 36 = .ok (.dup, 1) := by decide +kernel
theorem d_Reader_nextItself_37 : decode b_Reader_nextItself 37 = .ok (.getfield 19, 3) := by decide +kernel
theorem d_Reader_nextItself_40 : decode b_Reader_nextItself 40 = .ok (.iconst 1, 1) := by decide +kernel
theorem d_Reader_nextItself_41 : decode b_Reader_nextItself 41 = .ok (.iadd, 1) := by decide +kernel
theorem d_Reader_nextItself_42 : decode b_Reader_nextItself 42 = .ok (.putfield 19, 3) := by decide +kernel
theorem d_Reader_nextItself_45 : decode b_Reader_nextItself 45 = .ok (.iload_n 1, 1) := by decide +kernel
theorem d_Reader_nextItself_46 : decode b_Reader_nextItself 46 = .ok (.ireturn, 1) := by decide +kernel
theorem d_Rule_init_0 : decode b_Rule_init 0 = .ok (.aload_n 0, 1) := by decide +kernel
theorem d_Rule_init_1 : decode b_Rule_init 1 = .ok (.invokespecial 1, 3) := by decide +kernel
theorem d_Rule_init_4 : decode b_Rule_init 4 = .ok (.aload_n 0, 1) := by decide +kernel
theorem d_Rule_init_5 : decode b_Rule_init 5 = .ok (.iload_n 1, 1) := by decide +kernel
theorem d_Rule_init_6 : decode b_Rule_init 6 = .ok (.putfield 7, 3) := by decide +kernel
theorem d_Rule_init_9 : decode b_Rule_init 9 = .ok (.aload_n 0, 1) := by decide +kernel
theorem d_Rule_init_10 : decode b_Rule_init 10 = .ok (.aload_n 2, 1) := by decide +kernel
theorem d_Rule_init_11 : decode b_Rule_init 11 = .ok (.putfield 13, 3) := by decide +kernel
theorem d_Rule_init_14 : decode b_Rule_init 14 = .ok (.aload_n 0, 1) := by decide +kernel
theorem d_Rule_init_15 : decode b_Rule_init 15 = .ok (.aload_n 3, 1) := by decide +kernel
theorem d_Rule_init_16 : decode b_Rule_init 16 = .ok (.putfield 17, 3) := by decide +kernel
theorem d_Rule_init_19 : decode b_Rule_init 19 = .ok (.aload_n 0, 1) := by decide +kernel
theorem d_Rule_init_20 : decode b_Rule_init 20 = .ok (.iload 4, 2) := by decide +kernel
theorem d_Rule_init_22 : decode b_Rule_init 22 = .ok (.putfield 21, 3) := by decide +kernel
theorem d_Rule_init_25 : decode b_Rule_init 25 = .ok (.aload_n 0, 1) := by decide +kernel
theorem d_Rule_init_26 : decode b_Rule_init 26 = .ok (.iload 5, 2) := by decide +kernel
theorem d_Rule_init_28 : decode b_Rule_init 28 = .ok (.putfield 24, 3) := by decide +kernel
theorem d_Rule_init_31 : decode b_Rule_init 31 = .ok (.return_, 1) := by decide +kernel
theorem d_Arrays_copyOf_0 : decode b_Arrays_copyOf 0 = .ok (.iload_n 1, 1) := by decide +kernel
theorem d_Arrays_copyOf_1 : decode b_Arrays_copyOf 1 = .ok (.aload_n 0, 1) := by decide +kernel
theorem d_Arrays_copyOf_2 : decode b_Arrays_copyOf 2 = .ok (.arraylength, 1) := by decide +kernel
theorem d_Arrays_copyOf_3 : decode b_Arrays_copyOf 3 = .ok (.if_icmp .ne 11, 3) := by decide +kernel
theorem d_Arrays_copyOf_6 : decode b_Arrays_copyOf 6 = .ok (.aload_n 0, 1) := by decide +kernel
theorem d_Arrays_copyOf_7 : decode b_Arrays_copyOf 7 = .ok (.invokevirtual 310, 3) := by decide +kernel
theorem d_Arrays_copyOf_10 : decode b_Arrays_copyOf 10 = .ok (.checkcast 311, 3) := by decide +kernel
theorem d_Arrays_copyOf_13 : decode b_Arrays_copyOf 13 = .ok (.areturn, 1) := by decide +kernel
theorem d_Arrays_copyOf_14 : decode b_Arrays_copyOf 14 = .ok (.iload_n 1, 1) := by decide +kernel
theorem d_Arrays_copyOf_15 : decode b_Arrays_copyOf 15 = .ok (.newarray .byte, 2) := by decide +kernel
theorem d_Arrays_copyOf_17 : decode b_Arrays_copyOf 17 = .ok (.astore_n 2, 1) := by decide +kernel
theorem d_Arrays_copyOf_18 : decode b_Arrays_copyOf 18 = .ok (.aload_n 0, 1) := by decide +kernel
theorem d_Arrays_copyOf_19 : decode b_Arrays_copyOf 19 = .ok (.iconst 0, 1) := by decide +kernel
theorem d_Arrays_copyOf_20 : decode b_Arrays_copyOf 20 = .ok (.aload_n 2, 1) := by decide +kernel
theorem d_Arrays_copyOf_21 : decode b_Arrays_copyOf 21 = .ok (.iconst 0, 1) := by decide +kernel
theorem d_Arrays_copyOf_22 : decode b_Arrays_copyOf 22 = .ok (.aload_n 0, 1) := by decide +kernel
theorem d_Arrays_copyOf_23 : decode b_Arrays_copyOf 23 = .ok (.arraylength, 1) := by decide +kernel
theorem d_Arrays_copyOf_24 : decode b_Arrays_copyOf 24 = .ok (.iload_n 1, 1) := by decide +kernel
theorem d_Arrays_copyOf_25 : decode b_Arrays_copyOf 25 = .ok (.invokestatic 304, 3) := by decide +kernel
theorem d_Arrays_copyOf_28 : decode b_Arrays_copyOf 28 = .ok (.invokestatic 150, 3) := by decide +kernel
theorem d_Arrays_copyOf_31 : decode b_Arrays_copyOf 31 = .ok (.aload_n 2, 1) := by decide +kernel
theorem d_Arrays_copyOf_32 : decode b_Arrays_copyOf 32 = .ok (.areturn, 1) := by decide +kernel
