theorem dX0_init_0 : decode cX0_init 0 = .ok (.aload_n 0, 1) := by decide +kernel
theorem dX0_init_1 : decode cX0_init 1 = .ok (.invokespecial 3, 3) := by decide +kernel
theorem dX0_init_4 : decode cX0_init 4 = .ok (.aload_n 0, 1) := by decide +kernel
theorem dX0_init_5 : decode cX0_init 5 = .ok (.bipush 8, 2) := by decide +kernel
theorem dX0_init_7 : decode cX0_init 7 = .ok (.newarray .int, 2) := by decide +kernel
theorem dX0_init_9 : decode cX0_init 9 = .ok (.putfield 9, 3) := by decide +kernel
theorem dX0_init_12 : decode cX0_init 12 = .ok (.aload_n 0, 1) := by decide +kernel
theorem dX0_init_13 : decode cX0_init 13 = .ok (.iconst 5, 1) := by decide +kernel
theorem dX0_init_14 : decode cX0_init 14 = .ok (.newarray .int, 2) := by decide +kernel
theorem dX0_init_16 : decode cX0_init 16 = .ok (.putfield 15, 3) := by decide +kernel
theorem dX0_init_19 : decode cX0_init 19 = .ok (.aload_n 0, 1) := by decide +kernel
theorem dX0_init_20 : decode cX0_init 20 = .ok (.aload_n 1, 1) := by decide +kernel
theorem dX0_init_21 : decode cX0_init 21 = .ok (.putfield 18, 3) := by decide +kernel
theorem dX0_init_24 : decode cX0_init 24 = .ok (.return_, 1) := by decide +kernel
theorem dX0_begin_0 : decode cX0_begin 0 = .ok (.aload_n 0, 1) := by decide +kernel
theorem dX0_begin_1 : decode cX0_begin 1 = .ok (.getfield 18, 3) := by decide +kernel
theorem dX0_begin_4 : decode cX0_begin 4 = .ok (.getfield 22, 3) := by decide +kernel
theorem dX0_begin_7 : decode cX0_begin 7 = .ok (.iconst 0, 1) := by decide +kernel
theorem dX0_begin_8 : decode cX0_begin 8 = .ok (.aload_n 0, 1) := by decide +kernel
theorem dX0_begin_9 : decode cX0_begin 9 = .ok (.getfield 9, 3) := by decide +kernel
theorem dX0_begin_12 : decode cX0_begin 12 = .ok (.iconst 0, 1) := by decide +kernel
theorem dX0_begin_13 : decode cX0_begin 13 = .ok (.bipush 8, 2) := by decide +kernel
theorem dX0_begin_15 : decode cX0_begin 15 = .ok (.invokestatic 27, 3) := by decide +kernel
theorem dX0_begin_18 : decode cX0_begin 18 = .ok (.aload_n 0, 1) := by decide +kernel
theorem dX0_begin_19 : decode cX0_begin 19 = .ok (.getfield 18, 3) := by decide +kernel
theorem dX0_begin_22 : decode cX0_begin 22 = .ok (.getfield 33, 3) := by decide +kernel
theorem dX0_begin_25 : decode cX0_begin 25 = .ok (.iconst 0, 1) := by decide +kernel
theorem dX0_begin_26 : decode cX0_begin 26 = .ok (.aload_n 0, 1) := by decide +kernel
theorem dX0_begin_27 : decode cX0_begin 27 = .ok (.getfield 15, 3) := by decide +kernel
theorem dX0_begin_30 : decode cX0_begin 30 = .ok (.iconst 0, 1) := by decide +kernel
theorem dX0_begin_31 : decode cX0_begin 31 = .ok (.iconst 5, 1) := by decide +kernel
theorem dX0_begin_32 : decode cX0_begin 32 = .ok (.invokestatic 27, 3) := by decide +kernel
theorem dX0_begin_35 : decode cX0_begin 35 = .ok (.aload_n 0, 1) := by decide +kernel
theorem dX0_begin_36 : decode cX0_begin 36 = .ok (.iconst 0, 1) := by decide +kernel
theorem dX0_begin_37 : decode cX0_begin 37 = .ok (.putfield 34, 3) := by decide +kernel
theorem dX0_begin_40 : decode cX0_begin 40 = .ok (.return_, 1) := by decide +kernel
theorem dX0_copy_0 : decode cX0_copy 0 = .ok (.aload_n 1, 1) := by decide +kernel
theorem dX0_copy_1 : decode cX0_copy 1 = .ok (.getfield 9, 3) := by decide +kernel
theorem dX0_copy_4 : decode cX0_copy 4 = .ok (.iconst 0, 1) := by decide +kernel
theorem dX0_copy_5 : decode cX0_copy 5 = .ok (.aload_n 0, 1) := by decide +kernel
theorem dX0_copy_6 : decode cX0_copy 6 = .ok (.getfield 9, 3) := by decide +kernel
theorem dX0_copy_9 : decode cX0_copy 9 = .ok (.iconst 0, 1) := by decide +kernel
theorem dX0_copy_10 : decode cX0_copy 10 = .ok (.bipush 8, 2) := by decide +kernel
theorem dX0_copy_12 : decode cX0_copy 12 = .ok (.invokestatic 27, 3) := by decide +kernel
theorem dX0_copy_15 : decode cX0_copy 15 = .ok (.aload_n 1, 1) := by decide +kernel
theorem dX0_copy_16 : decode cX0_copy 16 = .ok (.getfield 15, 3) := by decide +kernel
theorem dX0_copy_19 : decode cX0_copy 19 = .ok (.iconst 0, 1) := by decide +kernel
theorem dX0_copy_20 : decode cX0_copy 20 = .ok (.aload_n 0, 1) := by decide +kernel
theorem dX0_copy_21 : decode cX0_copy 21 = .ok (.getfield 15, 3) := by decide +kernel
theorem dX0_copy_24 : decode cX0_copy 24 = .ok (.iconst 0, 1) := by decide +kernel
theorem dX0_copy_25 : decode cX0_copy 25 = .ok (.iconst 5, 1) := by decide +kernel
theorem dX0_copy_26 : decode cX0_copy 26 = .ok (.invokestatic 27, 3) := by decide +kernel
theorem dX0_copy_29 : decode cX0_copy 29 = .ok (.aload_n 0, 1) := by decide +kernel
theorem dX0_copy_30 : decode cX0_copy 30 = .ok (.aload_n 1, 1) := by decide +kernel
theorem dX0_copy_31 : decode cX0_copy 31 = .ok (.getfield 34, 3) := by decide +kernel
theorem dX0_copy_34 : decode cX0_copy 34 = .ok (.putfield 34, 3) := by decide +kernel
theorem dX0_copy_37 : decode cX0_copy 37 = .ok (.return_, 1) := by decide +kernel
theorem dX0_width_0 : decode cX0_width 0 = .ok (.aload_n 0, 1) := by decide +kernel
theorem dX0_width_1 : decode cX0_width 1 = .ok (.getfield 9, 3) := by decide +kernel
theorem dX0_width_4 : decode cX0_width 4 = .ok (.iload_n 1, 1) := by decide +kernel
theorem dX0_width_5 : decode cX0_width 5 = .ok (.iaload, 1) := by decide +kernel
theorem dX0_width_6 : decode cX0_width 6 = .ok (.aload_n 0, 1) := by decide +kernel
theorem dX0_width_7 : decode cX0_width 7 = .ok (.getfield 9, 3) := by decide +kernel
theorem dX0_width_10 : decode cX0_width 10 = .ok (.aload_n 0, 1) := by decide +kernel
theorem dX0_width_11 : decode cX0_width 11 = .ok (.getfield 18, 3) := by decide +kernel
theorem dX0_width_14 : decode cX0_width 14 = .ok (.iload_n 1, 1) := by decide +kernel
theorem dX0_width_15 : decode cX0_width 15 = .ok (.invokevirtual 38, 3) := by decide +kernel
theorem dX0_width_18 : decode cX0_width 18 = .ok (.iaload, 1) := by decide +kernel
theorem dX0_width_19 : decode cX0_width 19 = .ok (.invokestatic 42, 3) := by decide +kernel
theorem dX0_width_22 : decode cX0_width 22 = .ok (.ireturn, 1) := by decide +kernel
theorem dX0_slack_0 : decode cX0_slack 0 = .ok (.aload_n 0, 1) := by decide +kernel
theorem dX0_slack_1 : decode cX0_slack 1 = .ok (.iload_n 1, 1) := by decide +kernel
theorem dX0_slack_2 : decode cX0_slack 2 = .ok (.invokevirtual 46, 3) := by decide +kernel
theorem dX0_slack_5 : decode cX0_slack 5 = .ok (.aload_n 0, 1) := by decide +kernel
theorem dX0_slack_6 : decode cX0_slack 6 = .ok (.getfield 18, 3) := by decide +kernel
theorem dX0_slack_9 : decode cX0_slack 9 = .ok (.iload_n 1, 1) := by decide +kernel
theorem dX0_slack_10 : decode cX0_slack 10 = .ok (.invokevirtual 49, 3) := by decide +kernel
theorem dX0_slack_13 : decode cX0_slack 13 = .ok (.isub, 1) := by decide +kernel
theorem dX0_slack_14 : decode cX0_slack 14 = .ok (.ireturn, 1) := by decide +kernel
theorem dX0_isOpen_0 : decode cX0_isOpen 0 = .ok (.aload_n 0, 1) := by decide +kernel
theorem dX0_isOpen_1 : decode cX0_isOpen 1 = .ok (.iload_n 1, 1) := by decide +kernel
theorem dX0_isOpen_2 : decode cX0_isOpen 2 = .ok (.invokevirtual 46, 3) := by decide +kernel
theorem dX0_isOpen_5 : decode cX0_isOpen 5 = .ok (.istore_n 2, 1) := by decide +kernel
theorem dX0_isOpen_6 : decode cX0_isOpen 6 = .ok (.iconst 0, 1) := by decide +kernel
theorem dX0_isOpen_7 : decode cX0_isOpen 7 = .ok (.istore_n 3, 1) := by decide +kernel
theorem dX0_isOpen_8 : decode cX0_isOpen 8 = .ok (.iload_n 3, 1) := by decide +kernel
theorem dX0_isOpen_9 : decode cX0_isOpen 9 = .ok (.aload_n 0, 1) := by decide +kernel
theorem dX0_isOpen_10 : decode cX0_isOpen 10 = .ok (.getfield 18, 3) := by decide +kernel
theorem dX0_isOpen_13 : decode cX0_isOpen 13 = .ok (.getfield 52, 3) := by decide +kernel
theorem dX0_isOpen_16 : decode cX0_isOpen 16 = .ok (.if_icmp .ge 42, 3) := by decide +kernel
theorem dX0_isOpen_19 : decode cX0_isOpen 19 = .ok (.aload_n 0, 1) := by decide +kernel
theorem dX0_isOpen_20 : decode cX0_isOpen 20 = .ok (.getfield 9, 3) := by decide +kernel
theorem dX0_isOpen_23 : decode cX0_isOpen 23 = .ok (.iload_n 1, 1) := by decide +kernel
theorem dX0_isOpen_24 : decode cX0_isOpen 24 = .ok (.iaload, 1) := by decide +kernel
theorem dX0_isOpen_25 : decode cX0_isOpen 25 = .ok (.aload_n 0, 1) := by decide +kernel
theorem dX0_isOpen_26 : decode cX0_isOpen 26 = .ok (.getfield 18, 3) := by decide +kernel
theorem dX0_isOpen_29 : decode cX0_isOpen 29 = .ok (.getfield 55, 3) := by decide +kernel
theorem dX0_isOpen_32 : decode cX0_isOpen 32 = .ok (.iload_n 3, 1) := by decide +kernel
theorem dX0_isOpen_33 : decode cX0_isOpen 33 = .ok (.iaload, 1) := by decide +kernel
theorem dX0_isOpen_34 : decode cX0_isOpen 34 = .ok (.invokestatic 42, 3) := by decide +kernel
theorem dX0_isOpen_37 : decode cX0_isOpen 37 = .ok (.istore 4, 2) := by decide +kernel
theorem dX0_isOpen_39 : decode cX0_isOpen 39 = .ok (.iload 4, 2) := by decide +kernel
theorem dX0_isOpen_41 : decode cX0_isOpen 41 = .ok (.ifCond .le 11, 3) := by decide +kernel
theorem dX0_isOpen_44 : decode cX0_isOpen 44 = .ok (.iload 4, 2) := by decide +kernel
theorem dX0_isOpen_46 : decode cX0_isOpen 46 = .ok (.iload_n 2, 1) := by decide +kernel
theorem dX0_isOpen_47 : decode cX0_isOpen 47 = .ok (.if_icmp .ge 5, 3) := by decide +kernel
theorem dX0_isOpen_50 : decode cX0_isOpen 50 = .ok (.iconst 1, 1) := by decide +kernel
theorem dX0_isOpen_51 : decode cX0_isOpen 51 = .ok (.ireturn, 1) := by decide +kernel
theorem dX0_isOpen_52 : decode cX0_isOpen 52 = .ok (.iinc 3 1, 3) := by decide +kernel
theorem dX0_isOpen_55 : decode cX0_isOpen 55 = .ok (.goto (-47), 3) := by decide +kernel
theorem dX0_isOpen_58 : decode cX0_isOpen 58 = .ok (.iconst 0, 1) := by decide +kernel
theorem dX0_isOpen_59 : decode cX0_isOpen 59 = .ok (.ireturn, 1) := by decide +kernel
theorem dX0_openRooms_0 : decode cX0_openRooms 0 = .ok (.iconst 0, 1) := by decide +kernel
theorem dX0_openRooms_1 : decode cX0_openRooms 1 = .ok (.istore_n 1, 1) := by decide +kernel
theorem dX0_openRooms_2 : decode cX0_openRooms 2 = .ok (.iconst 0, 1) := by decide +kernel
theorem dX0_openRooms_3 : decode cX0_openRooms 3 = .ok (.istore_n 2, 1) := by decide +kernel
theorem dX0_openRooms_4 : decode cX0_openRooms 4 = .ok (.iload_n 2, 1) := by decide +kernel
theorem dX0_openRooms_5 : decode cX0_openRooms 5 = .ok (.aload_n 0, 1) := by decide +kernel
theorem dX0_openRooms_6 : decode cX0_openRooms 6 = .ok (.getfield 18, 3) := by decide +kernel
theorem dX0_openRooms_9 : decode cX0_openRooms 9 = .ok (.getfield 58, 3) := by decide +kernel
theorem dX0_openRooms_12 : decode cX0_openRooms 12 = .ok (.if_icmp .ge 23, 3) := by decide +kernel
theorem dX0_openRooms_15 : decode cX0_openRooms 15 = .ok (.aload_n 0, 1) := by decide +kernel
theorem dX0_openRooms_16 : decode cX0_openRooms 16 = .ok (.iload_n 2, 1) := by decide +kernel
theorem dX0_openRooms_17 : decode cX0_openRooms 17 = .ok (.invokevirtual 61, 3) := by decide +kernel
theorem dX0_openRooms_20 : decode cX0_openRooms 20 = .ok (.ifCond .eq 9, 3) := by decide +kernel
theorem dX0_openRooms_23 : decode cX0_openRooms 23 = .ok (.iload_n 1, 1) := by decide +kernel
theorem dX0_openRooms_24 : decode cX0_openRooms 24 = .ok (.iconst 1, 1) := by decide +kernel
theorem dX0_openRooms_25 : decode cX0_openRooms 25 = .ok (.iload_n 2, 1) := by decide +kernel
theorem dX0_openRooms_26 : decode cX0_openRooms 26 = .ok (.ishl, 1) := by decide +kernel
theorem dX0_openRooms_27 : decode cX0_openRooms 27 = .ok (.ior, 1) := by decide +kernel
theorem dX0_openRooms_28 : decode cX0_openRooms 28 = .ok (.istore_n 1, 1) := by decide +kernel
theorem dX0_openRooms_29 : decode cX0_openRooms 29 = .ok (.iinc 2 1, 3) := by decide +kernel
theorem dX0_openRooms_32 : decode cX0_openRooms 32 = .ok (.goto (-28), 3) := by decide +kernel
theorem dX0_openRooms_35 : decode cX0_openRooms 35 = .ok (.iload_n 1, 1) := by decide +kernel
theorem dX0_openRooms_36 : decode cX0_openRooms 36 = .ok (.ireturn, 1) := by decide +kernel
theorem dX0_peopleAt_0 : decode cX0_peopleAt 0 = .ok (.iconst 0, 1) := by decide +kernel
theorem dX0_peopleAt_1 : decode cX0_peopleAt 1 = .ok (.istore_n 2, 1) := by decide +kernel
theorem dX0_peopleAt_2 : decode cX0_peopleAt 2 = .ok (.iconst 0, 1) := by decide +kernel
theorem dX0_peopleAt_3 : decode cX0_peopleAt 3 = .ok (.istore_n 3, 1) := by decide +kernel
theorem dX0_peopleAt_4 : decode cX0_peopleAt 4 = .ok (.iload_n 3, 1) := by decide +kernel
theorem dX0_peopleAt_5 : decode cX0_peopleAt 5 = .ok (.aload_n 0, 1) := by decide +kernel
theorem dX0_peopleAt_6 : decode cX0_peopleAt 6 = .ok (.getfield 18, 3) := by decide +kernel
theorem dX0_peopleAt_9 : decode cX0_peopleAt 9 = .ok (.getfield 65, 3) := by decide +kernel
theorem dX0_peopleAt_12 : decode cX0_peopleAt 12 = .ok (.if_icmp .ge 25, 3) := by decide +kernel
theorem dX0_peopleAt_15 : decode cX0_peopleAt 15 = .ok (.aload_n 0, 1) := by decide +kernel
theorem dX0_peopleAt_16 : decode cX0_peopleAt 16 = .ok (.getfield 15, 3) := by decide +kernel
theorem dX0_peopleAt_19 : decode cX0_peopleAt 19 = .ok (.iload_n 3, 1) := by decide +kernel
theorem dX0_peopleAt_20 : decode cX0_peopleAt 20 = .ok (.iaload, 1) := by decide +kernel
theorem dX0_peopleAt_21 : decode cX0_peopleAt 21 = .ok (.iload_n 1, 1) := by decide +kernel
theorem dX0_peopleAt_22 : decode cX0_peopleAt 22 = .ok (.if_icmp .ne 9, 3) := by decide +kernel
theorem dX0_peopleAt_25 : decode cX0_peopleAt 25 = .ok (.iload_n 2, 1) := by decide +kernel
theorem dX0_peopleAt_26 : decode cX0_peopleAt 26 = .ok (.iconst 1, 1) := by decide +kernel
theorem dX0_peopleAt_27 : decode cX0_peopleAt 27 = .ok (.iload_n 3, 1) := by decide +kernel
theorem dX0_peopleAt_28 : decode cX0_peopleAt 28 = .ok (.ishl, 1) := by decide +kernel
theorem dX0_peopleAt_29 : decode cX0_peopleAt 29 = .ok (.ior, 1) := by decide +kernel
theorem dX0_peopleAt_30 : decode cX0_peopleAt 30 = .ok (.istore_n 2, 1) := by decide +kernel
theorem dX0_peopleAt_31 : decode cX0_peopleAt 31 = .ok (.iinc 3 1, 3) := by decide +kernel
theorem dX0_peopleAt_34 : decode cX0_peopleAt 34 = .ok (.goto (-30), 3) := by decide +kernel
theorem dX0_peopleAt_37 : decode cX0_peopleAt 37 = .ok (.iload_n 2, 1) := by decide +kernel
theorem dX0_peopleAt_38 : decode cX0_peopleAt 38 = .ok (.ireturn, 1) := by decide +kernel
theorem dX0_areAllOut_0 : decode cX0_areAllOut 0 = .ok (.iconst 0, 1) := by decide +kernel
theorem dX0_areAllOut_1 : decode cX0_areAllOut 1 = .ok (.istore_n 1, 1) := by decide +kernel
theorem dX0_areAllOut_2 : decode cX0_areAllOut 2 = .ok (.iload_n 1, 1) := by decide +kernel
theorem dX0_areAllOut_3 : decode cX0_areAllOut 3 = .ok (.aload_n 0, 1) := by decide +kernel
theorem dX0_areAllOut_4 : decode cX0_areAllOut 4 = .ok (.getfield 18, 3) := by decide +kernel
theorem dX0_areAllOut_7 : decode cX0_areAllOut 7 = .ok (.getfield 65, 3) := by decide +kernel
theorem dX0_areAllOut_10 : decode cX0_areAllOut 10 = .ok (.if_icmp .ge 21, 3) := by decide +kernel
theorem dX0_areAllOut_13 : decode cX0_areAllOut 13 = .ok (.aload_n 0, 1) := by decide +kernel
theorem dX0_areAllOut_14 : decode cX0_areAllOut 14 = .ok (.getfield 15, 3) := by decide +kernel
theorem dX0_areAllOut_17 : decode cX0_areAllOut 17 = .ok (.iload_n 1, 1) := by decide +kernel
theorem dX0_areAllOut_18 : decode cX0_areAllOut 18 = .ok (.iaload, 1) := by decide +kernel
theorem dX0_areAllOut_19 : decode cX0_areAllOut 19 = .ok (.iconst (-1), 1) := by decide +kernel
theorem dX0_areAllOut_20 : decode cX0_areAllOut 20 = .ok (.if_icmp .eq 5, 3) := by decide +kernel
theorem dX0_areAllOut_23 : decode cX0_areAllOut 23 = .ok (.iconst 0, 1) := by decide +kernel
theorem dX0_areAllOut_24 : decode cX0_areAllOut 24 = .ok (.ireturn, 1) := by decide +kernel
theorem dX0_areAllOut_25 : decode cX0_areAllOut 25 = .ok (.iinc 1 1, 3) := by decide +kernel
theorem dX0_areAllOut_28 : decode cX0_areAllOut 28 = .ok (.goto (-26), 3) := by decide +kernel
theorem dX0_areAllOut_31 : decode cX0_areAllOut 31 = .ok (.iconst 1, 1) := by decide +kernel
theorem dX0_areAllOut_32 : decode cX0_areAllOut 32 = .ok (.ireturn, 1) := by decide +kernel
theorem dX0_letOut_0 : decode cX0_letOut 0 = .ok (.iconst 0, 1) := by decide +kernel
theorem dX0_letOut_1 : decode cX0_letOut 1 = .ok (.istore_n 1, 1) := by decide +kernel
theorem dX0_letOut_2 : decode cX0_letOut 2 = .ok (.iload_n 1, 1) := by decide +kernel
theorem dX0_letOut_3 : decode cX0_letOut 3 = .ok (.aload_n 0, 1) := by decide +kernel
theorem dX0_letOut_4 : decode cX0_letOut 4 = .ok (.getfield 18, 3) := by decide +kernel
theorem dX0_letOut_7 : decode cX0_letOut 7 = .ok (.getfield 58, 3) := by decide +kernel
theorem dX0_letOut_10 : decode cX0_letOut 10 = .ok (.if_icmp .ge 22, 3) := by decide +kernel
theorem dX0_letOut_13 : decode cX0_letOut 13 = .ok (.aload_n 0, 1) := by decide +kernel
theorem dX0_letOut_14 : decode cX0_letOut 14 = .ok (.iload_n 1, 1) := by decide +kernel
theorem dX0_letOut_15 : decode cX0_letOut 15 = .ok (.invokevirtual 61, 3) := by decide +kernel
theorem dX0_letOut_18 : decode cX0_letOut 18 = .ok (.ifCond .eq 8, 3) := by decide +kernel
theorem dX0_letOut_21 : decode cX0_letOut 21 = .ok (.aload_n 0, 1) := by decide +kernel
theorem dX0_letOut_22 : decode cX0_letOut 22 = .ok (.iload_n 1, 1) := by decide +kernel
theorem dX0_letOut_23 : decode cX0_letOut 23 = .ok (.invokevirtual 68, 3) := by decide +kernel
theorem dX0_letOut_26 : decode cX0_letOut 26 = .ok (.iinc 1 1, 3) := by decide +kernel
theorem dX0_letOut_29 : decode cX0_letOut 29 = .ok (.goto (-27), 3) := by decide +kernel
theorem dX0_letOut_32 : decode cX0_letOut 32 = .ok (.return_, 1) := by decide +kernel
theorem dX0_letFirstOut_0 : decode cX0_letFirstOut 0 = .ok (.iconst 0, 1) := by decide +kernel
theorem dX0_letFirstOut_1 : decode cX0_letFirstOut 1 = .ok (.istore_n 2, 1) := by decide +kernel
theorem dX0_letFirstOut_2 : decode cX0_letFirstOut 2 = .ok (.iload_n 2, 1) := by decide +kernel
theorem dX0_letFirstOut_3 : decode cX0_letFirstOut 3 = .ok (.aload_n 0, 1) := by decide +kernel
theorem dX0_letFirstOut_4 : decode cX0_letFirstOut 4 = .ok (.getfield 18, 3) := by decide +kernel
theorem dX0_letFirstOut_7 : decode cX0_letFirstOut 7 = .ok (.getfield 65, 3) := by decide +kernel
theorem dX0_letFirstOut_10 : decode cX0_letFirstOut 10 = .ok (.if_icmp .ge 27, 3) := by decide +kernel
theorem dX0_letFirstOut_13 : decode cX0_letFirstOut 13 = .ok (.aload_n 0, 1) := by decide +kernel
theorem dX0_letFirstOut_14 : decode cX0_letFirstOut 14 = .ok (.getfield 15, 3) := by decide +kernel
theorem dX0_letFirstOut_17 : decode cX0_letFirstOut 17 = .ok (.iload_n 2, 1) := by decide +kernel
theorem dX0_letFirstOut_18 : decode cX0_letFirstOut 18 = .ok (.iaload, 1) := by decide +kernel
theorem dX0_letFirstOut_19 : decode cX0_letFirstOut 19 = .ok (.iload_n 1, 1) := by decide +kernel
theorem dX0_letFirstOut_20 : decode cX0_letFirstOut 20 = .ok (.if_icmp .ne 11, 3) := by decide +kernel
theorem dX0_letFirstOut_23 : decode cX0_letFirstOut 23 = .ok (.aload_n 0, 1) := by decide +kernel
theorem dX0_letFirstOut_24 : decode cX0_letFirstOut 24 = .ok (.getfield 15, 3) := by decide +kernel
theorem dX0_letFirstOut_27 : decode cX0_letFirstOut 27 = .ok (.iload_n 2, 1) := by decide +kernel
theorem dX0_letFirstOut_28 : decode cX0_letFirstOut 28 = .ok (.iconst (-1), 1) := by decide +kernel
theorem dX0_letFirstOut_29 : decode cX0_letFirstOut 29 = .ok (.iastore, 1) := by decide +kernel
theorem dX0_letFirstOut_30 : decode cX0_letFirstOut 30 = .ok (.return_, 1) := by decide +kernel
theorem dX0_letFirstOut_31 : decode cX0_letFirstOut 31 = .ok (.iinc 2 1, 3) := by decide +kernel
theorem dX0_letFirstOut_34 : decode cX0_letFirstOut 34 = .ok (.goto (-32), 3) := by decide +kernel
theorem dX0_letFirstOut_37 : decode cX0_letFirstOut 37 = .ok (.return_, 1) := by decide +kernel
theorem dX0_movers_0 : decode cX0_movers 0 = .ok (.aload_n 0, 1) := by decide +kernel
theorem dX0_movers_1 : decode cX0_movers 1 = .ok (.getfield 18, 3) := by decide +kernel
theorem dX0_movers_4 : decode cX0_movers 4 = .ok (.getfield 72, 3) := by decide +kernel
theorem dX0_movers_7 : decode cX0_movers 7 = .ok (.iload_n 1, 1) := by decide +kernel
theorem dX0_movers_8 : decode cX0_movers 8 = .ok (.iaload, 1) := by decide +kernel
theorem dX0_movers_9 : decode cX0_movers 9 = .ok (.iconst 3, 1) := by decide +kernel
theorem dX0_movers_10 : decode cX0_movers 10 = .ok (.if_icmp .ne 5, 3) := by decide +kernel
theorem dX0_movers_13 : decode cX0_movers 13 = .ok (.iconst 0, 1) := by decide +kernel
theorem dX0_movers_14 : decode cX0_movers 14 = .ok (.ireturn, 1) := by decide +kernel
theorem dX0_movers_15 : decode cX0_movers 15 = .ok (.iload_n 1, 1) := by decide +kernel
theorem dX0_movers_16 : decode cX0_movers 16 = .ok (.istore_n 3, 1) := by decide +kernel
theorem dX0_movers_17 : decode cX0_movers 17 = .ok (.iconst 1, 1) := by decide +kernel
theorem dX0_movers_18 : decode cX0_movers 18 = .ok (.istore 4, 2) := by decide +kernel
theorem dX0_movers_20 : decode cX0_movers 20 = .ok (.iload 4, 2) := by decide +kernel
theorem dX0_movers_22 : decode cX0_movers 22 = .ok (.aload_n 0, 1) := by decide +kernel
theorem dX0_movers_23 : decode cX0_movers 23 = .ok (.getfield 18, 3) := by decide +kernel
theorem dX0_movers_26 : decode cX0_movers 26 = .ok (.getfield 58, 3) := by decide +kernel
theorem dX0_movers_29 : decode cX0_movers 29 = .ok (.if_icmp .ge 65, 3) := by decide +kernel
theorem dX0_movers_32 : decode cX0_movers 32 = .ok (.aload_n 0, 1) := by decide +kernel
theorem dX0_movers_33 : decode cX0_movers 33 = .ok (.getfield 18, 3) := by decide +kernel
theorem dX0_movers_36 : decode cX0_movers 36 = .ok (.iload_n 3, 1) := by decide +kernel
theorem dX0_movers_37 : decode cX0_movers 37 = .ok (.iload_n 2, 1) := by decide +kernel
theorem dX0_movers_38 : decode cX0_movers 38 = .ok (.invokevirtual 75, 3) := by decide +kernel
theorem dX0_movers_41 : decode cX0_movers 41 = .ok (.istore 5, 2) := by decide +kernel
theorem dX0_movers_43 : decode cX0_movers 43 = .ok (.aload_n 0, 1) := by decide +kernel
theorem dX0_movers_44 : decode cX0_movers 44 = .ok (.iload 5, 2) := by decide +kernel
theorem dX0_movers_46 : decode cX0_movers 46 = .ok (.invokevirtual 46, 3) := by decide +kernel
theorem dX0_movers_49 : decode cX0_movers 49 = .ok (.aload_n 0, 1) := by decide +kernel
theorem dX0_movers_50 : decode cX0_movers 50 = .ok (.getfield 18, 3) := by decide +kernel
theorem dX0_movers_53 : decode cX0_movers 53 = .ok (.iload 5, 2) := by decide +kernel
theorem dX0_movers_55 : decode cX0_movers 55 = .ok (.invokevirtual 49, 3) := by decide +kernel
theorem dX0_movers_58 : decode cX0_movers 58 = .ok (.if_icmp .le 6, 3) := by decide +kernel
theorem dX0_movers_61 : decode cX0_movers 61 = .ok (.iload 4, 2) := by decide +kernel
theorem dX0_movers_63 : decode cX0_movers 63 = .ok (.ireturn, 1) := by decide +kernel
theorem dX0_movers_64 : decode cX0_movers 64 = .ok (.aload_n 0, 1) := by decide +kernel
theorem dX0_movers_65 : decode cX0_movers 65 = .ok (.getfield 18, 3) := by decide +kernel
theorem dX0_movers_68 : decode cX0_movers 68 = .ok (.iload_n 3, 1) := by decide +kernel
theorem dX0_movers_69 : decode cX0_movers 69 = .ok (.iload_n 2, 1) := by decide +kernel
theorem dX0_movers_70 : decode cX0_movers 70 = .ok (.invokevirtual 78, 3) := by decide +kernel
theorem dX0_movers_73 : decode cX0_movers 73 = .ok (.istore_n 3, 1) := by decide +kernel
theorem dX0_movers_74 : decode cX0_movers 74 = .ok (.aload_n 0, 1) := by decide +kernel
theorem dX0_movers_75 : decode cX0_movers 75 = .ok (.getfield 18, 3) := by decide +kernel
theorem dX0_movers_78 : decode cX0_movers 78 = .ok (.iload_n 3, 1) := by decide +kernel
theorem dX0_movers_79 : decode cX0_movers 79 = .ok (.iconst 1, 1) := by decide +kernel
theorem dX0_movers_80 : decode cX0_movers 80 = .ok (.invokevirtual 81, 3) := by decide +kernel
theorem dX0_movers_83 : decode cX0_movers 83 = .ok (.ifCond .ne 5, 3) := by decide +kernel
theorem dX0_movers_86 : decode cX0_movers 86 = .ok (.iconst 0, 1) := by decide +kernel
theorem dX0_movers_87 : decode cX0_movers 87 = .ok (.ireturn, 1) := by decide +kernel
theorem dX0_movers_88 : decode cX0_movers 88 = .ok (.iinc 4 1, 3) := by decide +kernel
theorem dX0_movers_91 : decode cX0_movers 91 = .ok (.goto (-71), 3) := by decide +kernel
theorem dX0_movers_94 : decode cX0_movers 94 = .ok (.aload_n 0, 1) := by decide +kernel
theorem dX0_movers_95 : decode cX0_movers 95 = .ok (.getfield 18, 3) := by decide +kernel
theorem dX0_movers_98 : decode cX0_movers 98 = .ok (.getfield 58, 3) := by decide +kernel
theorem dX0_movers_101 : decode cX0_movers 101 = .ok (.ireturn, 1) := by decide +kernel
theorem dX0_step_0 : decode cX0_step 0 = .ok (.aload_n 0, 1) := by decide +kernel
theorem dX0_step_1 : decode cX0_step 1 = .ok (.iload_n 1, 1) := by decide +kernel
theorem dX0_step_2 : decode cX0_step 2 = .ok (.iload_n 2, 1) := by decide +kernel
theorem dX0_step_3 : decode cX0_step 3 = .ok (.invokevirtual 85, 3) := by decide +kernel
theorem dX0_step_6 : decode cX0_step 6 = .ok (.istore_n 3, 1) := by decide +kernel
theorem dX0_step_7 : decode cX0_step 7 = .ok (.iload_n 1, 1) := by decide +kernel
theorem dX0_step_8 : decode cX0_step 8 = .ok (.istore 4, 2) := by decide +kernel
theorem dX0_step_10 : decode cX0_step 10 = .ok (.iconst 0, 1) := by decide +kernel
theorem dX0_step_11 : decode cX0_step 11 = .ok (.istore 5, 2) := by decide +kernel
theorem dX0_step_13 : decode cX0_step 13 = .ok (.iload 5, 2) := by decide +kernel
theorem dX0_step_15 : decode cX0_step 15 = .ok (.iload_n 3, 1) := by decide +kernel
theorem dX0_step_16 : decode cX0_step 16 = .ok (.if_icmp .ge 39, 3) := by decide +kernel
theorem dX0_step_19 : decode cX0_step 19 = .ok (.aload_n 0, 1) := by decide +kernel
theorem dX0_step_20 : decode cX0_step 20 = .ok (.getfield 9, 3) := by decide +kernel
theorem dX0_step_23 : decode cX0_step 23 = .ok (.iload 4, 2) := by decide +kernel
theorem dX0_step_25 : decode cX0_step 25 = .ok (.aload_n 0, 1) := by decide +kernel
theorem dX0_step_26 : decode cX0_step 26 = .ok (.getfield 9, 3) := by decide +kernel
theorem dX0_step_29 : decode cX0_step 29 = .ok (.iload 4, 2) := by decide +kernel
theorem dX0_step_31 : decode cX0_step 31 = .ok (.iaload, 1) := by decide +kernel
theorem dX0_step_32 : decode cX0_step 32 = .ok (.iload_n 2, 1) := by decide +kernel
theorem dX0_step_33 : decode cX0_step 33 = .ok (.invokestatic 88, 3) := by decide +kernel
theorem dX0_step_36 : decode cX0_step 36 = .ok (.iastore, 1) := by decide +kernel
theorem dX0_step_37 : decode cX0_step 37 = .ok (.aload_n 0, 1) := by decide +kernel
theorem dX0_step_38 : decode cX0_step 38 = .ok (.getfield 18, 3) := by decide +kernel
theorem dX0_step_41 : decode cX0_step 41 = .ok (.iload 4, 2) := by decide +kernel
theorem dX0_step_43 : decode cX0_step 43 = .ok (.iload_n 2, 1) := by decide +kernel
theorem dX0_step_44 : decode cX0_step 44 = .ok (.invokevirtual 78, 3) := by decide +kernel
theorem dX0_step_47 : decode cX0_step 47 = .ok (.istore 4, 2) := by decide +kernel
theorem dX0_step_49 : decode cX0_step 49 = .ok (.iinc 5 1, 3) := by decide +kernel
theorem dX0_step_52 : decode cX0_step 52 = .ok (.goto (-39), 3) := by decide +kernel
theorem dX0_step_55 : decode cX0_step 55 = .ok (.iload_n 3, 1) := by decide +kernel
theorem dX0_step_56 : decode cX0_step 56 = .ok (.ifCond .le 7, 3) := by decide +kernel
theorem dX0_step_59 : decode cX0_step 59 = .ok (.iconst 1, 1) := by decide +kernel
theorem dX0_step_60 : decode cX0_step 60 = .ok (.goto 4, 3) := by decide +kernel
theorem dX0_step_63 : decode cX0_step 63 = .ok (.iconst 0, 1) := by decide +kernel
theorem dX0_step_64 : decode cX0_step 64 = .ok (.ireturn, 1) := by decide +kernel
theorem dX0_stepped_0 : decode cX0_stepped 0 = .ok (.iload_n 1, 1) := by decide +kernel
theorem dX0_stepped_1 : decode cX0_stepped 1 = .ok (.ifCond .ne 19, 3) := by decide +kernel
theorem dX0_stepped_4 : decode cX0_stepped 4 = .ok (.iload_n 0, 1) := by decide +kernel
theorem dX0_stepped_5 : decode cX0_stepped 5 = .ok (.iconst 1, 1) := by decide +kernel
theorem dX0_stepped_6 : decode cX0_stepped 6 = .ok (.iadd, 1) := by decide +kernel
theorem dX0_stepped_7 : decode cX0_stepped 7 = .ok (.bipush 72, 2) := by decide +kernel
theorem dX0_stepped_9 : decode cX0_stepped 9 = .ok (.if_icmp .ge 9, 3) := by decide +kernel
theorem dX0_stepped_12 : decode cX0_stepped 12 = .ok (.iload_n 0, 1) := by decide +kernel
theorem dX0_stepped_13 : decode cX0_stepped 13 = .ok (.iconst 1, 1) := by decide +kernel
theorem dX0_stepped_14 : decode cX0_stepped 14 = .ok (.iadd, 1) := by decide +kernel
theorem dX0_stepped_15 : decode cX0_stepped 15 = .ok (.goto 4, 3) := by decide +kernel
theorem dX0_stepped_18 : decode cX0_stepped 18 = .ok (.iconst 0, 1) := by decide +kernel
theorem dX0_stepped_19 : decode cX0_stepped 19 = .ok (.ireturn, 1) := by decide +kernel
theorem dX0_stepped_20 : decode cX0_stepped 20 = .ok (.iload_n 0, 1) := by decide +kernel
theorem dX0_stepped_21 : decode cX0_stepped 21 = .ok (.ifCond .le 9, 3) := by decide +kernel
theorem dX0_stepped_24 : decode cX0_stepped 24 = .ok (.iload_n 0, 1) := by decide +kernel
theorem dX0_stepped_25 : decode cX0_stepped 25 = .ok (.iconst 1, 1) := by decide +kernel
theorem dX0_stepped_26 : decode cX0_stepped 26 = .ok (.isub, 1) := by decide +kernel
theorem dX0_stepped_27 : decode cX0_stepped 27 = .ok (.goto 5, 3) := by decide +kernel
theorem dX0_stepped_30 : decode cX0_stepped 30 = .ok (.bipush 71, 2) := by decide +kernel
theorem dX0_stepped_32 : decode cX0_stepped 32 = .ok (.ireturn, 1) := by decide +kernel
theorem dX0_goTillOpen_0 : decode cX0_goTillOpen 0 = .ok (.iconst 0, 1) := by decide +kernel
theorem dX0_goTillOpen_1 : decode cX0_goTillOpen 1 = .ok (.istore 5, 2) := by decide +kernel
theorem dX0_goTillOpen_3 : decode cX0_goTillOpen 3 = .ok (.iload 5, 2) := by decide +kernel
theorem dX0_goTillOpen_5 : decode cX0_goTillOpen 5 = .ok (.iload 4, 2) := by decide +kernel
theorem dX0_goTillOpen_7 : decode cX0_goTillOpen 7 = .ok (.if_icmp .gt 31, 3) := by decide +kernel
theorem dX0_goTillOpen_10 : decode cX0_goTillOpen 10 = .ok (.aload_n 0, 1) := by decide +kernel
theorem dX0_goTillOpen_11 : decode cX0_goTillOpen 11 = .ok (.iload_n 3, 1) := by decide +kernel
theorem dX0_goTillOpen_12 : decode cX0_goTillOpen 12 = .ok (.invokevirtual 61, 3) := by decide +kernel
theorem dX0_goTillOpen_15 : decode cX0_goTillOpen 15 = .ok (.ifCond .eq 6, 3) := by decide +kernel
theorem dX0_goTillOpen_18 : decode cX0_goTillOpen 18 = .ok (.iload 5, 2) := by decide +kernel
theorem dX0_goTillOpen_20 : decode cX0_goTillOpen 20 = .ok (.ireturn, 1) := by decide +kernel
theorem dX0_goTillOpen_21 : decode cX0_goTillOpen 21 = .ok (.aload_n 0, 1) := by decide +kernel
theorem dX0_goTillOpen_22 : decode cX0_goTillOpen 22 = .ok (.iload_n 1, 1) := by decide +kernel
theorem dX0_goTillOpen_23 : decode cX0_goTillOpen 23 = .ok (.iload_n 2, 1) := by decide +kernel
theorem dX0_goTillOpen_24 : decode cX0_goTillOpen 24 = .ok (.invokevirtual 91, 3) := by decide +kernel
theorem dX0_goTillOpen_27 : decode cX0_goTillOpen 27 = .ok (.ifCond .ne 5, 3) := by decide +kernel
theorem dX0_goTillOpen_30 : decode cX0_goTillOpen 30 = .ok (.iconst (-1), 1) := by decide +kernel
theorem dX0_goTillOpen_31 : decode cX0_goTillOpen 31 = .ok (.ireturn, 1) := by decide +kernel
theorem dX0_goTillOpen_32 : decode cX0_goTillOpen 32 = .ok (.iinc 5 1, 3) := by decide +kernel
theorem dX0_goTillOpen_35 : decode cX0_goTillOpen 35 = .ok (.goto (-32), 3) := by decide +kernel
theorem dX0_goTillOpen_38 : decode cX0_goTillOpen 38 = .ok (.iconst (-1), 1) := by decide +kernel
theorem dX0_goTillOpen_39 : decode cX0_goTillOpen 39 = .ok (.ireturn, 1) := by decide +kernel
theorem dX0_passHour_0 : decode cX0_passHour 0 = .ok (.iconst 0, 1) := by decide +kernel
theorem dX0_passHour_1 : decode cX0_passHour 1 = .ok (.istore_n 1, 1) := by decide +kernel
theorem dX0_passHour_2 : decode cX0_passHour 2 = .ok (.iload_n 1, 1) := by decide +kernel
theorem dX0_passHour_3 : decode cX0_passHour 3 = .ok (.aload_n 0, 1) := by decide +kernel
theorem dX0_passHour_4 : decode cX0_passHour 4 = .ok (.getfield 18, 3) := by decide +kernel
theorem dX0_passHour_7 : decode cX0_passHour 7 = .ok (.getfield 58, 3) := by decide +kernel
theorem dX0_passHour_10 : decode cX0_passHour 10 = .ok (.if_icmp .ge 78, 3) := by decide +kernel
theorem dX0_passHour_13 : decode cX0_passHour 13 = .ok (.aload_n 0, 1) := by decide +kernel
theorem dX0_passHour_14 : decode cX0_passHour 14 = .ok (.getfield 18, 3) := by decide +kernel
theorem dX0_passHour_17 : decode cX0_passHour 17 = .ok (.getfield 72, 3) := by decide +kernel
theorem dX0_passHour_20 : decode cX0_passHour 20 = .ok (.iload_n 1, 1) := by decide +kernel
theorem dX0_passHour_21 : decode cX0_passHour 21 = .ok (.iaload, 1) := by decide +kernel
theorem dX0_passHour_22 : decode cX0_passHour 22 = .ok (.iconst 1, 1) := by decide +kernel
theorem dX0_passHour_23 : decode cX0_passHour 23 = .ok (.if_icmp .ne 59, 3) := by decide +kernel
theorem dX0_passHour_26 : decode cX0_passHour 26 = .ok (.aload_n 0, 1) := by decide +kernel
theorem dX0_passHour_27 : decode cX0_passHour 27 = .ok (.getfield 9, 3) := by decide +kernel
theorem dX0_passHour_30 : decode cX0_passHour 30 = .ok (.iload_n 1, 1) := by decide +kernel
theorem dX0_passHour_31 : decode cX0_passHour 31 = .ok (.iaload, 1) := by decide +kernel
theorem dX0_passHour_32 : decode cX0_passHour 32 = .ok (.aload_n 0, 1) := by decide +kernel
theorem dX0_passHour_33 : decode cX0_passHour 33 = .ok (.getfield 18, 3) := by decide +kernel
theorem dX0_passHour_36 : decode cX0_passHour 36 = .ok (.getfield 22, 3) := by decide +kernel
theorem dX0_passHour_39 : decode cX0_passHour 39 = .ok (.iload_n 1, 1) := by decide +kernel
theorem dX0_passHour_40 : decode cX0_passHour 40 = .ok (.iaload, 1) := by decide +kernel
theorem dX0_passHour_41 : decode cX0_passHour 41 = .ok (.if_icmp .eq 41, 3) := by decide +kernel
theorem dX0_passHour_44 : decode cX0_passHour 44 = .ok (.aload_n 0, 1) := by decide +kernel
theorem dX0_passHour_45 : decode cX0_passHour 45 = .ok (.getfield 9, 3) := by decide +kernel
theorem dX0_passHour_48 : decode cX0_passHour 48 = .ok (.iload_n 1, 1) := by decide +kernel
theorem dX0_passHour_49 : decode cX0_passHour 49 = .ok (.iaload, 1) := by decide +kernel
theorem dX0_passHour_50 : decode cX0_passHour 50 = .ok (.aload_n 0, 1) := by decide +kernel
theorem dX0_passHour_51 : decode cX0_passHour 51 = .ok (.getfield 18, 3) := by decide +kernel
theorem dX0_passHour_54 : decode cX0_passHour 54 = .ok (.getfield 22, 3) := by decide +kernel
theorem dX0_passHour_57 : decode cX0_passHour 57 = .ok (.iload_n 1, 1) := by decide +kernel
theorem dX0_passHour_58 : decode cX0_passHour 58 = .ok (.iaload, 1) := by decide +kernel
theorem dX0_passHour_59 : decode cX0_passHour 59 = .ok (.invokestatic 42, 3) := by decide +kernel
theorem dX0_passHour_62 : decode cX0_passHour 62 = .ok (.istore_n 2, 1) := by decide +kernel
theorem dX0_passHour_63 : decode cX0_passHour 63 = .ok (.aload_n 0, 1) := by decide +kernel
theorem dX0_passHour_64 : decode cX0_passHour 64 = .ok (.iload_n 1, 1) := by decide +kernel
theorem dX0_passHour_65 : decode cX0_passHour 65 = .ok (.iload_n 2, 1) := by decide +kernel
theorem dX0_passHour_66 : decode cX0_passHour 66 = .ok (.bipush 72, 2) := by decide +kernel
theorem dX0_passHour_68 : decode cX0_passHour 68 = .ok (.iload_n 2, 1) := by decide +kernel
theorem dX0_passHour_69 : decode cX0_passHour 69 = .ok (.isub, 1) := by decide +kernel
theorem dX0_passHour_70 : decode cX0_passHour 70 = .ok (.if_icmp .gt 7, 3) := by decide +kernel
theorem dX0_passHour_73 : decode cX0_passHour 73 = .ok (.iconst 0, 1) := by decide +kernel
theorem dX0_passHour_74 : decode cX0_passHour 74 = .ok (.goto 4, 3) := by decide +kernel
theorem dX0_passHour_77 : decode cX0_passHour 77 = .ok (.iconst 1, 1) := by decide +kernel
theorem dX0_passHour_78 : decode cX0_passHour 78 = .ok (.invokevirtual 91, 3) := by decide +kernel
theorem dX0_passHour_81 : decode cX0_passHour 81 = .ok (.pop, 1) := by decide +kernel
theorem dX0_passHour_82 : decode cX0_passHour 82 = .ok (.iinc 1 1, 3) := by decide +kernel
theorem dX0_passHour_85 : decode cX0_passHour 85 = .ok (.goto (-83), 3) := by decide +kernel
theorem dX0_passHour_88 : decode cX0_passHour 88 = .ok (.aload_n 0, 1) := by decide +kernel
theorem dX0_passHour_89 : decode cX0_passHour 89 = .ok (.dup, 1) := by decide +kernel
theorem dX0_passHour_90 : decode cX0_passHour 90 = .ok (.getfield 34, 3) := by decide +kernel
theorem dX0_passHour_93 : decode cX0_passHour 93 = .ok (.iconst 1, 1) := by decide +kernel
theorem dX0_passHour_94 : decode cX0_passHour 94 = .ok (.iadd, 1) := by decide +kernel
theorem dX0_passHour_95 : decode cX0_passHour 95 = .ok (.putfield 34, 3) := by decide +kernel
theorem dX0_passHour_98 : decode cX0_passHour 98 = .ok (.return_, 1) := by decide +kernel
theorem dX0_stretched_0 : decode cX0_stretched 0 = .ok (.aload_n 0, 1) := by decide +kernel
theorem dX0_stretched_1 : decode cX0_stretched 1 = .ok (.iload_n 1, 1) := by decide +kernel
theorem dX0_stretched_2 : decode cX0_stretched 2 = .ok (.invokevirtual 46, 3) := by decide +kernel
theorem dX0_stretched_5 : decode cX0_stretched 5 = .ok (.istore_n 2, 1) := by decide +kernel
theorem dX0_stretched_6 : decode cX0_stretched 6 = .ok (.iconst 0, 1) := by decide +kernel
theorem dX0_stretched_7 : decode cX0_stretched 7 = .ok (.istore_n 3, 1) := by decide +kernel
theorem dX0_stretched_8 : decode cX0_stretched 8 = .ok (.iconst 0, 1) := by decide +kernel
theorem dX0_stretched_9 : decode cX0_stretched 9 = .ok (.istore 4, 2) := by decide +kernel
theorem dX0_stretched_11 : decode cX0_stretched 11 = .ok (.iload 4, 2) := by decide +kernel
theorem dX0_stretched_13 : decode cX0_stretched 13 = .ok (.iconst 1, 1) := by decide +kernel
theorem dX0_stretched_14 : decode cX0_stretched 14 = .ok (.if_icmp .gt 92, 3) := by decide +kernel
theorem dX0_stretched_17 : decode cX0_stretched 17 = .ok (.iload 4, 2) := by decide +kernel
theorem dX0_stretched_19 : decode cX0_stretched 19 = .ok (.ifCond .ne 14, 3) := by decide +kernel
theorem dX0_stretched_22 : decode cX0_stretched 22 = .ok (.aload_n 0, 1) := by decide +kernel
theorem dX0_stretched_23 : decode cX0_stretched 23 = .ok (.getfield 18, 3) := by decide +kernel
theorem dX0_stretched_26 : decode cX0_stretched 26 = .ok (.iload_n 1, 1) := by decide +kernel
theorem dX0_stretched_27 : decode cX0_stretched 27 = .ok (.invokevirtual 38, 3) := by decide +kernel
theorem dX0_stretched_30 : decode cX0_stretched 30 = .ok (.goto 4, 3) := by decide +kernel
theorem dX0_stretched_33 : decode cX0_stretched 33 = .ok (.iload_n 1, 1) := by decide +kernel
theorem dX0_stretched_34 : decode cX0_stretched 34 = .ok (.istore 5, 2) := by decide +kernel
theorem dX0_stretched_36 : decode cX0_stretched 36 = .ok (.iload_n 3, 1) := by decide +kernel
theorem dX0_stretched_37 : decode cX0_stretched 37 = .ok (.aload_n 0, 1) := by decide +kernel
theorem dX0_stretched_38 : decode cX0_stretched 38 = .ok (.getfield 18, 3) := by decide +kernel
theorem dX0_stretched_41 : decode cX0_stretched 41 = .ok (.getfield 58, 3) := by decide +kernel
theorem dX0_stretched_44 : decode cX0_stretched 44 = .ok (.iconst 1, 1) := by decide +kernel
theorem dX0_stretched_45 : decode cX0_stretched 45 = .ok (.isub, 1) := by decide +kernel
theorem dX0_stretched_46 : decode cX0_stretched 46 = .ok (.if_icmp .ge 54, 3) := by decide +kernel
theorem dX0_stretched_49 : decode cX0_stretched 49 = .ok (.aload_n 0, 1) := by decide +kernel
theorem dX0_stretched_50 : decode cX0_stretched 50 = .ok (.getfield 18, 3) := by decide +kernel
theorem dX0_stretched_53 : decode cX0_stretched 53 = .ok (.getfield 72, 3) := by decide +kernel
theorem dX0_stretched_56 : decode cX0_stretched 56 = .ok (.iload 5, 2) := by decide +kernel
theorem dX0_stretched_58 : decode cX0_stretched 58 = .ok (.iaload, 1) := by decide +kernel
theorem dX0_stretched_59 : decode cX0_stretched 59 = .ok (.iconst 3, 1) := by decide +kernel
theorem dX0_stretched_60 : decode cX0_stretched 60 = .ok (.if_icmp .eq 40, 3) := by decide +kernel
theorem dX0_stretched_63 : decode cX0_stretched 63 = .ok (.iload_n 2, 1) := by decide +kernel
theorem dX0_stretched_64 : decode cX0_stretched 64 = .ok (.aload_n 0, 1) := by decide +kernel
theorem dX0_stretched_65 : decode cX0_stretched 65 = .ok (.aload_n 0, 1) := by decide +kernel
theorem dX0_stretched_66 : decode cX0_stretched 66 = .ok (.getfield 18, 3) := by decide +kernel
theorem dX0_stretched_69 : decode cX0_stretched 69 = .ok (.iload 5, 2) := by decide +kernel
theorem dX0_stretched_71 : decode cX0_stretched 71 = .ok (.iload 4, 2) := by decide +kernel
theorem dX0_stretched_73 : decode cX0_stretched 73 = .ok (.invokevirtual 75, 3) := by decide +kernel
theorem dX0_stretched_76 : decode cX0_stretched 76 = .ok (.invokevirtual 94, 3) := by decide +kernel
theorem dX0_stretched_79 : decode cX0_stretched 79 = .ok (.iadd, 1) := by decide +kernel
theorem dX0_stretched_80 : decode cX0_stretched 80 = .ok (.istore_n 2, 1) := by decide +kernel
theorem dX0_stretched_81 : decode cX0_stretched 81 = .ok (.aload_n 0, 1) := by decide +kernel
theorem dX0_stretched_82 : decode cX0_stretched 82 = .ok (.getfield 18, 3) := by decide +kernel
theorem dX0_stretched_85 : decode cX0_stretched 85 = .ok (.iload 5, 2) := by decide +kernel
theorem dX0_stretched_87 : decode cX0_stretched 87 = .ok (.iload 4, 2) := by decide +kernel
theorem dX0_stretched_89 : decode cX0_stretched 89 = .ok (.invokevirtual 78, 3) := by decide +kernel
theorem dX0_stretched_92 : decode cX0_stretched 92 = .ok (.istore 5, 2) := by decide +kernel
theorem dX0_stretched_94 : decode cX0_stretched 94 = .ok (.iinc 3 1, 3) := by decide +kernel
theorem dX0_stretched_97 : decode cX0_stretched 97 = .ok (.goto (-61), 3) := by decide +kernel
theorem dX0_stretched_100 : decode cX0_stretched 100 = .ok (.iinc 4 1, 3) := by decide +kernel
theorem dX0_stretched_103 : decode cX0_stretched 103 = .ok (.goto (-92), 3) := by decide +kernel
theorem dX0_stretched_106 : decode cX0_stretched 106 = .ok (.iload_n 2, 1) := by decide +kernel
theorem dX0_stretched_107 : decode cX0_stretched 107 = .ok (.ireturn, 1) := by decide +kernel
theorem dX1_init_0 : decode cX1_init 0 = .ok (.aload_n 0, 1) := by decide +kernel
theorem dX1_init_1 : decode cX1_init 1 = .ok (.invokespecial 3, 3) := by decide +kernel
theorem dX1_init_4 : decode cX1_init 4 = .ok (.aload_n 0, 1) := by decide +kernel
theorem dX1_init_5 : decode cX1_init 5 = .ok (.bipush 8, 2) := by decide +kernel
theorem dX1_init_7 : decode cX1_init 7 = .ok (.newarray .int, 2) := by decide +kernel
theorem dX1_init_9 : decode cX1_init 9 = .ok (.putfield 9, 3) := by decide +kernel
theorem dX1_init_12 : decode cX1_init 12 = .ok (.aload_n 0, 1) := by decide +kernel
theorem dX1_init_13 : decode cX1_init 13 = .ok (.bipush 8, 2) := by decide +kernel
theorem dX1_init_15 : decode cX1_init 15 = .ok (.newarray .int, 2) := by decide +kernel
theorem dX1_init_17 : decode cX1_init 17 = .ok (.putfield 15, 3) := by decide +kernel
theorem dX1_init_20 : decode cX1_init 20 = .ok (.aload_n 0, 1) := by decide +kernel
theorem dX1_init_21 : decode cX1_init 21 = .ok (.bipush 8, 2) := by decide +kernel
theorem dX1_init_23 : decode cX1_init 23 = .ok (.newarray .int, 2) := by decide +kernel
theorem dX1_init_25 : decode cX1_init 25 = .ok (.putfield 18, 3) := by decide +kernel
theorem dX1_init_28 : decode cX1_init 28 = .ok (.aload_n 0, 1) := by decide +kernel
theorem dX1_init_29 : decode cX1_init 29 = .ok (.iconst 3, 1) := by decide +kernel
theorem dX1_init_30 : decode cX1_init 30 = .ok (.newarray .int, 2) := by decide +kernel
theorem dX1_init_32 : decode cX1_init 32 = .ok (.putfield 21, 3) := by decide +kernel
theorem dX1_init_35 : decode cX1_init 35 = .ok (.aload_n 0, 1) := by decide +kernel
theorem dX1_init_36 : decode cX1_init 36 = .ok (.iconst 5, 1) := by decide +kernel
theorem dX1_init_37 : decode cX1_init 37 = .ok (.newarray .int, 2) := by decide +kernel
theorem dX1_init_39 : decode cX1_init 39 = .ok (.putfield 24, 3) := by decide +kernel
theorem dX1_init_42 : decode cX1_init 42 = .ok (.return_, 1) := by decide +kernel
theorem dX1_begin_0 : decode cX1_begin 0 = .ok (.aload_n 0, 1) := by decide +kernel
theorem dX1_begin_1 : decode cX1_begin 1 = .ok (.iload_n 1, 1) := by decide +kernel
theorem dX1_begin_2 : decode cX1_begin 2 = .ok (.putfield 27, 3) := by decide +kernel
theorem dX1_begin_5 : decode cX1_begin 5 = .ok (.iconst 0, 1) := by decide +kernel
theorem dX1_begin_6 : decode cX1_begin 6 = .ok (.istore_n 2, 1) := by decide +kernel
theorem dX1_begin_7 : decode cX1_begin 7 = .ok (.iload_n 2, 1) := by decide +kernel
theorem dX1_begin_8 : decode cX1_begin 8 = .ok (.aload_n 0, 1) := by decide +kernel
theorem dX1_begin_9 : decode cX1_begin 9 = .ok (.getfield 27, 3) := by decide +kernel
theorem dX1_begin_12 : decode cX1_begin 12 = .ok (.if_icmp .ge 38, 3) := by decide +kernel
theorem dX1_begin_15 : decode cX1_begin 15 = .ok (.aload_n 0, 1) := by decide +kernel
theorem dX1_begin_16 : decode cX1_begin 16 = .ok (.getfield 9, 3) := by decide +kernel
theorem dX1_begin_19 : decode cX1_begin 19 = .ok (.iload_n 2, 1) := by decide +kernel
theorem dX1_begin_20 : decode cX1_begin 20 = .ok (.bipush 72, 2) := by decide +kernel
theorem dX1_begin_22 : decode cX1_begin 22 = .ok (.iload_n 2, 1) := by decide +kernel
theorem dX1_begin_23 : decode cX1_begin 23 = .ok (.imul, 1) := by decide +kernel
theorem dX1_begin_24 : decode cX1_begin 24 = .ok (.aload_n 0, 1) := by decide +kernel
theorem dX1_begin_25 : decode cX1_begin 25 = .ok (.getfield 27, 3) := by decide +kernel
theorem dX1_begin_28 : decode cX1_begin 28 = .ok (.idiv, 1) := by decide +kernel
theorem dX1_begin_29 : decode cX1_begin 29 = .ok (.iastore, 1) := by decide +kernel
theorem dX1_begin_30 : decode cX1_begin 30 = .ok (.aload_n 0, 1) := by decide +kernel
theorem dX1_begin_31 : decode cX1_begin 31 = .ok (.getfield 15, 3) := by decide +kernel
theorem dX1_begin_34 : decode cX1_begin 34 = .ok (.iload_n 2, 1) := by decide +kernel
theorem dX1_begin_35 : decode cX1_begin 35 = .ok (.iconst 0, 1) := by decide +kernel
theorem dX1_begin_36 : decode cX1_begin 36 = .ok (.iastore, 1) := by decide +kernel
theorem dX1_begin_37 : decode cX1_begin 37 = .ok (.aload_n 0, 1) := by decide +kernel
theorem dX1_begin_38 : decode cX1_begin 38 = .ok (.getfield 18, 3) := by decide +kernel
theorem dX1_begin_41 : decode cX1_begin 41 = .ok (.iload_n 2, 1) := by decide +kernel
theorem dX1_begin_42 : decode cX1_begin 42 = .ok (.iconst 0, 1) := by decide +kernel
theorem dX1_begin_43 : decode cX1_begin 43 = .ok (.iastore, 1) := by decide +kernel
theorem dX1_begin_44 : decode cX1_begin 44 = .ok (.iinc 2 1, 3) := by decide +kernel
theorem dX1_begin_47 : decode cX1_begin 47 = .ok (.goto (-40), 3) := by decide +kernel
theorem dX1_begin_50 : decode cX1_begin 50 = .ok (.aload_n 0, 1) := by decide +kernel
theorem dX1_begin_51 : decode cX1_begin 51 = .ok (.iconst 0, 1) := by decide +kernel
theorem dX1_begin_52 : decode cX1_begin 52 = .ok (.putfield 31, 3) := by decide +kernel
theorem dX1_begin_55 : decode cX1_begin 55 = .ok (.aload_n 0, 1) := by decide +kernel
theorem dX1_begin_56 : decode cX1_begin 56 = .ok (.iconst 0, 1) := by decide +kernel
theorem dX1_begin_57 : decode cX1_begin 57 = .ok (.putfield 34, 3) := by decide +kernel
theorem dX1_begin_60 : decode cX1_begin 60 = .ok (.return_, 1) := by decide +kernel
theorem dX1_copy_0 : decode cX1_copy 0 = .ok (.aload_n 0, 1) := by decide +kernel
theorem dX1_copy_1 : decode cX1_copy 1 = .ok (.aload_n 1, 1) := by decide +kernel
theorem dX1_copy_2 : decode cX1_copy 2 = .ok (.getfield 27, 3) := by decide +kernel
theorem dX1_copy_5 : decode cX1_copy 5 = .ok (.putfield 27, 3) := by decide +kernel
theorem dX1_copy_8 : decode cX1_copy 8 = .ok (.aload_n 1, 1) := by decide +kernel
theorem dX1_copy_9 : decode cX1_copy 9 = .ok (.getfield 9, 3) := by decide +kernel
theorem dX1_copy_12 : decode cX1_copy 12 = .ok (.iconst 0, 1) := by decide +kernel
theorem dX1_copy_13 : decode cX1_copy 13 = .ok (.aload_n 0, 1) := by decide +kernel
theorem dX1_copy_14 : decode cX1_copy 14 = .ok (.getfield 9, 3) := by decide +kernel
theorem dX1_copy_17 : decode cX1_copy 17 = .ok (.iconst 0, 1) := by decide +kernel
theorem dX1_copy_18 : decode cX1_copy 18 = .ok (.bipush 8, 2) := by decide +kernel
theorem dX1_copy_20 : decode cX1_copy 20 = .ok (.invokestatic 37, 3) := by decide +kernel
theorem dX1_copy_23 : decode cX1_copy 23 = .ok (.aload_n 1, 1) := by decide +kernel
theorem dX1_copy_24 : decode cX1_copy 24 = .ok (.getfield 15, 3) := by decide +kernel
theorem dX1_copy_27 : decode cX1_copy 27 = .ok (.iconst 0, 1) := by decide +kernel
theorem dX1_copy_28 : decode cX1_copy 28 = .ok (.aload_n 0, 1) := by decide +kernel
theorem dX1_copy_29 : decode cX1_copy 29 = .ok (.getfield 15, 3) := by decide +kernel
theorem dX1_copy_32 : decode cX1_copy 32 = .ok (.iconst 0, 1) := by decide +kernel
theorem dX1_copy_33 : decode cX1_copy 33 = .ok (.bipush 8, 2) := by decide +kernel
theorem dX1_copy_35 : decode cX1_copy 35 = .ok (.invokestatic 37, 3) := by decide +kernel
theorem dX1_copy_38 : decode cX1_copy 38 = .ok (.aload_n 1, 1) := by decide +kernel
theorem dX1_copy_39 : decode cX1_copy 39 = .ok (.getfield 18, 3) := by decide +kernel
theorem dX1_copy_42 : decode cX1_copy 42 = .ok (.iconst 0, 1) := by decide +kernel
theorem dX1_copy_43 : decode cX1_copy 43 = .ok (.aload_n 0, 1) := by decide +kernel
theorem dX1_copy_44 : decode cX1_copy 44 = .ok (.getfield 18, 3) := by decide +kernel
theorem dX1_copy_47 : decode cX1_copy 47 = .ok (.iconst 0, 1) := by decide +kernel
theorem dX1_copy_48 : decode cX1_copy 48 = .ok (.bipush 8, 2) := by decide +kernel
theorem dX1_copy_50 : decode cX1_copy 50 = .ok (.invokestatic 37, 3) := by decide +kernel
theorem dX1_copy_53 : decode cX1_copy 53 = .ok (.aload_n 0, 1) := by decide +kernel
theorem dX1_copy_54 : decode cX1_copy 54 = .ok (.aload_n 1, 1) := by decide +kernel
theorem dX1_copy_55 : decode cX1_copy 55 = .ok (.getfield 31, 3) := by decide +kernel
theorem dX1_copy_58 : decode cX1_copy 58 = .ok (.putfield 31, 3) := by decide +kernel
theorem dX1_copy_61 : decode cX1_copy 61 = .ok (.aload_n 1, 1) := by decide +kernel
theorem dX1_copy_62 : decode cX1_copy 62 = .ok (.getfield 21, 3) := by decide +kernel
theorem dX1_copy_65 : decode cX1_copy 65 = .ok (.iconst 0, 1) := by decide +kernel
theorem dX1_copy_66 : decode cX1_copy 66 = .ok (.aload_n 0, 1) := by decide +kernel
theorem dX1_copy_67 : decode cX1_copy 67 = .ok (.getfield 21, 3) := by decide +kernel
theorem dX1_copy_70 : decode cX1_copy 70 = .ok (.iconst 0, 1) := by decide +kernel
theorem dX1_copy_71 : decode cX1_copy 71 = .ok (.iconst 3, 1) := by decide +kernel
theorem dX1_copy_72 : decode cX1_copy 72 = .ok (.invokestatic 37, 3) := by decide +kernel
theorem dX1_copy_75 : decode cX1_copy 75 = .ok (.aload_n 0, 1) := by decide +kernel
theorem dX1_copy_76 : decode cX1_copy 76 = .ok (.aload_n 1, 1) := by decide +kernel
theorem dX1_copy_77 : decode cX1_copy 77 = .ok (.getfield 34, 3) := by decide +kernel
theorem dX1_copy_80 : decode cX1_copy 80 = .ok (.putfield 34, 3) := by decide +kernel
theorem dX1_copy_83 : decode cX1_copy 83 = .ok (.aload_n 1, 1) := by decide +kernel
theorem dX1_copy_84 : decode cX1_copy 84 = .ok (.getfield 24, 3) := by decide +kernel
theorem dX1_copy_87 : decode cX1_copy 87 = .ok (.iconst 0, 1) := by decide +kernel
theorem dX1_copy_88 : decode cX1_copy 88 = .ok (.aload_n 0, 1) := by decide +kernel
theorem dX1_copy_89 : decode cX1_copy 89 = .ok (.getfield 24, 3) := by decide +kernel
theorem dX1_copy_92 : decode cX1_copy 92 = .ok (.iconst 0, 1) := by decide +kernel
theorem dX1_copy_93 : decode cX1_copy 93 = .ok (.iconst 5, 1) := by decide +kernel
theorem dX1_copy_94 : decode cX1_copy 94 = .ok (.invokestatic 37, 3) := by decide +kernel
theorem dX1_copy_97 : decode cX1_copy 97 = .ok (.return_, 1) := by decide +kernel
theorem dX1_has_0 : decode cX1_has 0 = .ok (.iload_n 1, 1) := by decide +kernel
theorem dX1_has_1 : decode cX1_has 1 = .ok (.ifCond .lt 15, 3) := by decide +kernel
theorem dX1_has_4 : decode cX1_has 4 = .ok (.iload_n 1, 1) := by decide +kernel
theorem dX1_has_5 : decode cX1_has 5 = .ok (.aload_n 0, 1) := by decide +kernel
theorem dX1_has_6 : decode cX1_has 6 = .ok (.getfield 27, 3) := by decide +kernel
theorem dX1_has_9 : decode cX1_has 9 = .ok (.if_icmp .ge 7, 3) := by decide +kernel
theorem dX1_has_12 : decode cX1_has 12 = .ok (.iconst 1, 1) := by decide +kernel
theorem dX1_has_13 : decode cX1_has 13 = .ok (.goto 4, 3) := by decide +kernel
theorem dX1_has_16 : decode cX1_has 16 = .ok (.iconst 0, 1) := by decide +kernel
theorem dX1_has_17 : decode cX1_has 17 = .ok (.ireturn, 1) := by decide +kernel
theorem dX1_next_0 : decode cX1_next 0 = .ok (.iload_n 1, 1) := by decide +kernel
theorem dX1_next_1 : decode cX1_next 1 = .ok (.iconst 1, 1) := by decide +kernel
theorem dX1_next_2 : decode cX1_next 2 = .ok (.iadd, 1) := by decide +kernel
theorem dX1_next_3 : decode cX1_next 3 = .ok (.aload_n 0, 1) := by decide +kernel
theorem dX1_next_4 : decode cX1_next 4 = .ok (.getfield 27, 3) := by decide +kernel
theorem dX1_next_7 : decode cX1_next 7 = .ok (.if_icmp .ge 9, 3) := by decide +kernel
theorem dX1_next_10 : decode cX1_next 10 = .ok (.iload_n 1, 1) := by decide +kernel
theorem dX1_next_11 : decode cX1_next 11 = .ok (.iconst 1, 1) := by decide +kernel
theorem dX1_next_12 : decode cX1_next 12 = .ok (.iadd, 1) := by decide +kernel
theorem dX1_next_13 : decode cX1_next 13 = .ok (.goto 4, 3) := by decide +kernel
theorem dX1_next_16 : decode cX1_next 16 = .ok (.iconst 0, 1) := by decide +kernel
theorem dX1_next_17 : decode cX1_next 17 = .ok (.ireturn, 1) := by decide +kernel
theorem dX1_before_0 : decode cX1_before 0 = .ok (.iload_n 1, 1) := by decide +kernel
theorem dX1_before_1 : decode cX1_before 1 = .ok (.ifCond .le 9, 3) := by decide +kernel
theorem dX1_before_4 : decode cX1_before 4 = .ok (.iload_n 1, 1) := by decide +kernel
theorem dX1_before_5 : decode cX1_before 5 = .ok (.iconst 1, 1) := by decide +kernel
theorem dX1_before_6 : decode cX1_before 6 = .ok (.isub, 1) := by decide +kernel
theorem dX1_before_7 : decode cX1_before 7 = .ok (.goto 9, 3) := by decide +kernel
theorem dX1_before_10 : decode cX1_before 10 = .ok (.aload_n 0, 1) := by decide +kernel
theorem dX1_before_11 : decode cX1_before 11 = .ok (.getfield 27, 3) := by decide +kernel
theorem dX1_before_14 : decode cX1_before 14 = .ok (.iconst 1, 1) := by decide +kernel
theorem dX1_before_15 : decode cX1_before 15 = .ok (.isub, 1) := by decide +kernel
theorem dX1_before_16 : decode cX1_before 16 = .ok (.ireturn, 1) := by decide +kernel
theorem dX1_leafBeside_0 : decode cX1_leafBeside 0 = .ok (.iload_n 2, 1) := by decide +kernel
theorem dX1_leafBeside_1 : decode cX1_leafBeside 1 = .ok (.ifCond .ne 11, 3) := by decide +kernel
theorem dX1_leafBeside_4 : decode cX1_leafBeside 4 = .ok (.aload_n 0, 1) := by decide +kernel
theorem dX1_leafBeside_5 : decode cX1_leafBeside 5 = .ok (.iload_n 1, 1) := by decide +kernel
theorem dX1_leafBeside_6 : decode cX1_leafBeside 6 = .ok (.invokevirtual 43, 3) := by decide +kernel
theorem dX1_leafBeside_9 : decode cX1_leafBeside 9 = .ok (.goto 8, 3) := by decide +kernel
theorem dX1_leafBeside_12 : decode cX1_leafBeside 12 = .ok (.aload_n 0, 1) := by decide +kernel
theorem dX1_leafBeside_13 : decode cX1_leafBeside 13 = .ok (.iload_n 1, 1) := by decide +kernel
theorem dX1_leafBeside_14 : decode cX1_leafBeside 14 = .ok (.invokevirtual 47, 3) := by decide +kernel
theorem dX1_leafBeside_17 : decode cX1_leafBeside 17 = .ok (.ireturn, 1) := by decide +kernel
theorem dX1_roomBeside_0 : decode cX1_roomBeside 0 = .ok (.iload_n 2, 1) := by decide +kernel
theorem dX1_roomBeside_1 : decode cX1_roomBeside 1 = .ok (.ifCond .ne 7, 3) := by decide +kernel
theorem dX1_roomBeside_4 : decode cX1_roomBeside 4 = .ok (.iload_n 1, 1) := by decide +kernel
theorem dX1_roomBeside_5 : decode cX1_roomBeside 5 = .ok (.goto 8, 3) := by decide +kernel
theorem dX1_roomBeside_8 : decode cX1_roomBeside 8 = .ok (.aload_n 0, 1) := by decide +kernel
theorem dX1_roomBeside_9 : decode cX1_roomBeside 9 = .ok (.iload_n 1, 1) := by decide +kernel
theorem dX1_roomBeside_10 : decode cX1_roomBeside 10 = .ok (.invokevirtual 47, 3) := by decide +kernel
theorem dX1_roomBeside_13 : decode cX1_roomBeside 13 = .ok (.ireturn, 1) := by decide +kernel
theorem dX1_need_0 : decode cX1_need 0 = .ok (.aload_n 0, 1) := by decide +kernel
theorem dX1_need_1 : decode cX1_need 1 = .ok (.getfield 18, 3) := by decide +kernel
theorem dX1_need_4 : decode cX1_need 4 = .ok (.iload_n 1, 1) := by decide +kernel
theorem dX1_need_5 : decode cX1_need 5 = .ok (.iaload, 1) := by decide +kernel
theorem dX1_need_6 : decode cX1_need 6 = .ok (.iconst 1, 1) := by decide +kernel
theorem dX1_need_7 : decode cX1_need 7 = .ok (.iadd, 1) := by decide +kernel
theorem dX1_need_8 : decode cX1_need 8 = .ok (.ireturn, 1) := by decide +kernel
theorem dX1_isTakenAs_0 : decode cX1_isTakenAs 0 = .ok (.getstatic 50, 3) := by decide +kernel
theorem dX1_isTakenAs_3 : decode cX1_isTakenAs 3 = .ok (.aload_n 0, 1) := by decide +kernel
theorem dX1_isTakenAs_4 : decode cX1_isTakenAs 4 = .ok (.getfield 15, 3) := by decide +kernel
theorem dX1_isTakenAs_7 : decode cX1_isTakenAs 7 = .ok (.iload_n 1, 1) := by decide +kernel
theorem dX1_isTakenAs_8 : decode cX1_isTakenAs 8 = .ok (.iaload, 1) := by decide +kernel
theorem dX1_isTakenAs_9 : decode cX1_isTakenAs 9 = .ok (.iaload, 1) := by decide +kernel
theorem dX1_isTakenAs_10 : decode cX1_isTakenAs 10 = .ok (.iload_n 2, 1) := by decide +kernel
theorem dX1_isTakenAs_11 : decode cX1_isTakenAs 11 = .ok (.ishr, 1) := by decide +kernel
theorem dX1_isTakenAs_12 : decode cX1_isTakenAs 12 = .ok (.iconst 1, 1) := by decide +kernel
theorem dX1_isTakenAs_13 : decode cX1_isTakenAs 13 = .ok (.iand, 1) := by decide +kernel
theorem dX1_isTakenAs_14 : decode cX1_isTakenAs 14 = .ok (.iconst 1, 1) := by decide +kernel
theorem dX1_isTakenAs_15 : decode cX1_isTakenAs 15 = .ok (.if_icmp .ne 7, 3) := by decide +kernel
theorem dX1_isTakenAs_18 : decode cX1_isTakenAs 18 = .ok (.iconst 1, 1) := by decide +kernel
theorem dX1_isTakenAs_19 : decode cX1_isTakenAs 19 = .ok (.goto 4, 3) := by decide +kernel
theorem dX1_isTakenAs_22 : decode cX1_isTakenAs 22 = .ok (.iconst 0, 1) := by decide +kernel
theorem dX1_isTakenAs_23 : decode cX1_isTakenAs 23 = .ok (.ireturn, 1) := by decide +kernel
theorem dX1_toldWidth_0 : decode cX1_toldWidth 0 = .ok (.aload_n 0, 1) := by decide +kernel
theorem dX1_toldWidth_1 : decode cX1_toldWidth 1 = .ok (.getfield 9, 3) := by decide +kernel
theorem dX1_toldWidth_4 : decode cX1_toldWidth 4 = .ok (.iload_n 1, 1) := by decide +kernel
theorem dX1_toldWidth_5 : decode cX1_toldWidth 5 = .ok (.iaload, 1) := by decide +kernel
theorem dX1_toldWidth_6 : decode cX1_toldWidth 6 = .ok (.aload_n 0, 1) := by decide +kernel
theorem dX1_toldWidth_7 : decode cX1_toldWidth 7 = .ok (.getfield 9, 3) := by decide +kernel
theorem dX1_toldWidth_10 : decode cX1_toldWidth 10 = .ok (.aload_n 0, 1) := by decide +kernel
theorem dX1_toldWidth_11 : decode cX1_toldWidth 11 = .ok (.iload_n 1, 1) := by decide +kernel
theorem dX1_toldWidth_12 : decode cX1_toldWidth 12 = .ok (.invokevirtual 43, 3) := by decide +kernel
theorem dX1_toldWidth_15 : decode cX1_toldWidth 15 = .ok (.iaload, 1) := by decide +kernel
theorem dX1_toldWidth_16 : decode cX1_toldWidth 16 = .ok (.invokestatic 53, 3) := by decide +kernel
theorem dX1_toldWidth_19 : decode cX1_toldWidth 19 = .ok (.ireturn, 1) := by decide +kernel
theorem dX1_canStandAt_0 : decode cX1_canStandAt 0 = .ok (.aload_n 0, 1) := by decide +kernel
theorem dX1_canStandAt_1 : decode cX1_canStandAt 1 = .ok (.iload_n 1, 1) := by decide +kernel
theorem dX1_canStandAt_2 : decode cX1_canStandAt 2 = .ok (.invokevirtual 47, 3) := by decide +kernel
theorem dX1_canStandAt_5 : decode cX1_canStandAt 5 = .ok (.istore_n 3, 1) := by decide +kernel
theorem dX1_canStandAt_6 : decode cX1_canStandAt 6 = .ok (.aload_n 0, 1) := by decide +kernel
theorem dX1_canStandAt_7 : decode cX1_canStandAt 7 = .ok (.iload_n 3, 1) := by decide +kernel
theorem dX1_canStandAt_8 : decode cX1_canStandAt 8 = .ok (.invokevirtual 57, 3) := by decide +kernel
theorem dX1_canStandAt_11 : decode cX1_canStandAt 11 = .ok (.aload_n 0, 1) := by decide +kernel
theorem dX1_canStandAt_12 : decode cX1_canStandAt 12 = .ok (.iload_n 1, 1) := by decide +kernel
theorem dX1_canStandAt_13 : decode cX1_canStandAt 13 = .ok (.invokevirtual 57, 3) := by decide +kernel
theorem dX1_canStandAt_16 : decode cX1_canStandAt 16 = .ok (.iadd, 1) := by decide +kernel
theorem dX1_canStandAt_17 : decode cX1_canStandAt 17 = .ok (.istore 4, 2) := by decide +kernel
theorem dX1_canStandAt_19 : decode cX1_canStandAt 19 = .ok (.aload_n 0, 1) := by decide +kernel
theorem dX1_canStandAt_20 : decode cX1_canStandAt 20 = .ok (.getfield 9, 3) := by decide +kernel
theorem dX1_canStandAt_23 : decode cX1_canStandAt 23 = .ok (.iload_n 3, 1) := by decide +kernel
theorem dX1_canStandAt_24 : decode cX1_canStandAt 24 = .ok (.iaload, 1) := by decide +kernel
theorem dX1_canStandAt_25 : decode cX1_canStandAt 25 = .ok (.iload_n 2, 1) := by decide +kernel
theorem dX1_canStandAt_26 : decode cX1_canStandAt 26 = .ok (.invokestatic 53, 3) := by decide +kernel
theorem dX1_canStandAt_29 : decode cX1_canStandAt 29 = .ok (.istore 5, 2) := by decide +kernel
theorem dX1_canStandAt_31 : decode cX1_canStandAt 31 = .ok (.iload 5, 2) := by decide +kernel
theorem dX1_canStandAt_33 : decode cX1_canStandAt 33 = .ok (.aload_n 0, 1) := by decide +kernel
theorem dX1_canStandAt_34 : decode cX1_canStandAt 34 = .ok (.iload_n 3, 1) := by decide +kernel
theorem dX1_canStandAt_35 : decode cX1_canStandAt 35 = .ok (.invokevirtual 60, 3) := by decide +kernel
theorem dX1_canStandAt_38 : decode cX1_canStandAt 38 = .ok (.if_icmp .lt 20, 3) := by decide +kernel
theorem dX1_canStandAt_41 : decode cX1_canStandAt 41 = .ok (.iload 4, 2) := by decide +kernel
theorem dX1_canStandAt_43 : decode cX1_canStandAt 43 = .ok (.iload 5, 2) := by decide +kernel
theorem dX1_canStandAt_45 : decode cX1_canStandAt 45 = .ok (.isub, 1) := by decide +kernel
theorem dX1_canStandAt_46 : decode cX1_canStandAt 46 = .ok (.aload_n 0, 1) := by decide +kernel
theorem dX1_canStandAt_47 : decode cX1_canStandAt 47 = .ok (.iload_n 1, 1) := by decide +kernel
theorem dX1_canStandAt_48 : decode cX1_canStandAt 48 = .ok (.invokevirtual 60, 3) := by decide +kernel
theorem dX1_canStandAt_51 : decode cX1_canStandAt 51 = .ok (.if_icmp .lt 7, 3) := by decide +kernel
theorem dX1_canStandAt_54 : decode cX1_canStandAt 54 = .ok (.iconst 1, 1) := by decide +kernel
theorem dX1_canStandAt_55 : decode cX1_canStandAt 55 = .ok (.goto 4, 3) := by decide +kernel
theorem dX1_canStandAt_58 : decode cX1_canStandAt 58 = .ok (.iconst 0, 1) := by decide +kernel
theorem dX1_canStandAt_59 : decode cX1_canStandAt 59 = .ok (.ireturn, 1) := by decide +kernel
theorem dX1_hasDoorAt_0 : decode cX1_hasDoorAt 0 = .ok (.iconst 0, 1) := by decide +kernel
theorem dX1_hasDoorAt_1 : decode cX1_hasDoorAt 1 = .ok (.istore_n 2, 1) := by decide +kernel
theorem dX1_hasDoorAt_2 : decode cX1_hasDoorAt 2 = .ok (.iload_n 2, 1) := by decide +kernel
theorem dX1_hasDoorAt_3 : decode cX1_hasDoorAt 3 = .ok (.aload_n 0, 1) := by decide +kernel
theorem dX1_hasDoorAt_4 : decode cX1_hasDoorAt 4 = .ok (.getfield 31, 3) := by decide +kernel
theorem dX1_hasDoorAt_7 : decode cX1_hasDoorAt 7 = .ok (.if_icmp .ge 21, 3) := by decide +kernel
theorem dX1_hasDoorAt_10 : decode cX1_hasDoorAt 10 = .ok (.aload_n 0, 1) := by decide +kernel
theorem dX1_hasDoorAt_11 : decode cX1_hasDoorAt 11 = .ok (.getfield 21, 3) := by decide +kernel
theorem dX1_hasDoorAt_14 : decode cX1_hasDoorAt 14 = .ok (.iload_n 2, 1) := by decide +kernel
theorem dX1_hasDoorAt_15 : decode cX1_hasDoorAt 15 = .ok (.iaload, 1) := by decide +kernel
theorem dX1_hasDoorAt_16 : decode cX1_hasDoorAt 16 = .ok (.iload_n 1, 1) := by decide +kernel
theorem dX1_hasDoorAt_17 : decode cX1_hasDoorAt 17 = .ok (.if_icmp .ne 5, 3) := by decide +kernel
theorem dX1_hasDoorAt_20 : decode cX1_hasDoorAt 20 = .ok (.iconst 1, 1) := by decide +kernel
theorem dX1_hasDoorAt_21 : decode cX1_hasDoorAt 21 = .ok (.ireturn, 1) := by decide +kernel
theorem dX1_hasDoorAt_22 : decode cX1_hasDoorAt 22 = .ok (.iinc 2 1, 3) := by decide +kernel
theorem dX1_hasDoorAt_25 : decode cX1_hasDoorAt 25 = .ok (.goto (-23), 3) := by decide +kernel
theorem dX1_hasDoorAt_28 : decode cX1_hasDoorAt 28 = .ok (.iconst 0, 1) := by decide +kernel
theorem dX1_hasDoorAt_29 : decode cX1_hasDoorAt 29 = .ok (.ireturn, 1) := by decide +kernel
theorem dX2_init_0 : decode cX2_init 0 = .ok (.aload_n 0, 1) := by decide +kernel
theorem dX2_init_1 : decode cX2_init 1 = .ok (.invokespecial 3, 3) := by decide +kernel
theorem dX2_init_4 : decode cX2_init 4 = .ok (.aload_n 0, 1) := by decide +kernel
theorem dX2_init_5 : decode cX2_init 5 = .ok (.bipush 6, 2) := by decide +kernel
theorem dX2_init_7 : decode cX2_init 7 = .ok (.anewarray 9, 3) := by decide +kernel
theorem dX2_init_10 : decode cX2_init 10 = .ok (.putfield 11, 3) := by decide +kernel
theorem dX2_init_13 : decode cX2_init 13 = .ok (.aload_n 0, 1) := by decide +kernel
theorem dX2_init_14 : decode cX2_init 14 = .ok (.iconst 5, 1) := by decide +kernel
theorem dX2_init_15 : decode cX2_init 15 = .ok (.newarray .int, 2) := by decide +kernel
theorem dX2_init_17 : decode cX2_init 17 = .ok (.putfield 17, 3) := by decide +kernel
theorem dX2_init_20 : decode cX2_init 20 = .ok (.aload_n 0, 1) := by decide +kernel
theorem dX2_init_21 : decode cX2_init 21 = .ok (.iconst 5, 1) := by decide +kernel
theorem dX2_init_22 : decode cX2_init 22 = .ok (.newarray .int, 2) := by decide +kernel
theorem dX2_init_24 : decode cX2_init 24 = .ok (.putfield 21, 3) := by decide +kernel
theorem dX2_init_27 : decode cX2_init 27 = .ok (.aload_n 0, 1) := by decide +kernel
theorem dX2_init_28 : decode cX2_init 28 = .ok (.aload_n 1, 1) := by decide +kernel
theorem dX2_init_29 : decode cX2_init 29 = .ok (.putfield 24, 3) := by decide +kernel
theorem dX2_init_32 : decode cX2_init 32 = .ok (.aload_n 0, 1) := by decide +kernel
theorem dX2_init_33 : decode cX2_init 33 = .ok (.new 9, 3) := by decide +kernel
theorem dX2_init_36 : decode cX2_init 36 = .ok (.dup, 1) := by decide +kernel
theorem dX2_init_37 : decode cX2_init 37 = .ok (.aload_n 1, 1) := by decide +kernel
theorem dX2_init_38 : decode cX2_init 38 = .ok (.invokespecial 28, 3) := by decide +kernel
theorem dX2_init_41 : decode cX2_init 41 = .ok (.putfield 31, 3) := by decide +kernel
theorem dX2_init_44 : decode cX2_init 44 = .ok (.iconst 0, 1) := by decide +kernel
theorem dX2_init_45 : decode cX2_init 45 = .ok (.istore_n 2, 1) := by decide +kernel
theorem dX2_init_46 : decode cX2_init 46 = .ok (.iload_n 2, 1) := by decide +kernel
theorem dX2_init_47 : decode cX2_init 47 = .ok (.iconst 5, 1) := by decide +kernel
theorem dX2_init_48 : decode cX2_init 48 = .ok (.if_icmp .gt 23, 3) := by decide +kernel
theorem dX2_init_51 : decode cX2_init 51 = .ok (.aload_n 0, 1) := by decide +kernel
theorem dX2_init_52 : decode cX2_init 52 = .ok (.getfield 11, 3) := by decide +kernel
theorem dX2_init_55 : decode cX2_init 55 = .ok (.iload_n 2, 1) := by decide +kernel
theorem dX2_init_56 : decode cX2_init 56 = .ok (.new 9, 3) := by decide +kernel
theorem dX2_init_59 : decode cX2_init 59 = .ok (.dup, 1) := by decide +kernel
theorem dX2_init_60 : decode cX2_init 60 = .ok (.aload_n 1, 1) := by decide +kernel
theorem dX2_init_61 : decode cX2_init 61 = .ok (.invokespecial 28, 3) := by decide +kernel
theorem dX2_init_64 : decode cX2_init 64 = .ok (.aastore, 1) := by decide +kernel
theorem dX2_init_65 : decode cX2_init 65 = .ok (.iinc 2 1, 3) := by decide +kernel
theorem dX2_init_68 : decode cX2_init 68 = .ok (.goto (-22), 3) := by decide +kernel
theorem dX2_init_71 : decode cX2_init 71 = .ok (.return_, 1) := by decide +kernel
theorem dX2_begin_0 : decode cX2_begin 0 = .ok (.aload_n 0, 1) := by decide +kernel
theorem dX2_begin_1 : decode cX2_begin 1 = .ok (.iload_n 2, 1) := by decide +kernel
theorem dX2_begin_2 : decode cX2_begin 2 = .ok (.putfield 35, 3) := by decide +kernel
theorem dX2_begin_5 : decode cX2_begin 5 = .ok (.aload_n 0, 1) := by decide +kernel
theorem dX2_begin_6 : decode cX2_begin 6 = .ok (.sipush 361, 3) := by decide +kernel
theorem dX2_begin_9 : decode cX2_begin 9 = .ok (.putfield 39, 3) := by decide +kernel
theorem dX2_begin_12 : decode cX2_begin 12 = .ok (.aload_n 0, 1) := by decide +kernel
theorem dX2_begin_13 : decode cX2_begin 13 = .ok (.getfield 11, 3) := by decide +kernel
theorem dX2_begin_16 : decode cX2_begin 16 = .ok (.iconst 0, 1) := by decide +kernel
theorem dX2_begin_17 : decode cX2_begin 17 = .ok (.aaload, 1) := by decide +kernel
theorem dX2_begin_18 : decode cX2_begin 18 = .ok (.aload_n 1, 1) := by decide +kernel
theorem dX2_begin_19 : decode cX2_begin 19 = .ok (.invokevirtual 42, 3) := by decide +kernel
theorem dX2_begin_22 : decode cX2_begin 22 = .ok (.return_, 1) := by decide +kernel
theorem dX2_visit_0 : decode cX2_visit 0 = .ok (.iload_n 2, 1) := by decide +kernel
theorem dX2_visit_1 : decode cX2_visit 1 = .ok (.ifCond .ne 23, 3) := by decide +kernel
theorem dX2_visit_4 : decode cX2_visit 4 = .ok (.aload_n 0, 1) := by decide +kernel
theorem dX2_visit_5 : decode cX2_visit 5 = .ok (.iload_n 3, 1) := by decide +kernel
theorem dX2_visit_6 : decode cX2_visit 6 = .ok (.putfield 39, 3) := by decide +kernel
theorem dX2_visit_9 : decode cX2_visit 9 = .ok (.aload_n 0, 1) := by decide +kernel
theorem dX2_visit_10 : decode cX2_visit 10 = .ok (.getfield 17, 3) := by decide +kernel
theorem dX2_visit_13 : decode cX2_visit 13 = .ok (.iconst 0, 1) := by decide +kernel
theorem dX2_visit_14 : decode cX2_visit 14 = .ok (.aload_n 0, 1) := by decide +kernel
theorem dX2_visit_15 : decode cX2_visit 15 = .ok (.getfield 21, 3) := by decide +kernel
theorem dX2_visit_18 : decode cX2_visit 18 = .ok (.iconst 0, 1) := by decide +kernel
theorem dX2_visit_19 : decode cX2_visit 19 = .ok (.iconst 5, 1) := by decide +kernel
theorem dX2_visit_20 : decode cX2_visit 20 = .ok (.invokestatic 46, 3) := by decide +kernel
theorem dX2_visit_23 : decode cX2_visit 23 = .ok (.return_, 1) := by decide +kernel
theorem dX2_visit_24 : decode cX2_visit 24 = .ok (.iload_n 1, 1) := by decide +kernel
theorem dX2_visit_25 : decode cX2_visit 25 = .ok (.iconst 5, 1) := by decide +kernel
theorem dX2_visit_26 : decode cX2_visit 26 = .ok (.if_icmp .lt 4, 3) := by decide +kernel
theorem dX2_visit_29 : decode cX2_visit 29 = .ok (.return_, 1) := by decide +kernel
theorem dX2_visit_30 : decode cX2_visit 30 = .ok (.iconst 0, 1) := by decide +kernel
theorem dX2_visit_31 : decode cX2_visit 31 = .ok (.istore 4, 2) := by decide +kernel
theorem dX2_visit_33 : decode cX2_visit 33 = .ok (.iload 4, 2) := by decide +kernel
theorem dX2_visit_35 : decode cX2_visit 35 = .ok (.aload_n 0, 1) := by decide +kernel
theorem dX2_visit_36 : decode cX2_visit 36 = .ok (.getfield 24, 3) := by decide +kernel
theorem dX2_visit_39 : decode cX2_visit 39 = .ok (.getfield 52, 3) := by decide +kernel
theorem dX2_visit_42 : decode cX2_visit 42 = .ok (.if_icmp .ge 69, 3) := by decide +kernel
theorem dX2_visit_45 : decode cX2_visit 45 = .ok (.iload_n 2, 1) := by decide +kernel
theorem dX2_visit_46 : decode cX2_visit 46 = .ok (.iload 4, 2) := by decide +kernel
theorem dX2_visit_48 : decode cX2_visit 48 = .ok (.ishr, 1) := by decide +kernel
theorem dX2_visit_49 : decode cX2_visit 49 = .ok (.iconst 1, 1) := by decide +kernel
theorem dX2_visit_50 : decode cX2_visit 50 = .ok (.iand, 1) := by decide +kernel
theorem dX2_visit_51 : decode cX2_visit 51 = .ok (.iconst 1, 1) := by decide +kernel
theorem dX2_visit_52 : decode cX2_visit 52 = .ok (.if_icmp .ne 53, 3) := by decide +kernel
theorem dX2_visit_55 : decode cX2_visit 55 = .ok (.aload_n 0, 1) := by decide +kernel
theorem dX2_visit_56 : decode cX2_visit 56 = .ok (.iload 4, 2) := by decide +kernel
theorem dX2_visit_58 : decode cX2_visit 58 = .ok (.iload_n 1, 1) := by decide +kernel
theorem dX2_visit_59 : decode cX2_visit 59 = .ok (.aload_n 0, 1) := by decide +kernel
theorem dX2_visit_60 : decode cX2_visit 60 = .ok (.getfield 39, 3) := by decide +kernel
theorem dX2_visit_63 : decode cX2_visit 63 = .ok (.iload_n 3, 1) := by decide +kernel
theorem dX2_visit_64 : decode cX2_visit 64 = .ok (.isub, 1) := by decide +kernel
theorem dX2_visit_65 : decode cX2_visit 65 = .ok (.iconst 1, 1) := by decide +kernel
theorem dX2_visit_66 : decode cX2_visit 66 = .ok (.isub, 1) := by decide +kernel
theorem dX2_visit_67 : decode cX2_visit 67 = .ok (.invokevirtual 57, 3) := by decide +kernel
theorem dX2_visit_70 : decode cX2_visit 70 = .ok (.istore 5, 2) := by decide +kernel
theorem dX2_visit_72 : decode cX2_visit 72 = .ok (.iload 5, 2) := by decide +kernel
theorem dX2_visit_74 : decode cX2_visit 74 = .ok (.iconst (-1), 1) := by decide +kernel
theorem dX2_visit_75 : decode cX2_visit 75 = .ok (.if_icmp .eq 30, 3) := by decide +kernel
theorem dX2_visit_78 : decode cX2_visit 78 = .ok (.aload_n 0, 1) := by decide +kernel
theorem dX2_visit_79 : decode cX2_visit 79 = .ok (.getfield 17, 3) := by decide +kernel
theorem dX2_visit_82 : decode cX2_visit 82 = .ok (.iload_n 1, 1) := by decide +kernel
theorem dX2_visit_83 : decode cX2_visit 83 = .ok (.iload 4, 2) := by decide +kernel
theorem dX2_visit_85 : decode cX2_visit 85 = .ok (.iastore, 1) := by decide +kernel
theorem dX2_visit_86 : decode cX2_visit 86 = .ok (.aload_n 0, 1) := by decide +kernel
theorem dX2_visit_87 : decode cX2_visit 87 = .ok (.iload_n 1, 1) := by decide +kernel
theorem dX2_visit_88 : decode cX2_visit 88 = .ok (.iconst 1, 1) := by decide +kernel
theorem dX2_visit_89 : decode cX2_visit 89 = .ok (.iadd, 1) := by decide +kernel
theorem dX2_visit_90 : decode cX2_visit 90 = .ok (.iload_n 2, 1) := by decide +kernel
theorem dX2_visit_91 : decode cX2_visit 91 = .ok (.iconst 1, 1) := by decide +kernel
theorem dX2_visit_92 : decode cX2_visit 92 = .ok (.iload 4, 2) := by decide +kernel
theorem dX2_visit_94 : decode cX2_visit 94 = .ok (.ishl, 1) := by decide +kernel
theorem dX2_visit_95 : decode cX2_visit 95 = .ok (.iconst (-1), 1) := by decide +kernel
theorem dX2_visit_96 : decode cX2_visit 96 = .ok (.ixor, 1) := by decide +kernel
theorem dX2_visit_97 : decode cX2_visit 97 = .ok (.iand, 1) := by decide +kernel
theorem dX2_visit_98 : decode cX2_visit 98 = .ok (.iload_n 3, 1) := by decide +kernel
theorem dX2_visit_99 : decode cX2_visit 99 = .ok (.iload 5, 2) := by decide +kernel
theorem dX2_visit_101 : decode cX2_visit 101 = .ok (.iadd, 1) := by decide +kernel
theorem dX2_visit_102 : decode cX2_visit 102 = .ok (.invokevirtual 61, 3) := by decide +kernel
theorem dX2_visit_105 : decode cX2_visit 105 = .ok (.iinc 4 1, 3) := by decide +kernel
theorem dX2_visit_108 : decode cX2_visit 108 = .ok (.goto (-75), 3) := by decide +kernel
theorem dX2_visit_111 : decode cX2_visit 111 = .ok (.return_, 1) := by decide +kernel
theorem dX2_goTo_0 : decode cX2_goTo 0 = .ok (.iload_n 3, 1) := by decide +kernel
theorem dX2_goTo_1 : decode cX2_goTo 1 = .ok (.bipush 72, 2) := by decide +kernel
theorem dX2_goTo_3 : decode cX2_goTo 3 = .ok (.invokestatic 65, 3) := by decide +kernel
theorem dX2_goTo_6 : decode cX2_goTo 6 = .ok (.istore 4, 2) := by decide +kernel
theorem dX2_goTo_8 : decode cX2_goTo 8 = .ok (.aload_n 0, 1) := by decide +kernel
theorem dX2_goTo_9 : decode cX2_goTo 9 = .ok (.getfield 11, 3) := by decide +kernel
theorem dX2_goTo_12 : decode cX2_goTo 12 = .ok (.iload_n 2, 1) := by decide +kernel
theorem dX2_goTo_13 : decode cX2_goTo 13 = .ok (.iconst 1, 1) := by decide +kernel
theorem dX2_goTo_14 : decode cX2_goTo 14 = .ok (.iadd, 1) := by decide +kernel
theorem dX2_goTo_15 : decode cX2_goTo 15 = .ok (.aaload, 1) := by decide +kernel
theorem dX2_goTo_16 : decode cX2_goTo 16 = .ok (.astore 5, 2) := by decide +kernel
theorem dX2_goTo_18 : decode cX2_goTo 18 = .ok (.aload 5, 2) := by decide +kernel
theorem dX2_goTo_20 : decode cX2_goTo 20 = .ok (.aload_n 0, 1) := by decide +kernel
theorem dX2_goTo_21 : decode cX2_goTo 21 = .ok (.getfield 11, 3) := by decide +kernel
theorem dX2_goTo_24 : decode cX2_goTo 24 = .ok (.iload_n 2, 1) := by decide +kernel
theorem dX2_goTo_25 : decode cX2_goTo 25 = .ok (.aaload, 1) := by decide +kernel
theorem dX2_goTo_26 : decode cX2_goTo 26 = .ok (.invokevirtual 42, 3) := by decide +kernel
theorem dX2_goTo_29 : decode cX2_goTo 29 = .ok (.aload 5, 2) := by decide +kernel
theorem dX2_goTo_31 : decode cX2_goTo 31 = .ok (.aload_n 0, 1) := by decide +kernel
theorem dX2_goTo_32 : decode cX2_goTo 32 = .ok (.getfield 35, 3) := by decide +kernel
theorem dX2_goTo_35 : decode cX2_goTo 35 = .ok (.iconst 0, 1) := by decide +kernel
theorem dX2_goTo_36 : decode cX2_goTo 36 = .ok (.iload_n 1, 1) := by decide +kernel
theorem dX2_goTo_37 : decode cX2_goTo 37 = .ok (.iload 4, 2) := by decide +kernel
theorem dX2_goTo_39 : decode cX2_goTo 39 = .ok (.invokevirtual 71, 3) := by decide +kernel
theorem dX2_goTo_42 : decode cX2_goTo 42 = .ok (.istore 6, 2) := by decide +kernel
theorem dX2_goTo_44 : decode cX2_goTo 44 = .ok (.aload_n 0, 1) := by decide +kernel
theorem dX2_goTo_45 : decode cX2_goTo 45 = .ok (.getfield 31, 3) := by decide +kernel
theorem dX2_goTo_48 : decode cX2_goTo 48 = .ok (.aload_n 0, 1) := by decide +kernel
theorem dX2_goTo_49 : decode cX2_goTo 49 = .ok (.getfield 11, 3) := by decide +kernel
theorem dX2_goTo_52 : decode cX2_goTo 52 = .ok (.iload_n 2, 1) := by decide +kernel
theorem dX2_goTo_53 : decode cX2_goTo 53 = .ok (.aaload, 1) := by decide +kernel
theorem dX2_goTo_54 : decode cX2_goTo 54 = .ok (.invokevirtual 42, 3) := by decide +kernel
theorem dX2_goTo_57 : decode cX2_goTo 57 = .ok (.aload_n 0, 1) := by decide +kernel
theorem dX2_goTo_58 : decode cX2_goTo 58 = .ok (.getfield 31, 3) := by decide +kernel
theorem dX2_goTo_61 : decode cX2_goTo 61 = .ok (.aload_n 0, 1) := by decide +kernel
theorem dX2_goTo_62 : decode cX2_goTo 62 = .ok (.getfield 35, 3) := by decide +kernel
theorem dX2_goTo_65 : decode cX2_goTo 65 = .ok (.iconst 1, 1) := by decide +kernel
theorem dX2_goTo_66 : decode cX2_goTo 66 = .ok (.iload_n 1, 1) := by decide +kernel
theorem dX2_goTo_67 : decode cX2_goTo 67 = .ok (.iload 6, 2) := by decide +kernel
theorem dX2_goTo_69 : decode cX2_goTo 69 = .ok (.iconst (-1), 1) := by decide +kernel
theorem dX2_goTo_70 : decode cX2_goTo 70 = .ok (.if_icmp .ne 8, 3) := by decide +kernel
theorem dX2_goTo_73 : decode cX2_goTo 73 = .ok (.iload 4, 2) := by decide +kernel
theorem dX2_goTo_75 : decode cX2_goTo 75 = .ok (.goto 7, 3) := by decide +kernel
theorem dX2_goTo_78 : decode cX2_goTo 78 = .ok (.iload 6, 2) := by decide +kernel
theorem dX2_goTo_80 : decode cX2_goTo 80 = .ok (.iconst 1, 1) := by decide +kernel
theorem dX2_goTo_81 : decode cX2_goTo 81 = .ok (.isub, 1) := by decide +kernel
theorem dX2_goTo_82 : decode cX2_goTo 82 = .ok (.invokevirtual 71, 3) := by decide +kernel
theorem dX2_goTo_85 : decode cX2_goTo 85 = .ok (.istore 7, 2) := by decide +kernel
theorem dX2_goTo_87 : decode cX2_goTo 87 = .ok (.iload 7, 2) := by decide +kernel
theorem dX2_goTo_89 : decode cX2_goTo 89 = .ok (.iconst (-1), 1) := by decide +kernel
theorem dX2_goTo_90 : decode cX2_goTo 90 = .ok (.if_icmp .ne 6, 3) := by decide +kernel
theorem dX2_goTo_93 : decode cX2_goTo 93 = .ok (.iload 6, 2) := by decide +kernel
theorem dX2_goTo_95 : decode cX2_goTo 95 = .ok (.ireturn, 1) := by decide +kernel
theorem dX2_goTo_96 : decode cX2_goTo 96 = .ok (.aload 5, 2) := by decide +kernel
theorem dX2_goTo_98 : decode cX2_goTo 98 = .ok (.aload_n 0, 1) := by decide +kernel
theorem dX2_goTo_99 : decode cX2_goTo 99 = .ok (.getfield 31, 3) := by decide +kernel
theorem dX2_goTo_102 : decode cX2_goTo 102 = .ok (.invokevirtual 42, 3) := by decide +kernel
theorem dX2_goTo_105 : decode cX2_goTo 105 = .ok (.iload 7, 2) := by decide +kernel
theorem dX2_goTo_107 : decode cX2_goTo 107 = .ok (.ireturn, 1) := by decide +kernel
theorem dX3_init_0 : decode cX3_init 0 = .ok (.aload_n 0, 1) := by decide +kernel
theorem dX3_init_1 : decode cX3_init 1 = .ok (.invokespecial 3, 3) := by decide +kernel
theorem dX3_init_4 : decode cX3_init 4 = .ok (.aload_n 0, 1) := by decide +kernel
theorem dX3_init_5 : decode cX3_init 5 = .ok (.bipush 8, 2) := by decide +kernel
theorem dX3_init_7 : decode cX3_init 7 = .ok (.newarray .int, 2) := by decide +kernel
theorem dX3_init_9 : decode cX3_init 9 = .ok (.putfield 9, 3) := by decide +kernel
theorem dX3_init_12 : decode cX3_init 12 = .ok (.aload_n 0, 1) := by decide +kernel
theorem dX3_init_13 : decode cX3_init 13 = .ok (.bipush 8, 2) := by decide +kernel
theorem dX3_init_15 : decode cX3_init 15 = .ok (.newarray .int, 2) := by decide +kernel
theorem dX3_init_17 : decode cX3_init 17 = .ok (.putfield 15, 3) := by decide +kernel
theorem dX3_init_20 : decode cX3_init 20 = .ok (.return_, 1) := by decide +kernel
theorem dX3_way_0 : decode cX3_way 0 = .ok (.iconst 0, 1) := by decide +kernel
theorem dX3_way_1 : decode cX3_way 1 = .ok (.istore 4, 2) := by decide +kernel
theorem dX3_way_3 : decode cX3_way 3 = .ok (.iload_n 2, 1) := by decide +kernel
theorem dX3_way_4 : decode cX3_way 4 = .ok (.istore 5, 2) := by decide +kernel
theorem dX3_way_6 : decode cX3_way 6 = .ok (.iconst 0, 1) := by decide +kernel
theorem dX3_way_7 : decode cX3_way 7 = .ok (.istore 6, 2) := by decide +kernel
theorem dX3_way_9 : decode cX3_way 9 = .ok (.iload 6, 2) := by decide +kernel
theorem dX3_way_11 : decode cX3_way 11 = .ok (.aload_n 0, 1) := by decide +kernel
theorem dX3_way_12 : decode cX3_way 12 = .ok (.getfield 18, 3) := by decide +kernel
theorem dX3_way_15 : decode cX3_way 15 = .ok (.if_icmp .ge 46, 3) := by decide +kernel
theorem dX3_way_18 : decode cX3_way 18 = .ok (.aload_n 0, 1) := by decide +kernel
theorem dX3_way_19 : decode cX3_way 19 = .ok (.getfield 9, 3) := by decide +kernel
theorem dX3_way_22 : decode cX3_way 22 = .ok (.iload 6, 2) := by decide +kernel
theorem dX3_way_24 : decode cX3_way 24 = .ok (.iaload, 1) := by decide +kernel
theorem dX3_way_25 : decode cX3_way 25 = .ok (.iload_n 1, 1) := by decide +kernel
theorem dX3_way_26 : decode cX3_way 26 = .ok (.if_icmp .ne 29, 3) := by decide +kernel
theorem dX3_way_29 : decode cX3_way 29 = .ok (.iload 4, 2) := by decide +kernel
theorem dX3_way_31 : decode cX3_way 31 = .ok (.iload 5, 2) := by decide +kernel
theorem dX3_way_33 : decode cX3_way 33 = .ok (.aload_n 0, 1) := by decide +kernel
theorem dX3_way_34 : decode cX3_way 34 = .ok (.getfield 15, 3) := by decide +kernel
theorem dX3_way_37 : decode cX3_way 37 = .ok (.iload 6, 2) := by decide +kernel
theorem dX3_way_39 : decode cX3_way 39 = .ok (.iaload, 1) := by decide +kernel
theorem dX3_way_40 : decode cX3_way 40 = .ok (.invokestatic 22, 3) := by decide +kernel
theorem dX3_way_43 : decode cX3_way 43 = .ok (.iadd, 1) := by decide +kernel
theorem dX3_way_44 : decode cX3_way 44 = .ok (.istore 4, 2) := by decide +kernel
theorem dX3_way_46 : decode cX3_way 46 = .ok (.aload_n 0, 1) := by decide +kernel
theorem dX3_way_47 : decode cX3_way 47 = .ok (.getfield 15, 3) := by decide +kernel
theorem dX3_way_50 : decode cX3_way 50 = .ok (.iload 6, 2) := by decide +kernel
theorem dX3_way_52 : decode cX3_way 52 = .ok (.iaload, 1) := by decide +kernel
theorem dX3_way_53 : decode cX3_way 53 = .ok (.istore 5, 2) := by decide +kernel
theorem dX3_way_55 : decode cX3_way 55 = .ok (.iinc 6 1, 3) := by decide +kernel
theorem dX3_way_58 : decode cX3_way 58 = .ok (.goto (-49), 3) := by decide +kernel
theorem dX3_way_61 : decode cX3_way 61 = .ok (.iload 4, 2) := by decide +kernel
theorem dX3_way_63 : decode cX3_way 63 = .ok (.iload 5, 2) := by decide +kernel
theorem dX3_way_65 : decode cX3_way 65 = .ok (.iload_n 3, 1) := by decide +kernel
theorem dX3_way_66 : decode cX3_way 66 = .ok (.invokestatic 22, 3) := by decide +kernel
theorem dX3_way_69 : decode cX3_way 69 = .ok (.iadd, 1) := by decide +kernel
theorem dX3_way_70 : decode cX3_way 70 = .ok (.ireturn, 1) := by decide +kernel
theorem dX3_shorter_0 : decode cX3_shorter 0 = .ok (.iload_n 0, 1) := by decide +kernel
theorem dX3_shorter_1 : decode cX3_shorter 1 = .ok (.iload_n 1, 1) := by decide +kernel
theorem dX3_shorter_2 : decode cX3_shorter 2 = .ok (.invokestatic 26, 3) := by decide +kernel
theorem dX3_shorter_5 : decode cX3_shorter 5 = .ok (.istore_n 2, 1) := by decide +kernel
theorem dX3_shorter_6 : decode cX3_shorter 6 = .ok (.iload_n 2, 1) := by decide +kernel
theorem dX3_shorter_7 : decode cX3_shorter 7 = .ok (.bipush 72, 2) := by decide +kernel
theorem dX3_shorter_9 : decode cX3_shorter 9 = .ok (.iload_n 2, 1) := by decide +kernel
theorem dX3_shorter_10 : decode cX3_shorter 10 = .ok (.isub, 1) := by decide +kernel
theorem dX3_shorter_11 : decode cX3_shorter 11 = .ok (.invokestatic 29, 3) := by decide +kernel
theorem dX3_shorter_14 : decode cX3_shorter 14 = .ok (.ireturn, 1) := by decide +kernel
theorem dX4_init_0 : decode cX4_init 0 = .ok (.aload_n 0, 1) := by decide +kernel
theorem dX4_init_1 : decode cX4_init 1 = .ok (.invokespecial 3, 3) := by decide +kernel
theorem dX4_init_4 : decode cX4_init 4 = .ok (.aload_n 0, 1) := by decide +kernel
theorem dX4_init_5 : decode cX4_init 5 = .ok (.sipush 200, 3) := by decide +kernel
theorem dX4_init_8 : decode cX4_init 8 = .ok (.newarray .byte, 2) := by decide +kernel
theorem dX4_init_10 : decode cX4_init 10 = .ok (.putfield 9, 3) := by decide +kernel
theorem dX4_init_13 : decode cX4_init 13 = .ok (.aload_n 0, 1) := by decide +kernel
theorem dX4_init_14 : decode cX4_init 14 = .ok (.new 15, 3) := by decide +kernel
theorem dX4_init_17 : decode cX4_init 17 = .ok (.dup, 1) := by decide +kernel
theorem dX4_init_18 : decode cX4_init 18 = .ok (.invokespecial 17, 3) := by decide +kernel
theorem dX4_init_21 : decode cX4_init 21 = .ok (.putfield 18, 3) := by decide +kernel
theorem dX4_init_24 : decode cX4_init 24 = .ok (.return_, 1) := by decide +kernel
theorem dX4_read_0 : decode cX4_read 0 = .ok (.aload_n 0, 1) := by decide +kernel
theorem dX4_read_1 : decode cX4_read 1 = .ok (.getfield 18, 3) := by decide +kernel
theorem dX4_read_4 : decode cX4_read 4 = .ok (.aload_n 1, 1) := by decide +kernel
theorem dX4_read_5 : decode cX4_read 5 = .ok (.invokevirtual 22, 3) := by decide +kernel
theorem dX4_read_8 : decode cX4_read 8 = .ok (.aload_n 0, 1) := by decide +kernel
theorem dX4_read_9 : decode cX4_read 9 = .ok (.iconst 0, 1) := by decide +kernel
theorem dX4_read_10 : decode cX4_read 10 = .ok (.putfield 26, 3) := by decide +kernel
theorem dX4_read_13 : decode cX4_read 13 = .ok (.aload_n 0, 1) := by decide +kernel
theorem dX4_read_14 : decode cX4_read 14 = .ok (.iconst 1, 1) := by decide +kernel
theorem dX4_read_15 : decode cX4_read 15 = .ok (.putfield 30, 3) := by decide +kernel
theorem dX4_read_18 : decode cX4_read 18 = .ok (.aload_n 0, 1) := by decide +kernel
theorem dX4_read_19 : decode cX4_read 19 = .ok (.getfield 30, 3) := by decide +kernel
theorem dX4_read_22 : decode cX4_read 22 = .ok (.bipush 12, 2) := by decide +kernel
theorem dX4_read_24 : decode cX4_read 24 = .ok (.if_icmp .gt 64, 3) := by decide +kernel
theorem dX4_read_27 : decode cX4_read 27 = .ok (.aload_n 0, 1) := by decide +kernel
theorem dX4_read_28 : decode cX4_read 28 = .ok (.invokevirtual 33, 3) := by decide +kernel
theorem dX4_read_31 : decode cX4_read 31 = .ok (.ifCond .ne 8, 3) := by decide +kernel
theorem dX4_read_34 : decode cX4_read 34 = .ok (.aload_n 0, 1) := by decide +kernel
theorem dX4_read_35 : decode cX4_read 35 = .ok (.getfield 37, 3) := by decide +kernel
theorem dX4_read_38 : decode cX4_read 38 = .ok (.ireturn, 1) := by decide +kernel
theorem dX4_read_39 : decode cX4_read 39 = .ok (.aload_n 0, 1) := by decide +kernel
theorem dX4_read_40 : decode cX4_read 40 = .ok (.invokevirtual 40, 3) := by decide +kernel
theorem dX4_read_43 : decode cX4_read 43 = .ok (.aload_n 0, 1) := by decide +kernel
theorem dX4_read_44 : decode cX4_read 44 = .ok (.getfield 37, 3) := by decide +kernel
theorem dX4_read_47 : decode cX4_read 47 = .ok (.aload_n 0, 1) := by decide +kernel
theorem dX4_read_48 : decode cX4_read 48 = .ok (.getfield 43, 3) := by decide +kernel
theorem dX4_read_51 : decode cX4_read 51 = .ok (.if_icmp .ne 5, 3) := by decide +kernel
theorem dX4_read_54 : decode cX4_read 54 = .ok (.iconst (-1), 1) := by decide +kernel
theorem dX4_read_55 : decode cX4_read 55 = .ok (.ireturn, 1) := by decide +kernel
theorem dX4_read_56 : decode cX4_read 56 = .ok (.aload_n 0, 1) := by decide +kernel
theorem dX4_read_57 : decode cX4_read 57 = .ok (.getfield 9, 3) := by decide +kernel
theorem dX4_read_60 : decode cX4_read 60 = .ok (.aload_n 0, 1) := by decide +kernel
theorem dX4_read_61 : decode cX4_read 61 = .ok (.getfield 37, 3) := by decide +kernel
theorem dX4_read_64 : decode cX4_read 64 = .ok (.baload, 1) := by decide +kernel
theorem dX4_read_65 : decode cX4_read 65 = .ok (.bipush 59, 2) := by decide +kernel
theorem dX4_read_67 : decode cX4_read 67 = .ok (.if_icmp .eq 8, 3) := by decide +kernel
theorem dX4_read_70 : decode cX4_read 70 = .ok (.aload_n 0, 1) := by decide +kernel
theorem dX4_read_71 : decode cX4_read 71 = .ok (.getfield 37, 3) := by decide +kernel
theorem dX4_read_74 : decode cX4_read 74 = .ok (.ireturn, 1) := by decide +kernel
theorem dX4_read_75 : decode cX4_read 75 = .ok (.aload_n 0, 1) := by decide +kernel
theorem dX4_read_76 : decode cX4_read 76 = .ok (.dup, 1) := by decide +kernel
theorem dX4_read_77 : decode cX4_read 77 = .ok (.getfield 30, 3) := by decide +kernel
theorem dX4_read_80 : decode cX4_read 80 = .ok (.iconst 1, 1) := by decide +kernel
theorem dX4_read_81 : decode cX4_read 81 = .ok (.iadd, 1) := by decide +kernel
theorem dX4_read_82 : decode cX4_read 82 = .ok (.putfield 30, 3) := by decide +kernel
theorem dX4_read_85 : decode cX4_read 85 = .ok (.goto (-67), 3) := by decide +kernel
theorem dX4_read_88 : decode cX4_read 88 = .ok (.aload_n 0, 1) := by decide +kernel
theorem dX4_read_89 : decode cX4_read 89 = .ok (.getfield 37, 3) := by decide +kernel
theorem dX4_read_92 : decode cX4_read 92 = .ok (.ireturn, 1) := by decide +kernel
theorem dX4_readLine_0 : decode cX4_readLine 0 = .ok (.aload_n 0, 1) := by decide +kernel
theorem dX4_readLine_1 : decode cX4_readLine 1 = .ok (.invokevirtual 40, 3) := by decide +kernel
theorem dX4_readLine_4 : decode cX4_readLine 4 = .ok (.aload_n 0, 1) := by decide +kernel
theorem dX4_readLine_5 : decode cX4_readLine 5 = .ok (.invokevirtual 46, 3) := by decide +kernel
theorem dX4_readLine_8 : decode cX4_readLine 8 = .ok (.istore_n 1, 1) := by decide +kernel
theorem dX4_readLine_9 : decode cX4_readLine 9 = .ok (.iload_n 1, 1) := by decide +kernel
theorem dX4_readLine_10 : decode cX4_readLine 10 = .ok (.tableswitch 95 (-1) 9 #[58, 60, 65, 95, 95, 95, 95, 70, 75, 80, 85], 58) := by decide +kernel
theorem dX4_readLine_68 : decode cX4_readLine 68 = .ok (.iconst 0, 1) := by decide +kernel
theorem dX4_readLine_69 : decode cX4_readLine 69 = .ok (.ireturn, 1) := by decide +kernel
theorem dX4_readLine_70 : decode cX4_readLine 70 = .ok (.aload_n 0, 1) := by decide +kernel
theorem dX4_readLine_71 : decode cX4_readLine 71 = .ok (.invokevirtual 50, 3) := by decide +kernel
theorem dX4_readLine_74 : decode cX4_readLine 74 = .ok (.ireturn, 1) := by decide +kernel
theorem dX4_readLine_75 : decode cX4_readLine 75 = .ok (.aload_n 0, 1) := by decide +kernel
theorem dX4_readLine_76 : decode cX4_readLine 76 = .ok (.invokevirtual 53, 3) := by decide +kernel
theorem dX4_readLine_79 : decode cX4_readLine 79 = .ok (.ireturn, 1) := by decide +kernel
theorem dX4_readLine_80 : decode cX4_readLine 80 = .ok (.aload_n 0, 1) := by decide +kernel
theorem dX4_readLine_81 : decode cX4_readLine 81 = .ok (.invokevirtual 56, 3) := by decide +kernel
theorem dX4_readLine_84 : decode cX4_readLine 84 = .ok (.ireturn, 1) := by decide +kernel
theorem dX4_readLine_85 : decode cX4_readLine 85 = .ok (.aload_n 0, 1) := by decide +kernel
theorem dX4_readLine_86 : decode cX4_readLine 86 = .ok (.invokevirtual 59, 3) := by decide +kernel
theorem dX4_readLine_89 : decode cX4_readLine 89 = .ok (.ireturn, 1) := by decide +kernel
theorem dX4_readLine_90 : decode cX4_readLine 90 = .ok (.aload_n 0, 1) := by decide +kernel
theorem dX4_readLine_91 : decode cX4_readLine 91 = .ok (.invokevirtual 62, 3) := by decide +kernel
theorem dX4_readLine_94 : decode cX4_readLine 94 = .ok (.ireturn, 1) := by decide +kernel
theorem dX4_readLine_95 : decode cX4_readLine 95 = .ok (.aload_n 0, 1) := by decide +kernel
theorem dX4_readLine_96 : decode cX4_readLine 96 = .ok (.getfield 18, 3) := by decide +kernel
theorem dX4_readLine_99 : decode cX4_readLine 99 = .ok (.iconst 0, 1) := by decide +kernel
theorem dX4_readLine_100 : decode cX4_readLine 100 = .ok (.putfield 65, 3) := by decide +kernel
theorem dX4_readLine_103 : decode cX4_readLine 103 = .ok (.iconst 1, 1) := by decide +kernel
theorem dX4_readLine_104 : decode cX4_readLine 104 = .ok (.ireturn, 1) := by decide +kernel
theorem dX4_readLine_105 : decode cX4_readLine 105 = .ok (.aload_n 0, 1) := by decide +kernel
theorem dX4_readLine_106 : decode cX4_readLine 106 = .ok (.iload_n 1, 1) := by decide +kernel
theorem dX4_readLine_107 : decode cX4_readLine 107 = .ok (.iconst 2, 1) := by decide +kernel
theorem dX4_readLine_108 : decode cX4_readLine 108 = .ok (.isub, 1) := by decide +kernel
theorem dX4_readLine_109 : decode cX4_readLine 109 = .ok (.invokevirtual 68, 3) := by decide +kernel
theorem dX4_readLine_112 : decode cX4_readLine 112 = .ok (.ireturn, 1) := by decide +kernel
theorem dX4_readHouse_0 : decode cX4_readHouse 0 = .ok (.aload_n 0, 1) := by decide +kernel
theorem dX4_readHouse_1 : decode cX4_readHouse 1 = .ok (.iconst 3, 1) := by decide +kernel
theorem dX4_readHouse_2 : decode cX4_readHouse 2 = .ok (.bipush 8, 2) := by decide +kernel
theorem dX4_readHouse_4 : decode cX4_readHouse 4 = .ok (.invokevirtual 72, 3) := by decide +kernel
theorem dX4_readHouse_7 : decode cX4_readHouse 7 = .ok (.ifCond .ne 5, 3) := by decide +kernel
theorem dX4_readHouse_10 : decode cX4_readHouse 10 = .ok (.iconst 0, 1) := by decide +kernel
theorem dX4_readHouse_11 : decode cX4_readHouse 11 = .ok (.ireturn, 1) := by decide +kernel
theorem dX4_readHouse_12 : decode cX4_readHouse 12 = .ok (.aload_n 0, 1) := by decide +kernel
theorem dX4_readHouse_13 : decode cX4_readHouse 13 = .ok (.getfield 18, 3) := by decide +kernel
theorem dX4_readHouse_16 : decode cX4_readHouse 16 = .ok (.aload_n 0, 1) := by decide +kernel
theorem dX4_readHouse_17 : decode cX4_readHouse 17 = .ok (.getfield 76, 3) := by decide +kernel
theorem dX4_readHouse_20 : decode cX4_readHouse 20 = .ok (.invokevirtual 79, 3) := by decide +kernel
theorem dX4_readHouse_23 : decode cX4_readHouse 23 = .ok (.iconst 1, 1) := by decide +kernel
theorem dX4_readHouse_24 : decode cX4_readHouse 24 = .ok (.ireturn, 1) := by decide +kernel
theorem dX4_readLeaf_0 : decode cX4_readLeaf 0 = .ok (.aload_n 0, 1) := by decide +kernel
theorem dX4_readLeaf_1 : decode cX4_readLeaf 1 = .ok (.iconst 0, 1) := by decide +kernel
theorem dX4_readLeaf_2 : decode cX4_readLeaf 2 = .ok (.aload_n 0, 1) := by decide +kernel
theorem dX4_readLeaf_3 : decode cX4_readLeaf 3 = .ok (.getfield 18, 3) := by decide +kernel
theorem dX4_readLeaf_6 : decode cX4_readLeaf 6 = .ok (.getfield 83, 3) := by decide +kernel
theorem dX4_readLeaf_9 : decode cX4_readLeaf 9 = .ok (.iconst 1, 1) := by decide +kernel
theorem dX4_readLeaf_10 : decode cX4_readLeaf 10 = .ok (.isub, 1) := by decide +kernel
theorem dX4_readLeaf_11 : decode cX4_readLeaf 11 = .ok (.invokevirtual 72, 3) := by decide +kernel
theorem dX4_readLeaf_14 : decode cX4_readLeaf 14 = .ok (.ifCond .ne 5, 3) := by decide +kernel
theorem dX4_readLeaf_17 : decode cX4_readLeaf 17 = .ok (.iconst 0, 1) := by decide +kernel
theorem dX4_readLeaf_18 : decode cX4_readLeaf 18 = .ok (.ireturn, 1) := by decide +kernel
theorem dX4_readLeaf_19 : decode cX4_readLeaf 19 = .ok (.aload_n 0, 1) := by decide +kernel
theorem dX4_readLeaf_20 : decode cX4_readLeaf 20 = .ok (.getfield 76, 3) := by decide +kernel
theorem dX4_readLeaf_23 : decode cX4_readLeaf 23 = .ok (.istore_n 1, 1) := by decide +kernel
theorem dX4_readLeaf_24 : decode cX4_readLeaf 24 = .ok (.aload_n 0, 1) := by decide +kernel
theorem dX4_readLeaf_25 : decode cX4_readLeaf 25 = .ok (.iconst 0, 1) := by decide +kernel
theorem dX4_readLeaf_26 : decode cX4_readLeaf 26 = .ok (.bipush 71, 2) := by decide +kernel
theorem dX4_readLeaf_28 : decode cX4_readLeaf 28 = .ok (.invokevirtual 72, 3) := by decide +kernel
theorem dX4_readLeaf_31 : decode cX4_readLeaf 31 = .ok (.ifCond .eq 18, 3) := by decide +kernel
theorem dX4_readLeaf_34 : decode cX4_readLeaf 34 = .ok (.aload_n 0, 1) := by decide +kernel
theorem dX4_readLeaf_35 : decode cX4_readLeaf 35 = .ok (.getfield 18, 3) := by decide +kernel
theorem dX4_readLeaf_38 : decode cX4_readLeaf 38 = .ok (.iload_n 1, 1) := by decide +kernel
theorem dX4_readLeaf_39 : decode cX4_readLeaf 39 = .ok (.aload_n 0, 1) := by decide +kernel
theorem dX4_readLeaf_40 : decode cX4_readLeaf 40 = .ok (.getfield 76, 3) := by decide +kernel
theorem dX4_readLeaf_43 : decode cX4_readLeaf 43 = .ok (.invokevirtual 86, 3) := by decide +kernel
theorem dX4_readLeaf_46 : decode cX4_readLeaf 46 = .ok (.ifCond .ne 5, 3) := by decide +kernel
theorem dX4_readLeaf_49 : decode cX4_readLeaf 49 = .ok (.iconst 0, 1) := by decide +kernel
theorem dX4_readLeaf_50 : decode cX4_readLeaf 50 = .ok (.ireturn, 1) := by decide +kernel
theorem dX4_readLeaf_51 : decode cX4_readLeaf 51 = .ok (.aload_n 0, 1) := by decide +kernel
theorem dX4_readLeaf_52 : decode cX4_readLeaf 52 = .ok (.getfield 18, 3) := by decide +kernel
theorem dX4_readLeaf_55 : decode cX4_readLeaf 55 = .ok (.getfield 89, 3) := by decide +kernel
theorem dX4_readLeaf_58 : decode cX4_readLeaf 58 = .ok (.iload_n 1, 1) := by decide +kernel
theorem dX4_readLeaf_59 : decode cX4_readLeaf 59 = .ok (.aload_n 0, 1) := by decide +kernel
theorem dX4_readLeaf_60 : decode cX4_readLeaf 60 = .ok (.getfield 76, 3) := by decide +kernel
theorem dX4_readLeaf_63 : decode cX4_readLeaf 63 = .ok (.iastore, 1) := by decide +kernel
theorem dX4_readLeaf_64 : decode cX4_readLeaf 64 = .ok (.iconst 1, 1) := by decide +kernel
theorem dX4_readLeaf_65 : decode cX4_readLeaf 65 = .ok (.ireturn, 1) := by decide +kernel
theorem dX4_readKind_0 : decode cX4_readKind 0 = .ok (.aload_n 0, 1) := by decide +kernel
theorem dX4_readKind_1 : decode cX4_readKind 1 = .ok (.iconst 0, 1) := by decide +kernel
theorem dX4_readKind_2 : decode cX4_readKind 2 = .ok (.aload_n 0, 1) := by decide +kernel
theorem dX4_readKind_3 : decode cX4_readKind 3 = .ok (.getfield 18, 3) := by decide +kernel
theorem dX4_readKind_6 : decode cX4_readKind 6 = .ok (.getfield 83, 3) := by decide +kernel
theorem dX4_readKind_9 : decode cX4_readKind 9 = .ok (.iconst 1, 1) := by decide +kernel
theorem dX4_readKind_10 : decode cX4_readKind 10 = .ok (.isub, 1) := by decide +kernel
theorem dX4_readKind_11 : decode cX4_readKind 11 = .ok (.invokevirtual 72, 3) := by decide +kernel
theorem dX4_readKind_14 : decode cX4_readKind 14 = .ok (.ifCond .ne 5, 3) := by decide +kernel
theorem dX4_readKind_17 : decode cX4_readKind 17 = .ok (.iconst 0, 1) := by decide +kernel
theorem dX4_readKind_18 : decode cX4_readKind 18 = .ok (.ireturn, 1) := by decide +kernel
theorem dX4_readKind_19 : decode cX4_readKind 19 = .ok (.aload_n 0, 1) := by decide +kernel
theorem dX4_readKind_20 : decode cX4_readKind 20 = .ok (.getfield 18, 3) := by decide +kernel
theorem dX4_readKind_23 : decode cX4_readKind 23 = .ok (.getfield 93, 3) := by decide +kernel
theorem dX4_readKind_26 : decode cX4_readKind 26 = .ok (.aload_n 0, 1) := by decide +kernel
theorem dX4_readKind_27 : decode cX4_readKind 27 = .ok (.getfield 76, 3) := by decide +kernel
theorem dX4_readKind_30 : decode cX4_readKind 30 = .ok (.iload_n 1, 1) := by decide +kernel
theorem dX4_readKind_31 : decode cX4_readKind 31 = .ok (.iastore, 1) := by decide +kernel
theorem dX4_readKind_32 : decode cX4_readKind 32 = .ok (.iconst 1, 1) := by decide +kernel
theorem dX4_readKind_33 : decode cX4_readKind 33 = .ok (.ireturn, 1) := by decide +kernel
theorem dX4_readPut_0 : decode cX4_readPut 0 = .ok (.aload_n 0, 1) := by decide +kernel
theorem dX4_readPut_1 : decode cX4_readPut 1 = .ok (.iconst 0, 1) := by decide +kernel
theorem dX4_readPut_2 : decode cX4_readPut 2 = .ok (.aload_n 0, 1) := by decide +kernel
theorem dX4_readPut_3 : decode cX4_readPut 3 = .ok (.getfield 18, 3) := by decide +kernel
theorem dX4_readPut_6 : decode cX4_readPut 6 = .ok (.getfield 83, 3) := by decide +kernel
theorem dX4_readPut_9 : decode cX4_readPut 9 = .ok (.iconst 1, 1) := by decide +kernel
theorem dX4_readPut_10 : decode cX4_readPut 10 = .ok (.isub, 1) := by decide +kernel
theorem dX4_readPut_11 : decode cX4_readPut 11 = .ok (.invokevirtual 72, 3) := by decide +kernel
theorem dX4_readPut_14 : decode cX4_readPut 14 = .ok (.ifCond .ne 5, 3) := by decide +kernel
theorem dX4_readPut_17 : decode cX4_readPut 17 = .ok (.iconst 0, 1) := by decide +kernel
theorem dX4_readPut_18 : decode cX4_readPut 18 = .ok (.ireturn, 1) := by decide +kernel
theorem dX4_readPut_19 : decode cX4_readPut 19 = .ok (.aload_n 0, 1) := by decide +kernel
theorem dX4_readPut_20 : decode cX4_readPut 20 = .ok (.getfield 76, 3) := by decide +kernel
theorem dX4_readPut_23 : decode cX4_readPut 23 = .ok (.istore_n 1, 1) := by decide +kernel
theorem dX4_readPut_24 : decode cX4_readPut 24 = .ok (.aload_n 0, 1) := by decide +kernel
theorem dX4_readPut_25 : decode cX4_readPut 25 = .ok (.iconst 0, 1) := by decide +kernel
theorem dX4_readPut_26 : decode cX4_readPut 26 = .ok (.bipush 20, 2) := by decide +kernel
theorem dX4_readPut_28 : decode cX4_readPut 28 = .ok (.invokevirtual 72, 3) := by decide +kernel
theorem dX4_readPut_31 : decode cX4_readPut 31 = .ok (.ifCond .eq 20, 3) := by decide +kernel
theorem dX4_readPut_34 : decode cX4_readPut 34 = .ok (.aload_n 0, 1) := by decide +kernel
theorem dX4_readPut_35 : decode cX4_readPut 35 = .ok (.getfield 76, 3) := by decide +kernel
theorem dX4_readPut_38 : decode cX4_readPut 38 = .ok (.iconst 1, 1) := by decide +kernel
theorem dX4_readPut_39 : decode cX4_readPut 39 = .ok (.iadd, 1) := by decide +kernel
theorem dX4_readPut_40 : decode cX4_readPut 40 = .ok (.aload_n 0, 1) := by decide +kernel
theorem dX4_readPut_41 : decode cX4_readPut 41 = .ok (.getfield 18, 3) := by decide +kernel
theorem dX4_readPut_44 : decode cX4_readPut 44 = .ok (.iload_n 1, 1) := by decide +kernel
theorem dX4_readPut_45 : decode cX4_readPut 45 = .ok (.invokevirtual 96, 3) := by decide +kernel
theorem dX4_readPut_48 : decode cX4_readPut 48 = .ok (.if_icmp .le 5, 3) := by decide +kernel
theorem dX4_readPut_51 : decode cX4_readPut 51 = .ok (.iconst 0, 1) := by decide +kernel
theorem dX4_readPut_52 : decode cX4_readPut 52 = .ok (.ireturn, 1) := by decide +kernel
theorem dX4_readPut_53 : decode cX4_readPut 53 = .ok (.aload_n 0, 1) := by decide +kernel
theorem dX4_readPut_54 : decode cX4_readPut 54 = .ok (.getfield 18, 3) := by decide +kernel
theorem dX4_readPut_57 : decode cX4_readPut 57 = .ok (.getfield 100, 3) := by decide +kernel
theorem dX4_readPut_60 : decode cX4_readPut 60 = .ok (.iload_n 1, 1) := by decide +kernel
theorem dX4_readPut_61 : decode cX4_readPut 61 = .ok (.aload_n 0, 1) := by decide +kernel
theorem dX4_readPut_62 : decode cX4_readPut 62 = .ok (.getfield 76, 3) := by decide +kernel
theorem dX4_readPut_65 : decode cX4_readPut 65 = .ok (.iastore, 1) := by decide +kernel
theorem dX4_readPut_66 : decode cX4_readPut 66 = .ok (.iconst 1, 1) := by decide +kernel
theorem dX4_readPut_67 : decode cX4_readPut 67 = .ok (.ireturn, 1) := by decide +kernel
theorem dX4_readDoor_0 : decode cX4_readDoor 0 = .ok (.aload_n 0, 1) := by decide +kernel
theorem dX4_readDoor_1 : decode cX4_readDoor 1 = .ok (.iconst 0, 1) := by decide +kernel
theorem dX4_readDoor_2 : decode cX4_readDoor 2 = .ok (.bipush 71, 2) := by decide +kernel
theorem dX4_readDoor_4 : decode cX4_readDoor 4 = .ok (.invokevirtual 72, 3) := by decide +kernel
theorem dX4_readDoor_7 : decode cX4_readDoor 7 = .ok (.ifCond .eq 28, 3) := by decide +kernel
theorem dX4_readDoor_10 : decode cX4_readDoor 10 = .ok (.aload_n 0, 1) := by decide +kernel
theorem dX4_readDoor_11 : decode cX4_readDoor 11 = .ok (.getfield 18, 3) := by decide +kernel
theorem dX4_readDoor_14 : decode cX4_readDoor 14 = .ok (.aload_n 0, 1) := by decide +kernel
theorem dX4_readDoor_15 : decode cX4_readDoor 15 = .ok (.getfield 76, 3) := by decide +kernel
theorem dX4_readDoor_18 : decode cX4_readDoor 18 = .ok (.invokevirtual 103, 3) := by decide +kernel
theorem dX4_readDoor_21 : decode cX4_readDoor 21 = .ok (.ifCond .ne 14, 3) := by decide +kernel
theorem dX4_readDoor_24 : decode cX4_readDoor 24 = .ok (.aload_n 0, 1) := by decide +kernel
theorem dX4_readDoor_25 : decode cX4_readDoor 25 = .ok (.getfield 18, 3) := by decide +kernel
theorem dX4_readDoor_28 : decode cX4_readDoor 28 = .ok (.getfield 106, 3) := by decide +kernel
theorem dX4_readDoor_31 : decode cX4_readDoor 31 = .ok (.iconst 3, 1) := by decide +kernel
theorem dX4_readDoor_32 : decode cX4_readDoor 32 = .ok (.if_icmp .lt 5, 3) := by decide +kernel
theorem dX4_readDoor_35 : decode cX4_readDoor 35 = .ok (.iconst 0, 1) := by decide +kernel
theorem dX4_readDoor_36 : decode cX4_readDoor 36 = .ok (.ireturn, 1) := by decide +kernel
theorem dX4_readDoor_37 : decode cX4_readDoor 37 = .ok (.aload_n 0, 1) := by decide +kernel
theorem dX4_readDoor_38 : decode cX4_readDoor 38 = .ok (.getfield 18, 3) := by decide +kernel
theorem dX4_readDoor_41 : decode cX4_readDoor 41 = .ok (.getfield 109, 3) := by decide +kernel
theorem dX4_readDoor_44 : decode cX4_readDoor 44 = .ok (.aload_n 0, 1) := by decide +kernel
theorem dX4_readDoor_45 : decode cX4_readDoor 45 = .ok (.getfield 18, 3) := by decide +kernel
theorem dX4_readDoor_48 : decode cX4_readDoor 48 = .ok (.getfield 106, 3) := by decide +kernel
theorem dX4_readDoor_51 : decode cX4_readDoor 51 = .ok (.aload_n 0, 1) := by decide +kernel
theorem dX4_readDoor_52 : decode cX4_readDoor 52 = .ok (.getfield 76, 3) := by decide +kernel
theorem dX4_readDoor_55 : decode cX4_readDoor 55 = .ok (.iastore, 1) := by decide +kernel
theorem dX4_readDoor_56 : decode cX4_readDoor 56 = .ok (.aload_n 0, 1) := by decide +kernel
theorem dX4_readDoor_57 : decode cX4_readDoor 57 = .ok (.getfield 18, 3) := by decide +kernel
theorem dX4_readDoor_60 : decode cX4_readDoor 60 = .ok (.dup, 1) := by decide +kernel
theorem dX4_readDoor_61 : decode cX4_readDoor 61 = .ok (.getfield 106, 3) := by decide +kernel
theorem dX4_readDoor_64 : decode cX4_readDoor 64 = .ok (.iconst 1, 1) := by decide +kernel
theorem dX4_readDoor_65 : decode cX4_readDoor 65 = .ok (.iadd, 1) := by decide +kernel
theorem dX4_readDoor_66 : decode cX4_readDoor 66 = .ok (.putfield 106, 3) := by decide +kernel
theorem dX4_readDoor_69 : decode cX4_readDoor 69 = .ok (.iconst 1, 1) := by decide +kernel
theorem dX4_readDoor_70 : decode cX4_readDoor 70 = .ok (.ireturn, 1) := by decide +kernel
theorem dX4_readPerson_0 : decode cX4_readPerson 0 = .ok (.aload_n 0, 1) := by decide +kernel
theorem dX4_readPerson_1 : decode cX4_readPerson 1 = .ok (.getfield 18, 3) := by decide +kernel
theorem dX4_readPerson_4 : decode cX4_readPerson 4 = .ok (.getfield 65, 3) := by decide +kernel
theorem dX4_readPerson_7 : decode cX4_readPerson 7 = .ok (.iconst 5, 1) := by decide +kernel
theorem dX4_readPerson_8 : decode cX4_readPerson 8 = .ok (.if_icmp .ge 20, 3) := by decide +kernel
theorem dX4_readPerson_11 : decode cX4_readPerson 11 = .ok (.aload_n 0, 1) := by decide +kernel
theorem dX4_readPerson_12 : decode cX4_readPerson 12 = .ok (.iconst 0, 1) := by decide +kernel
theorem dX4_readPerson_13 : decode cX4_readPerson 13 = .ok (.aload_n 0, 1) := by decide +kernel
theorem dX4_readPerson_14 : decode cX4_readPerson 14 = .ok (.getfield 18, 3) := by decide +kernel
theorem dX4_readPerson_17 : decode cX4_readPerson 17 = .ok (.getfield 83, 3) := by decide +kernel
theorem dX4_readPerson_20 : decode cX4_readPerson 20 = .ok (.iconst 1, 1) := by decide +kernel
theorem dX4_readPerson_21 : decode cX4_readPerson 21 = .ok (.isub, 1) := by decide +kernel
theorem dX4_readPerson_22 : decode cX4_readPerson 22 = .ok (.invokevirtual 72, 3) := by decide +kernel
theorem dX4_readPerson_25 : decode cX4_readPerson 25 = .ok (.ifCond .ne 5, 3) := by decide +kernel
theorem dX4_readPerson_28 : decode cX4_readPerson 28 = .ok (.iconst 0, 1) := by decide +kernel
theorem dX4_readPerson_29 : decode cX4_readPerson 29 = .ok (.ireturn, 1) := by decide +kernel
theorem dX4_readPerson_30 : decode cX4_readPerson 30 = .ok (.aload_n 0, 1) := by decide +kernel
theorem dX4_readPerson_31 : decode cX4_readPerson 31 = .ok (.getfield 18, 3) := by decide +kernel
theorem dX4_readPerson_34 : decode cX4_readPerson 34 = .ok (.getfield 112, 3) := by decide +kernel
theorem dX4_readPerson_37 : decode cX4_readPerson 37 = .ok (.aload_n 0, 1) := by decide +kernel
theorem dX4_readPerson_38 : decode cX4_readPerson 38 = .ok (.getfield 18, 3) := by decide +kernel
theorem dX4_readPerson_41 : decode cX4_readPerson 41 = .ok (.getfield 65, 3) := by decide +kernel
theorem dX4_readPerson_44 : decode cX4_readPerson 44 = .ok (.aload_n 0, 1) := by decide +kernel
theorem dX4_readPerson_45 : decode cX4_readPerson 45 = .ok (.getfield 76, 3) := by decide +kernel
theorem dX4_readPerson_48 : decode cX4_readPerson 48 = .ok (.iastore, 1) := by decide +kernel
theorem dX4_readPerson_49 : decode cX4_readPerson 49 = .ok (.aload_n 0, 1) := by decide +kernel
theorem dX4_readPerson_50 : decode cX4_readPerson 50 = .ok (.getfield 18, 3) := by decide +kernel
theorem dX4_readPerson_53 : decode cX4_readPerson 53 = .ok (.dup, 1) := by decide +kernel
theorem dX4_readPerson_54 : decode cX4_readPerson 54 = .ok (.getfield 65, 3) := by decide +kernel
theorem dX4_readPerson_57 : decode cX4_readPerson 57 = .ok (.iconst 1, 1) := by decide +kernel
theorem dX4_readPerson_58 : decode cX4_readPerson 58 = .ok (.iadd, 1) := by decide +kernel
theorem dX4_readPerson_59 : decode cX4_readPerson 59 = .ok (.putfield 65, 3) := by decide +kernel
theorem dX4_readPerson_62 : decode cX4_readPerson 62 = .ok (.iconst 1, 1) := by decide +kernel
theorem dX4_readPerson_63 : decode cX4_readPerson 63 = .ok (.ireturn, 1) := by decide +kernel
theorem dX4_readNumber_0 : decode cX4_readNumber 0 = .ok (.aload_n 0, 1) := by decide +kernel
theorem dX4_readNumber_1 : decode cX4_readNumber 1 = .ok (.invokevirtual 40, 3) := by decide +kernel
theorem dX4_readNumber_4 : decode cX4_readNumber 4 = .ok (.aload_n 0, 1) := by decide +kernel
theorem dX4_readNumber_5 : decode cX4_readNumber 5 = .ok (.aload_n 0, 1) := by decide +kernel
theorem dX4_readNumber_6 : decode cX4_readNumber 6 = .ok (.invokevirtual 115, 3) := by decide +kernel
theorem dX4_readNumber_9 : decode cX4_readNumber 9 = .ok (.putfield 76, 3) := by decide +kernel
theorem dX4_readNumber_12 : decode cX4_readNumber 12 = .ok (.aload_n 0, 1) := by decide +kernel
theorem dX4_readNumber_13 : decode cX4_readNumber 13 = .ok (.getfield 76, 3) := by decide +kernel
theorem dX4_readNumber_16 : decode cX4_readNumber 16 = .ok (.iload_n 1, 1) := by decide +kernel
theorem dX4_readNumber_17 : decode cX4_readNumber 17 = .ok (.if_icmp .lt 15, 3) := by decide +kernel
theorem dX4_readNumber_20 : decode cX4_readNumber 20 = .ok (.aload_n 0, 1) := by decide +kernel
theorem dX4_readNumber_21 : decode cX4_readNumber 21 = .ok (.getfield 76, 3) := by decide +kernel
theorem dX4_readNumber_24 : decode cX4_readNumber 24 = .ok (.iload_n 2, 1) := by decide +kernel
theorem dX4_readNumber_25 : decode cX4_readNumber 25 = .ok (.if_icmp .gt 7, 3) := by decide +kernel
theorem dX4_readNumber_28 : decode cX4_readNumber 28 = .ok (.iconst 1, 1) := by decide +kernel
theorem dX4_readNumber_29 : decode cX4_readNumber 29 = .ok (.goto 4, 3) := by decide +kernel
theorem dX4_readNumber_32 : decode cX4_readNumber 32 = .ok (.iconst 0, 1) := by decide +kernel
theorem dX4_readNumber_33 : decode cX4_readNumber 33 = .ok (.ireturn, 1) := by decide +kernel
theorem dX4_nextToken_0 : decode cX4_nextToken 0 = .ok (.aload_n 0, 1) := by decide +kernel
theorem dX4_nextToken_1 : decode cX4_nextToken 1 = .ok (.aload_n 0, 1) := by decide +kernel
theorem dX4_nextToken_2 : decode cX4_nextToken 2 = .ok (.getfield 26, 3) := by decide +kernel
theorem dX4_nextToken_5 : decode cX4_nextToken 5 = .ok (.putfield 37, 3) := by decide +kernel
theorem dX4_nextToken_8 : decode cX4_nextToken 8 = .ok (.aload_n 0, 1) := by decide +kernel
theorem dX4_nextToken_9 : decode cX4_nextToken 9 = .ok (.getfield 37, 3) := by decide +kernel
theorem dX4_nextToken_12 : decode cX4_nextToken 12 = .ok (.aload_n 0, 1) := by decide +kernel
theorem dX4_nextToken_13 : decode cX4_nextToken 13 = .ok (.getfield 43, 3) := by decide +kernel
theorem dX4_nextToken_16 : decode cX4_nextToken 16 = .ok (.if_icmp .ge 30, 3) := by decide +kernel
theorem dX4_nextToken_19 : decode cX4_nextToken 19 = .ok (.aload_n 0, 1) := by decide +kernel
theorem dX4_nextToken_20 : decode cX4_nextToken 20 = .ok (.getfield 9, 3) := by decide +kernel
theorem dX4_nextToken_23 : decode cX4_nextToken 23 = .ok (.aload_n 0, 1) := by decide +kernel
theorem dX4_nextToken_24 : decode cX4_nextToken 24 = .ok (.getfield 37, 3) := by decide +kernel
theorem dX4_nextToken_27 : decode cX4_nextToken 27 = .ok (.baload, 1) := by decide +kernel
theorem dX4_nextToken_28 : decode cX4_nextToken 28 = .ok (.bipush 32, 2) := by decide +kernel
theorem dX4_nextToken_30 : decode cX4_nextToken 30 = .ok (.if_icmp .ne 16, 3) := by decide +kernel
theorem dX4_nextToken_33 : decode cX4_nextToken 33 = .ok (.aload_n 0, 1) := by decide +kernel
theorem dX4_nextToken_34 : decode cX4_nextToken 34 = .ok (.dup, 1) := by decide +kernel
theorem dX4_nextToken_35 : decode cX4_nextToken 35 = .ok (.getfield 37, 3) := by decide +kernel
theorem dX4_nextToken_38 : decode cX4_nextToken 38 = .ok (.iconst 1, 1) := by decide +kernel
theorem dX4_nextToken_39 : decode cX4_nextToken 39 = .ok (.iadd, 1) := by decide +kernel
theorem dX4_nextToken_40 : decode cX4_nextToken 40 = .ok (.putfield 37, 3) := by decide +kernel
theorem dX4_nextToken_43 : decode cX4_nextToken 43 = .ok (.goto (-35), 3) := by decide +kernel
theorem dX4_nextToken_46 : decode cX4_nextToken 46 = .ok (.aload_n 0, 1) := by decide +kernel
theorem dX4_nextToken_47 : decode cX4_nextToken 47 = .ok (.aload_n 0, 1) := by decide +kernel
theorem dX4_nextToken_48 : decode cX4_nextToken 48 = .ok (.getfield 37, 3) := by decide +kernel
theorem dX4_nextToken_51 : decode cX4_nextToken 51 = .ok (.putfield 26, 3) := by decide +kernel
theorem dX4_nextToken_54 : decode cX4_nextToken 54 = .ok (.aload_n 0, 1) := by decide +kernel
theorem dX4_nextToken_55 : decode cX4_nextToken 55 = .ok (.getfield 26, 3) := by decide +kernel
theorem dX4_nextToken_58 : decode cX4_nextToken 58 = .ok (.aload_n 0, 1) := by decide +kernel
theorem dX4_nextToken_59 : decode cX4_nextToken 59 = .ok (.getfield 43, 3) := by decide +kernel
theorem dX4_nextToken_62 : decode cX4_nextToken 62 = .ok (.if_icmp .ge 27, 3) := by decide +kernel
theorem dX4_nextToken_65 : decode cX4_nextToken 65 = .ok (.aload_n 0, 1) := by decide +kernel
theorem dX4_nextToken_66 : decode cX4_nextToken 66 = .ok (.aload_n 0, 1) := by decide +kernel
theorem dX4_nextToken_67 : decode cX4_nextToken 67 = .ok (.getfield 26, 3) := by decide +kernel
theorem dX4_nextToken_70 : decode cX4_nextToken 70 = .ok (.invokevirtual 118, 3) := by decide +kernel
theorem dX4_nextToken_73 : decode cX4_nextToken 73 = .ok (.ifCond .eq 16, 3) := by decide +kernel
theorem dX4_nextToken_76 : decode cX4_nextToken 76 = .ok (.aload_n 0, 1) := by decide +kernel
theorem dX4_nextToken_77 : decode cX4_nextToken 77 = .ok (.dup, 1) := by decide +kernel
theorem dX4_nextToken_78 : decode cX4_nextToken 78 = .ok (.getfield 26, 3) := by decide +kernel
theorem dX4_nextToken_81 : decode cX4_nextToken 81 = .ok (.iconst 1, 1) := by decide +kernel
theorem dX4_nextToken_82 : decode cX4_nextToken 82 = .ok (.iadd, 1) := by decide +kernel
theorem dX4_nextToken_83 : decode cX4_nextToken 83 = .ok (.putfield 26, 3) := by decide +kernel
theorem dX4_nextToken_86 : decode cX4_nextToken 86 = .ok (.goto (-32), 3) := by decide +kernel
theorem dX4_nextToken_89 : decode cX4_nextToken 89 = .ok (.aload_n 0, 1) := by decide +kernel
theorem dX4_nextToken_90 : decode cX4_nextToken 90 = .ok (.getfield 26, 3) := by decide +kernel
theorem dX4_nextToken_93 : decode cX4_nextToken 93 = .ok (.aload_n 0, 1) := by decide +kernel
theorem dX4_nextToken_94 : decode cX4_nextToken 94 = .ok (.getfield 37, 3) := by decide +kernel
theorem dX4_nextToken_97 : decode cX4_nextToken 97 = .ok (.if_icmp .ne 38, 3) := by decide +kernel
theorem dX4_nextToken_100 : decode cX4_nextToken 100 = .ok (.aload_n 0, 1) := by decide +kernel
theorem dX4_nextToken_101 : decode cX4_nextToken 101 = .ok (.getfield 26, 3) := by decide +kernel
theorem dX4_nextToken_104 : decode cX4_nextToken 104 = .ok (.aload_n 0, 1) := by decide +kernel
theorem dX4_nextToken_105 : decode cX4_nextToken 105 = .ok (.getfield 43, 3) := by decide +kernel
theorem dX4_nextToken_108 : decode cX4_nextToken 108 = .ok (.if_icmp .ge 27, 3) := by decide +kernel
theorem dX4_nextToken_111 : decode cX4_nextToken 111 = .ok (.aload_n 0, 1) := by decide +kernel
theorem dX4_nextToken_112 : decode cX4_nextToken 112 = .ok (.aload_n 0, 1) := by decide +kernel
theorem dX4_nextToken_113 : decode cX4_nextToken 113 = .ok (.getfield 26, 3) := by decide +kernel
theorem dX4_nextToken_116 : decode cX4_nextToken 116 = .ok (.invokevirtual 121, 3) := by decide +kernel
theorem dX4_nextToken_119 : decode cX4_nextToken 119 = .ok (.ifCond .eq 16, 3) := by decide +kernel
theorem dX4_nextToken_122 : decode cX4_nextToken 122 = .ok (.aload_n 0, 1) := by decide +kernel
theorem dX4_nextToken_123 : decode cX4_nextToken 123 = .ok (.dup, 1) := by decide +kernel
theorem dX4_nextToken_124 : decode cX4_nextToken 124 = .ok (.getfield 26, 3) := by decide +kernel
theorem dX4_nextToken_127 : decode cX4_nextToken 127 = .ok (.iconst 1, 1) := by decide +kernel
theorem dX4_nextToken_128 : decode cX4_nextToken 128 = .ok (.iadd, 1) := by decide +kernel
theorem dX4_nextToken_129 : decode cX4_nextToken 129 = .ok (.putfield 26, 3) := by decide +kernel
theorem dX4_nextToken_132 : decode cX4_nextToken 132 = .ok (.goto (-32), 3) := by decide +kernel
theorem dX4_nextToken_135 : decode cX4_nextToken 135 = .ok (.aload_n 0, 1) := by decide +kernel
theorem dX4_nextToken_136 : decode cX4_nextToken 136 = .ok (.getfield 26, 3) := by decide +kernel
theorem dX4_nextToken_139 : decode cX4_nextToken 139 = .ok (.aload_n 0, 1) := by decide +kernel
theorem dX4_nextToken_140 : decode cX4_nextToken 140 = .ok (.getfield 37, 3) := by decide +kernel
theorem dX4_nextToken_143 : decode cX4_nextToken 143 = .ok (.if_icmp .ne 24, 3) := by decide +kernel
theorem dX4_nextToken_146 : decode cX4_nextToken 146 = .ok (.aload_n 0, 1) := by decide +kernel
theorem dX4_nextToken_147 : decode cX4_nextToken 147 = .ok (.getfield 26, 3) := by decide +kernel
theorem dX4_nextToken_150 : decode cX4_nextToken 150 = .ok (.aload_n 0, 1) := by decide +kernel
theorem dX4_nextToken_151 : decode cX4_nextToken 151 = .ok (.getfield 43, 3) := by decide +kernel
theorem dX4_nextToken_154 : decode cX4_nextToken 154 = .ok (.if_icmp .ge 13, 3) := by decide +kernel
theorem dX4_nextToken_157 : decode cX4_nextToken 157 = .ok (.aload_n 0, 1) := by decide +kernel
theorem dX4_nextToken_158 : decode cX4_nextToken 158 = .ok (.dup, 1) := by decide +kernel
theorem dX4_nextToken_159 : decode cX4_nextToken 159 = .ok (.getfield 26, 3) := by decide +kernel
theorem dX4_nextToken_162 : decode cX4_nextToken 162 = .ok (.iconst 1, 1) := by decide +kernel
theorem dX4_nextToken_163 : decode cX4_nextToken 163 = .ok (.iadd, 1) := by decide +kernel
theorem dX4_nextToken_164 : decode cX4_nextToken 164 = .ok (.putfield 26, 3) := by decide +kernel
theorem dX4_nextToken_167 : decode cX4_nextToken 167 = .ok (.return_, 1) := by decide +kernel
theorem dX4_isLetter_0 : decode cX4_isLetter 0 = .ok (.aload_n 0, 1) := by decide +kernel
theorem dX4_isLetter_1 : decode cX4_isLetter 1 = .ok (.getfield 9, 3) := by decide +kernel
theorem dX4_isLetter_4 : decode cX4_isLetter 4 = .ok (.iload_n 1, 1) := by decide +kernel
theorem dX4_isLetter_5 : decode cX4_isLetter 5 = .ok (.baload, 1) := by decide +kernel
theorem dX4_isLetter_6 : decode cX4_isLetter 6 = .ok (.bipush 97, 2) := by decide +kernel
theorem dX4_isLetter_8 : decode cX4_isLetter 8 = .ok (.if_icmp .lt 18, 3) := by decide +kernel
theorem dX4_isLetter_11 : decode cX4_isLetter 11 = .ok (.aload_n 0, 1) := by decide +kernel
theorem dX4_isLetter_12 : decode cX4_isLetter 12 = .ok (.getfield 9, 3) := by decide +kernel
theorem dX4_isLetter_15 : decode cX4_isLetter 15 = .ok (.iload_n 1, 1) := by decide +kernel
theorem dX4_isLetter_16 : decode cX4_isLetter 16 = .ok (.baload, 1) := by decide +kernel
theorem dX4_isLetter_17 : decode cX4_isLetter 17 = .ok (.bipush 122, 2) := by decide +kernel
theorem dX4_isLetter_19 : decode cX4_isLetter 19 = .ok (.if_icmp .gt 7, 3) := by decide +kernel
theorem dX4_isLetter_22 : decode cX4_isLetter 22 = .ok (.iconst 1, 1) := by decide +kernel
theorem dX4_isLetter_23 : decode cX4_isLetter 23 = .ok (.goto 4, 3) := by decide +kernel
theorem dX4_isLetter_26 : decode cX4_isLetter 26 = .ok (.iconst 0, 1) := by decide +kernel
theorem dX4_isLetter_27 : decode cX4_isLetter 27 = .ok (.ireturn, 1) := by decide +kernel
theorem dX4_isDigit_0 : decode cX4_isDigit 0 = .ok (.aload_n 0, 1) := by decide +kernel
theorem dX4_isDigit_1 : decode cX4_isDigit 1 = .ok (.getfield 9, 3) := by decide +kernel
theorem dX4_isDigit_4 : decode cX4_isDigit 4 = .ok (.iload_n 1, 1) := by decide +kernel
theorem dX4_isDigit_5 : decode cX4_isDigit 5 = .ok (.baload, 1) := by decide +kernel
theorem dX4_isDigit_6 : decode cX4_isDigit 6 = .ok (.bipush 48, 2) := by decide +kernel
theorem dX4_isDigit_8 : decode cX4_isDigit 8 = .ok (.if_icmp .lt 18, 3) := by decide +kernel
theorem dX4_isDigit_11 : decode cX4_isDigit 11 = .ok (.aload_n 0, 1) := by decide +kernel
theorem dX4_isDigit_12 : decode cX4_isDigit 12 = .ok (.getfield 9, 3) := by decide +kernel
theorem dX4_isDigit_15 : decode cX4_isDigit 15 = .ok (.iload_n 1, 1) := by decide +kernel
theorem dX4_isDigit_16 : decode cX4_isDigit 16 = .ok (.baload, 1) := by decide +kernel
theorem dX4_isDigit_17 : decode cX4_isDigit 17 = .ok (.bipush 57, 2) := by decide +kernel
theorem dX4_isDigit_19 : decode cX4_isDigit 19 = .ok (.if_icmp .gt 7, 3) := by decide +kernel
theorem dX4_isDigit_22 : decode cX4_isDigit 22 = .ok (.iconst 1, 1) := by decide +kernel
theorem dX4_isDigit_23 : decode cX4_isDigit 23 = .ok (.goto 4, 3) := by decide +kernel
theorem dX4_isDigit_26 : decode cX4_isDigit 26 = .ok (.iconst 0, 1) := by decide +kernel
theorem dX4_isDigit_27 : decode cX4_isDigit 27 = .ok (.ireturn, 1) := by decide +kernel
theorem dX4_numberHere_0 : decode cX4_numberHere 0 = .ok (.aload_n 0, 1) := by decide +kernel
theorem dX4_numberHere_1 : decode cX4_numberHere 1 = .ok (.getfield 26, 3) := by decide +kernel
theorem dX4_numberHere_4 : decode cX4_numberHere 4 = .ok (.aload_n 0, 1) := by decide +kernel
theorem dX4_numberHere_5 : decode cX4_numberHere 5 = .ok (.getfield 37, 3) := by decide +kernel
theorem dX4_numberHere_8 : decode cX4_numberHere 8 = .ok (.if_icmp .eq 27, 3) := by decide +kernel
theorem dX4_numberHere_11 : decode cX4_numberHere 11 = .ok (.aload_n 0, 1) := by decide +kernel
theorem dX4_numberHere_12 : decode cX4_numberHere 12 = .ok (.getfield 26, 3) := by decide +kernel
theorem dX4_numberHere_15 : decode cX4_numberHere 15 = .ok (.aload_n 0, 1) := by decide +kernel
theorem dX4_numberHere_16 : decode cX4_numberHere 16 = .ok (.getfield 37, 3) := by decide +kernel
theorem dX4_numberHere_19 : decode cX4_numberHere 19 = .ok (.iconst 2, 1) := by decide +kernel
theorem dX4_numberHere_20 : decode cX4_numberHere 20 = .ok (.iadd, 1) := by decide +kernel
theorem dX4_numberHere_21 : decode cX4_numberHere 21 = .ok (.if_icmp .gt 14, 3) := by decide +kernel
theorem dX4_numberHere_24 : decode cX4_numberHere 24 = .ok (.aload_n 0, 1) := by decide +kernel
theorem dX4_numberHere_25 : decode cX4_numberHere 25 = .ok (.aload_n 0, 1) := by decide +kernel
theorem dX4_numberHere_26 : decode cX4_numberHere 26 = .ok (.getfield 37, 3) := by decide +kernel
theorem dX4_numberHere_29 : decode cX4_numberHere 29 = .ok (.invokevirtual 121, 3) := by decide +kernel
theorem dX4_numberHere_32 : decode cX4_numberHere 32 = .ok (.ifCond .ne 5, 3) := by decide +kernel
theorem dX4_numberHere_35 : decode cX4_numberHere 35 = .ok (.iconst (-1), 1) := by decide +kernel
theorem dX4_numberHere_36 : decode cX4_numberHere 36 = .ok (.ireturn, 1) := by decide +kernel
theorem dX4_numberHere_37 : decode cX4_numberHere 37 = .ok (.iconst 0, 1) := by decide +kernel
theorem dX4_numberHere_38 : decode cX4_numberHere 38 = .ok (.istore_n 1, 1) := by decide +kernel
theorem dX4_numberHere_39 : decode cX4_numberHere 39 = .ok (.aload_n 0, 1) := by decide +kernel
theorem dX4_numberHere_40 : decode cX4_numberHere 40 = .ok (.getfield 37, 3) := by decide +kernel
theorem dX4_numberHere_43 : decode cX4_numberHere 43 = .ok (.istore_n 2, 1) := by decide +kernel
theorem dX4_numberHere_44 : decode cX4_numberHere 44 = .ok (.iload_n 2, 1) := by decide +kernel
theorem dX4_numberHere_45 : decode cX4_numberHere 45 = .ok (.aload_n 0, 1) := by decide +kernel
theorem dX4_numberHere_46 : decode cX4_numberHere 46 = .ok (.getfield 26, 3) := by decide +kernel
theorem dX4_numberHere_49 : decode cX4_numberHere 49 = .ok (.if_icmp .ge 24, 3) := by decide +kernel
theorem dX4_numberHere_52 : decode cX4_numberHere 52 = .ok (.iload_n 1, 1) := by decide +kernel
theorem dX4_numberHere_53 : decode cX4_numberHere 53 = .ok (.bipush 10, 2) := by decide +kernel
theorem dX4_numberHere_55 : decode cX4_numberHere 55 = .ok (.imul, 1) := by decide +kernel
theorem dX4_numberHere_56 : decode cX4_numberHere 56 = .ok (.aload_n 0, 1) := by decide +kernel
theorem dX4_numberHere_57 : decode cX4_numberHere 57 = .ok (.getfield 9, 3) := by decide +kernel
theorem dX4_numberHere_60 : decode cX4_numberHere 60 = .ok (.iload_n 2, 1) := by decide +kernel
theorem dX4_numberHere_61 : decode cX4_numberHere 61 = .ok (.baload, 1) := by decide +kernel
theorem dX4_numberHere_62 : decode cX4_numberHere 62 = .ok (.iadd, 1) := by decide +kernel
theorem dX4_numberHere_63 : decode cX4_numberHere 63 = .ok (.bipush 48, 2) := by decide +kernel
theorem dX4_numberHere_65 : decode cX4_numberHere 65 = .ok (.isub, 1) := by decide +kernel
theorem dX4_numberHere_66 : decode cX4_numberHere 66 = .ok (.istore_n 1, 1) := by decide +kernel
theorem dX4_numberHere_67 : decode cX4_numberHere 67 = .ok (.iinc 2 1, 3) := by decide +kernel
theorem dX4_numberHere_70 : decode cX4_numberHere 70 = .ok (.goto (-26), 3) := by decide +kernel
theorem dX4_numberHere_73 : decode cX4_numberHere 73 = .ok (.iload_n 1, 1) := by decide +kernel
theorem dX4_numberHere_74 : decode cX4_numberHere 74 = .ok (.ireturn, 1) := by decide +kernel
theorem dX4_wordHere_0 : decode cX4_wordHere 0 = .ok (.iconst 0, 1) := by decide +kernel
theorem dX4_wordHere_1 : decode cX4_wordHere 1 = .ok (.istore_n 1, 1) := by decide +kernel
theorem dX4_wordHere_2 : decode cX4_wordHere 2 = .ok (.iload_n 1, 1) := by decide +kernel
theorem dX4_wordHere_3 : decode cX4_wordHere 3 = .ok (.bipush 9, 2) := by decide +kernel
theorem dX4_wordHere_5 : decode cX4_wordHere 5 = .ok (.if_icmp .gt 22, 3) := by decide +kernel
theorem dX4_wordHere_8 : decode cX4_wordHere 8 = .ok (.aload_n 0, 1) := by decide +kernel
theorem dX4_wordHere_9 : decode cX4_wordHere 9 = .ok (.iload_n 1, 1) := by decide +kernel
theorem dX4_wordHere_10 : decode cX4_wordHere 10 = .ok (.invokestatic 124, 3) := by decide +kernel
theorem dX4_wordHere_13 : decode cX4_wordHere 13 = .ok (.invokevirtual 128, 3) := by decide +kernel
theorem dX4_wordHere_16 : decode cX4_wordHere 16 = .ok (.ifCond .eq 5, 3) := by decide +kernel
theorem dX4_wordHere_19 : decode cX4_wordHere 19 = .ok (.iload_n 1, 1) := by decide +kernel
theorem dX4_wordHere_20 : decode cX4_wordHere 20 = .ok (.ireturn, 1) := by decide +kernel
theorem dX4_wordHere_21 : decode cX4_wordHere 21 = .ok (.iinc 1 1, 3) := by decide +kernel
theorem dX4_wordHere_24 : decode cX4_wordHere 24 = .ok (.goto (-22), 3) := by decide +kernel
theorem dX4_wordHere_27 : decode cX4_wordHere 27 = .ok (.iconst (-1), 1) := by decide +kernel
theorem dX4_wordHere_28 : decode cX4_wordHere 28 = .ok (.ireturn, 1) := by decide +kernel
theorem dX4_isHere_0 : decode cX4_isHere 0 = .ok (.aload_n 0, 1) := by decide +kernel
theorem dX4_isHere_1 : decode cX4_isHere 1 = .ok (.getfield 26, 3) := by decide +kernel
theorem dX4_isHere_4 : decode cX4_isHere 4 = .ok (.aload_n 0, 1) := by decide +kernel
theorem dX4_isHere_5 : decode cX4_isHere 5 = .ok (.getfield 37, 3) := by decide +kernel
theorem dX4_isHere_8 : decode cX4_isHere 8 = .ok (.isub, 1) := by decide +kernel
theorem dX4_isHere_9 : decode cX4_isHere 9 = .ok (.aload_n 1, 1) := by decide +kernel
theorem dX4_isHere_10 : decode cX4_isHere 10 = .ok (.invokevirtual 132, 3) := by decide +kernel
theorem dX4_isHere_13 : decode cX4_isHere 13 = .ok (.if_icmp .eq 5, 3) := by decide +kernel
theorem dX4_isHere_16 : decode cX4_isHere 16 = .ok (.iconst 0, 1) := by decide +kernel
theorem dX4_isHere_17 : decode cX4_isHere 17 = .ok (.ireturn, 1) := by decide +kernel
theorem dX4_isHere_18 : decode cX4_isHere 18 = .ok (.iconst 0, 1) := by decide +kernel
theorem dX4_isHere_19 : decode cX4_isHere 19 = .ok (.istore_n 2, 1) := by decide +kernel
theorem dX4_isHere_20 : decode cX4_isHere 20 = .ok (.iload_n 2, 1) := by decide +kernel
theorem dX4_isHere_21 : decode cX4_isHere 21 = .ok (.aload_n 1, 1) := by decide +kernel
theorem dX4_isHere_22 : decode cX4_isHere 22 = .ok (.invokevirtual 132, 3) := by decide +kernel
theorem dX4_isHere_25 : decode cX4_isHere 25 = .ok (.if_icmp .ge 30, 3) := by decide +kernel
theorem dX4_isHere_28 : decode cX4_isHere 28 = .ok (.aload_n 0, 1) := by decide +kernel
theorem dX4_isHere_29 : decode cX4_isHere 29 = .ok (.getfield 9, 3) := by decide +kernel
theorem dX4_isHere_32 : decode cX4_isHere 32 = .ok (.aload_n 0, 1) := by decide +kernel
theorem dX4_isHere_33 : decode cX4_isHere 33 = .ok (.getfield 37, 3) := by decide +kernel
theorem dX4_isHere_36 : decode cX4_isHere 36 = .ok (.iload_n 2, 1) := by decide +kernel
theorem dX4_isHere_37 : decode cX4_isHere 37 = .ok (.iadd, 1) := by decide +kernel
theorem dX4_isHere_38 : decode cX4_isHere 38 = .ok (.baload, 1) := by decide +kernel
theorem dX4_isHere_39 : decode cX4_isHere 39 = .ok (.aload_n 1, 1) := by decide +kernel
theorem dX4_isHere_40 : decode cX4_isHere 40 = .ok (.iload_n 2, 1) := by decide +kernel
theorem dX4_isHere_41 : decode cX4_isHere 41 = .ok (.invokevirtual 136, 3) := by decide +kernel
theorem dX4_isHere_44 : decode cX4_isHere 44 = .ok (.if_icmp .eq 5, 3) := by decide +kernel
theorem dX4_isHere_47 : decode cX4_isHere 47 = .ok (.iconst 0, 1) := by decide +kernel
theorem dX4_isHere_48 : decode cX4_isHere 48 = .ok (.ireturn, 1) := by decide +kernel
theorem dX4_isHere_49 : decode cX4_isHere 49 = .ok (.iinc 2 1, 3) := by decide +kernel
theorem dX4_isHere_52 : decode cX4_isHere 52 = .ok (.goto (-32), 3) := by decide +kernel
theorem dX4_isHere_55 : decode cX4_isHere 55 = .ok (.iconst 1, 1) := by decide +kernel
theorem dX4_isHere_56 : decode cX4_isHere 56 = .ok (.ireturn, 1) := by decide +kernel
theorem dX4_spelling_0 : decode cX4_spelling 0 = .ok (.iload_n 0, 1) := by decide +kernel
theorem dX4_spelling_1 : decode cX4_spelling 1 = .ok (.tableswitch 78 0 8 #[51, 54, 57, 60, 63, 66, 69, 72, 75], 51) := by decide +kernel
theorem dX4_spelling_52 : decode cX4_spelling 52 = .ok (.ldc 140, 2) := by decide +kernel
theorem dX4_spelling_54 : decode cX4_spelling 54 = .ok (.areturn, 1) := by decide +kernel
theorem dX4_spelling_55 : decode cX4_spelling 55 = .ok (.ldc 142, 2) := by decide +kernel
theorem dX4_spelling_57 : decode cX4_spelling 57 = .ok (.areturn, 1) := by decide +kernel
theorem dX4_spelling_58 : decode cX4_spelling 58 = .ok (.ldc 144, 2) := by decide +kernel
theorem dX4_spelling_60 : decode cX4_spelling 60 = .ok (.areturn, 1) := by decide +kernel
theorem dX4_spelling_61 : decode cX4_spelling 61 = .ok (.ldc 146, 2) := by decide +kernel
theorem dX4_spelling_63 : decode cX4_spelling 63 = .ok (.areturn, 1) := by decide +kernel
theorem dX4_spelling_64 : decode cX4_spelling 64 = .ok (.ldc 148, 2) := by decide +kernel
theorem dX4_spelling_66 : decode cX4_spelling 66 = .ok (.areturn, 1) := by decide +kernel
theorem dX4_spelling_67 : decode cX4_spelling 67 = .ok (.ldc 150, 2) := by decide +kernel
theorem dX4_spelling_69 : decode cX4_spelling 69 = .ok (.areturn, 1) := by decide +kernel
theorem dX4_spelling_70 : decode cX4_spelling 70 = .ok (.ldc 152, 2) := by decide +kernel
theorem dX4_spelling_72 : decode cX4_spelling 72 = .ok (.areturn, 1) := by decide +kernel
theorem dX4_spelling_73 : decode cX4_spelling 73 = .ok (.ldc 154, 2) := by decide +kernel
theorem dX4_spelling_75 : decode cX4_spelling 75 = .ok (.areturn, 1) := by decide +kernel
theorem dX4_spelling_76 : decode cX4_spelling 76 = .ok (.ldc 155, 2) := by decide +kernel
theorem dX4_spelling_78 : decode cX4_spelling 78 = .ok (.areturn, 1) := by decide +kernel
theorem dX4_spelling_79 : decode cX4_spelling 79 = .ok (.ldc 157, 2) := by decide +kernel
theorem dX4_spelling_81 : decode cX4_spelling 81 = .ok (.areturn, 1) := by decide +kernel
theorem dX5_init_0 : decode cX5_init 0 = .ok (.aload_n 0, 1) := by decide +kernel
theorem dX5_init_1 : decode cX5_init 1 = .ok (.invokespecial 1, 3) := by decide +kernel
theorem dX5_init_4 : decode cX5_init 4 = .ok (.aload_n 0, 1) := by decide +kernel
theorem dX5_init_5 : decode cX5_init 5 = .ok (.new 7, 3) := by decide +kernel
theorem dX5_init_8 : decode cX5_init 8 = .ok (.dup, 1) := by decide +kernel
theorem dX5_init_9 : decode cX5_init 9 = .ok (.invokespecial 9, 3) := by decide +kernel
theorem dX5_init_12 : decode cX5_init 12 = .ok (.putfield 10, 3) := by decide +kernel
theorem dX5_init_15 : decode cX5_init 15 = .ok (.aload_n 0, 1) := by decide +kernel
theorem dX5_init_16 : decode cX5_init 16 = .ok (.new 16, 3) := by decide +kernel
theorem dX5_init_19 : decode cX5_init 19 = .ok (.dup, 1) := by decide +kernel
theorem dX5_init_20 : decode cX5_init 20 = .ok (.invokespecial 18, 3) := by decide +kernel
theorem dX5_init_23 : decode cX5_init 23 = .ok (.putfield 19, 3) := by decide +kernel
theorem dX5_init_26 : decode cX5_init 26 = .ok (.aload_n 0, 1) := by decide +kernel
theorem dX5_init_27 : decode cX5_init 27 = .ok (.new 23, 3) := by decide +kernel
theorem dX5_init_30 : decode cX5_init 30 = .ok (.dup, 1) := by decide +kernel
theorem dX5_init_31 : decode cX5_init 31 = .ok (.aload_n 0, 1) := by decide +kernel
theorem dX5_init_32 : decode cX5_init 32 = .ok (.getfield 10, 3) := by decide +kernel
theorem dX5_init_35 : decode cX5_init 35 = .ok (.invokespecial 25, 3) := by decide +kernel
theorem dX5_init_38 : decode cX5_init 38 = .ok (.putfield 28, 3) := by decide +kernel
theorem dX5_init_41 : decode cX5_init 41 = .ok (.aload_n 0, 1) := by decide +kernel
theorem dX5_init_42 : decode cX5_init 42 = .ok (.new 23, 3) := by decide +kernel
theorem dX5_init_45 : decode cX5_init 45 = .ok (.dup, 1) := by decide +kernel
theorem dX5_init_46 : decode cX5_init 46 = .ok (.aload_n 0, 1) := by decide +kernel
theorem dX5_init_47 : decode cX5_init 47 = .ok (.getfield 10, 3) := by decide +kernel
theorem dX5_init_50 : decode cX5_init 50 = .ok (.invokespecial 25, 3) := by decide +kernel
theorem dX5_init_53 : decode cX5_init 53 = .ok (.putfield 32, 3) := by decide +kernel
theorem dX5_init_56 : decode cX5_init 56 = .ok (.aload_n 0, 1) := by decide +kernel
theorem dX5_init_57 : decode cX5_init 57 = .ok (.iconst 2, 1) := by decide +kernel
theorem dX5_init_58 : decode cX5_init 58 = .ok (.anewarray 23, 3) := by decide +kernel
theorem dX5_init_61 : decode cX5_init 61 = .ok (.putfield 35, 3) := by decide +kernel
theorem dX5_init_64 : decode cX5_init 64 = .ok (.aload_n 0, 1) := by decide +kernel
theorem dX5_init_65 : decode cX5_init 65 = .ok (.iconst 2, 1) := by decide +kernel
theorem dX5_init_66 : decode cX5_init 66 = .ok (.newarray .boolean, 2) := by decide +kernel
theorem dX5_init_68 : decode cX5_init 68 = .ok (.putfield 39, 3) := by decide +kernel
theorem dX5_init_71 : decode cX5_init 71 = .ok (.aload_n 0, 1) := by decide +kernel
theorem dX5_init_72 : decode cX5_init 72 = .ok (.new 43, 3) := by decide +kernel
theorem dX5_init_75 : decode cX5_init 75 = .ok (.dup, 1) := by decide +kernel
theorem dX5_init_76 : decode cX5_init 76 = .ok (.aload_n 0, 1) := by decide +kernel
theorem dX5_init_77 : decode cX5_init 77 = .ok (.getfield 10, 3) := by decide +kernel
theorem dX5_init_80 : decode cX5_init 80 = .ok (.invokespecial 45, 3) := by decide +kernel
theorem dX5_init_83 : decode cX5_init 83 = .ok (.putfield 46, 3) := by decide +kernel
theorem dX5_init_86 : decode cX5_init 86 = .ok (.aload_n 0, 1) := by decide +kernel
theorem dX5_init_87 : decode cX5_init 87 = .ok (.new 50, 3) := by decide +kernel
theorem dX5_init_90 : decode cX5_init 90 = .ok (.dup, 1) := by decide +kernel
theorem dX5_init_91 : decode cX5_init 91 = .ok (.invokespecial 52, 3) := by decide +kernel
theorem dX5_init_94 : decode cX5_init 94 = .ok (.putfield 53, 3) := by decide +kernel
theorem dX5_init_97 : decode cX5_init 97 = .ok (.iconst 0, 1) := by decide +kernel
theorem dX5_init_98 : decode cX5_init 98 = .ok (.istore_n 1, 1) := by decide +kernel
theorem dX5_init_99 : decode cX5_init 99 = .ok (.iload_n 1, 1) := by decide +kernel
theorem dX5_init_100 : decode cX5_init 100 = .ok (.iconst 2, 1) := by decide +kernel
theorem dX5_init_101 : decode cX5_init 101 = .ok (.if_icmp .ge 26, 3) := by decide +kernel
theorem dX5_init_104 : decode cX5_init 104 = .ok (.aload_n 0, 1) := by decide +kernel
theorem dX5_init_105 : decode cX5_init 105 = .ok (.getfield 35, 3) := by decide +kernel
theorem dX5_init_108 : decode cX5_init 108 = .ok (.iload_n 1, 1) := by decide +kernel
theorem dX5_init_109 : decode cX5_init 109 = .ok (.new 23, 3) := by decide +kernel
theorem dX5_init_112 : decode cX5_init 112 = .ok (.dup, 1) := by decide +kernel
theorem dX5_init_113 : decode cX5_init 113 = .ok (.aload_n 0, 1) := by decide +kernel
theorem dX5_init_114 : decode cX5_init 114 = .ok (.getfield 10, 3) := by decide +kernel
theorem dX5_init_117 : decode cX5_init 117 = .ok (.invokespecial 25, 3) := by decide +kernel
theorem dX5_init_120 : decode cX5_init 120 = .ok (.aastore, 1) := by decide +kernel
theorem dX5_init_121 : decode cX5_init 121 = .ok (.iinc 1 1, 3) := by decide +kernel
theorem dX5_init_124 : decode cX5_init 124 = .ok (.goto (-25), 3) := by decide +kernel
theorem dX5_init_127 : decode cX5_init 127 = .ok (.aload_n 0, 1) := by decide +kernel
theorem dX5_init_128 : decode cX5_init 128 = .ok (.getfield 10, 3) := by decide +kernel
theorem dX5_init_131 : decode cX5_init 131 = .ok (.iconst 4, 1) := by decide +kernel
theorem dX5_init_132 : decode cX5_init 132 = .ok (.invokevirtual 57, 3) := by decide +kernel
theorem dX5_init_135 : decode cX5_init 135 = .ok (.aload_n 0, 1) := by decide +kernel
theorem dX5_init_136 : decode cX5_init 136 = .ok (.getfield 28, 3) := by decide +kernel
theorem dX5_init_139 : decode cX5_init 139 = .ok (.invokevirtual 61, 3) := by decide +kernel
theorem dX5_init_142 : decode cX5_init 142 = .ok (.return_, 1) := by decide +kernel
theorem dX5_write_0 : decode cX5_write 0 = .ok (.iload_n 3, 1) := by decide +kernel
theorem dX5_write_1 : decode cX5_write 1 = .ok (.iconst 1, 1) := by decide +kernel
theorem dX5_write_2 : decode cX5_write 2 = .ok (.if_icmp .lt 9, 3) := by decide +kernel
theorem dX5_write_5 : decode cX5_write 5 = .ok (.iload_n 3, 1) := by decide +kernel
theorem dX5_write_6 : decode cX5_write 6 = .ok (.bipush 8, 2) := by decide +kernel
theorem dX5_write_8 : decode cX5_write 8 = .ok (.if_icmp .le 6, 3) := by decide +kernel
theorem dX5_write_11 : decode cX5_write 11 = .ok (.bipush (-3), 2) := by decide +kernel
theorem dX5_write_13 : decode cX5_write 13 = .ok (.ireturn, 1) := by decide +kernel
theorem dX5_write_14 : decode cX5_write 14 = .ok (.aload_n 0, 1) := by decide +kernel
theorem dX5_write_15 : decode cX5_write 15 = .ok (.getfield 19, 3) := by decide +kernel
theorem dX5_write_18 : decode cX5_write 18 = .ok (.getfield 63, 3) := by decide +kernel
theorem dX5_write_21 : decode cX5_write 21 = .ok (.iload_n 3, 1) := by decide +kernel
theorem dX5_write_22 : decode cX5_write 22 = .ok (.iadd, 1) := by decide +kernel
theorem dX5_write_23 : decode cX5_write 23 = .ok (.sipush 200, 3) := by decide +kernel
theorem dX5_write_26 : decode cX5_write 26 = .ok (.if_icmp .le 6, 3) := by decide +kernel
theorem dX5_write_29 : decode cX5_write 29 = .ok (.bipush (-5), 2) := by decide +kernel
theorem dX5_write_31 : decode cX5_write 31 = .ok (.ireturn, 1) := by decide +kernel
theorem dX5_write_32 : decode cX5_write 32 = .ok (.iconst 0, 1) := by decide +kernel
theorem dX5_write_33 : decode cX5_write 33 = .ok (.istore 4, 2) := by decide +kernel
theorem dX5_write_35 : decode cX5_write 35 = .ok (.iload 4, 2) := by decide +kernel
theorem dX5_write_37 : decode cX5_write 37 = .ok (.iload_n 3, 1) := by decide +kernel
theorem dX5_write_38 : decode cX5_write 38 = .ok (.if_icmp .ge 46, 3) := by decide +kernel
theorem dX5_write_41 : decode cX5_write 41 = .ok (.aload_n 0, 1) := by decide +kernel
theorem dX5_write_42 : decode cX5_write 42 = .ok (.getfield 19, 3) := by decide +kernel
theorem dX5_write_45 : decode cX5_write 45 = .ok (.getfield 67, 3) := by decide +kernel
theorem dX5_write_48 : decode cX5_write 48 = .ok (.aload_n 0, 1) := by decide +kernel
theorem dX5_write_49 : decode cX5_write 49 = .ok (.getfield 19, 3) := by decide +kernel
theorem dX5_write_52 : decode cX5_write 52 = .ok (.getfield 63, 3) := by decide +kernel
theorem dX5_write_55 : decode cX5_write 55 = .ok (.lload_n 1, 1) := by decide +kernel
theorem dX5_write_56 : decode cX5_write 56 = .ok (.bipush 8, 2) := by decide +kernel
theorem dX5_write_58 : decode cX5_write 58 = .ok (.iload 4, 2) := by decide +kernel
theorem dX5_write_60 : decode cX5_write 60 = .ok (.imul, 1) := by decide +kernel
theorem dX5_write_61 : decode cX5_write 61 = .ok (.lshr, 1) := by decide +kernel
theorem dX5_write_62 : decode cX5_write 62 = .ok (.l2i, 1) := by decide +kernel
theorem dX5_write_63 : decode cX5_write 63 = .ok (.i2b, 1) := by decide +kernel
theorem dX5_write_64 : decode cX5_write 64 = .ok (.bastore, 1) := by decide +kernel
theorem dX5_write_65 : decode cX5_write 65 = .ok (.aload_n 0, 1) := by decide +kernel
theorem dX5_write_66 : decode cX5_write 66 = .ok (.getfield 19, 3) := by decide +kernel
theorem dX5_write_69 : decode cX5_write 69 = .ok (.dup, 1) := by decide +kernel
theorem dX5_write_70 : decode cX5_write 70 = .ok (.getfield 63, 3) := by decide +kernel
theorem dX5_write_73 : decode cX5_write 73 = .ok (.iconst 1, 1) := by decide +kernel
theorem dX5_write_74 : decode cX5_write 74 = .ok (.iadd, 1) := by decide +kernel
theorem dX5_write_75 : decode cX5_write 75 = .ok (.putfield 63, 3) := by decide +kernel
theorem dX5_write_78 : decode cX5_write 78 = .ok (.iinc 4 1, 3) := by decide +kernel
theorem dX5_write_81 : decode cX5_write 81 = .ok (.goto (-46), 3) := by decide +kernel
theorem dX5_write_84 : decode cX5_write 84 = .ok (.aload_n 0, 1) := by decide +kernel
theorem dX5_write_85 : decode cX5_write 85 = .ok (.getfield 19, 3) := by decide +kernel
theorem dX5_write_88 : decode cX5_write 88 = .ok (.getfield 63, 3) := by decide +kernel
theorem dX5_write_91 : decode cX5_write 91 = .ok (.ireturn, 1) := by decide +kernel
theorem dX5_erase_0 : decode cX5_erase 0 = .ok (.aload_n 0, 1) := by decide +kernel
theorem dX5_erase_1 : decode cX5_erase 1 = .ok (.getfield 19, 3) := by decide +kernel
theorem dX5_erase_4 : decode cX5_erase 4 = .ok (.getfield 63, 3) := by decide +kernel
theorem dX5_erase_7 : decode cX5_erase 7 = .ok (.istore_n 1, 1) := by decide +kernel
theorem dX5_erase_8 : decode cX5_erase 8 = .ok (.aload_n 0, 1) := by decide +kernel
theorem dX5_erase_9 : decode cX5_erase 9 = .ok (.getfield 19, 3) := by decide +kernel
theorem dX5_erase_12 : decode cX5_erase 12 = .ok (.iconst 0, 1) := by decide +kernel
theorem dX5_erase_13 : decode cX5_erase 13 = .ok (.putfield 63, 3) := by decide +kernel
theorem dX5_erase_16 : decode cX5_erase 16 = .ok (.iload_n 1, 1) := by decide +kernel
theorem dX5_erase_17 : decode cX5_erase 17 = .ok (.ireturn, 1) := by decide +kernel
theorem dX5_fault_0 : decode cX5_fault 0 = .ok (.aload_n 0, 1) := by decide +kernel
theorem dX5_fault_1 : decode cX5_fault 1 = .ok (.getfield 19, 3) := by decide +kernel
theorem dX5_fault_4 : decode cX5_fault 4 = .ok (.aload_n 0, 1) := by decide +kernel
theorem dX5_fault_5 : decode cX5_fault 5 = .ok (.getfield 10, 3) := by decide +kernel
theorem dX5_fault_8 : decode cX5_fault 8 = .ok (.invokevirtual 71, 3) := by decide +kernel
theorem dX5_fault_11 : decode cX5_fault 11 = .ok (.ireturn, 1) := by decide +kernel
theorem dX5_house_0 : decode cX5_house 0 = .ok (.aload_n 0, 1) := by decide +kernel
theorem dX5_house_1 : decode cX5_house 1 = .ok (.getfield 19, 3) := by decide +kernel
theorem dX5_house_4 : decode cX5_house 4 = .ok (.aload_n 0, 1) := by decide +kernel
theorem dX5_house_5 : decode cX5_house 5 = .ok (.getfield 10, 3) := by decide +kernel
theorem dX5_house_8 : decode cX5_house 8 = .ok (.invokevirtual 71, 3) := by decide +kernel
theorem dX5_house_11 : decode cX5_house 11 = .ok (.iconst (-1), 1) := by decide +kernel
theorem dX5_house_12 : decode cX5_house 12 = .ok (.if_icmp .eq 6, 3) := by decide +kernel
theorem dX5_house_15 : decode cX5_house 15 = .ok (.bipush (-4), 2) := by decide +kernel
theorem dX5_house_17 : decode cX5_house 17 = .ok (.ireturn, 1) := by decide +kernel
theorem dX5_house_18 : decode cX5_house 18 = .ok (.aload_n 0, 1) := by decide +kernel
theorem dX5_house_19 : decode cX5_house 19 = .ok (.getfield 10, 3) := by decide +kernel
theorem dX5_house_22 : decode cX5_house 22 = .ok (.aload_n 0, 1) := by decide +kernel
theorem dX5_house_23 : decode cX5_house 23 = .ok (.getfield 19, 3) := by decide +kernel
theorem dX5_house_26 : decode cX5_house 26 = .ok (.getfield 75, 3) := by decide +kernel
theorem dX5_house_29 : decode cX5_house 29 = .ok (.invokevirtual 78, 3) := by decide +kernel
theorem dX5_house_32 : decode cX5_house 32 = .ok (.aload_n 0, 1) := by decide +kernel
theorem dX5_house_33 : decode cX5_house 33 = .ok (.getfield 19, 3) := by decide +kernel
theorem dX5_house_36 : decode cX5_house 36 = .ok (.iconst 0, 1) := by decide +kernel
theorem dX5_house_37 : decode cX5_house 37 = .ok (.putfield 63, 3) := by decide +kernel
theorem dX5_house_40 : decode cX5_house 40 = .ok (.aload_n 0, 1) := by decide +kernel
theorem dX5_house_41 : decode cX5_house 41 = .ok (.getfield 28, 3) := by decide +kernel
theorem dX5_house_44 : decode cX5_house 44 = .ok (.invokevirtual 61, 3) := by decide +kernel
theorem dX5_house_47 : decode cX5_house 47 = .ok (.aload_n 0, 1) := by decide +kernel
theorem dX5_house_48 : decode cX5_house 48 = .ok (.getfield 53, 3) := by decide +kernel
theorem dX5_house_51 : decode cX5_house 51 = .ok (.iconst 0, 1) := by decide +kernel
theorem dX5_house_52 : decode cX5_house 52 = .ok (.putfield 81, 3) := by decide +kernel
theorem dX5_house_55 : decode cX5_house 55 = .ok (.iconst 0, 1) := by decide +kernel
theorem dX5_house_56 : decode cX5_house 56 = .ok (.istore_n 1, 1) := by decide +kernel
theorem dX5_house_57 : decode cX5_house 57 = .ok (.iload_n 1, 1) := by decide +kernel
theorem dX5_house_58 : decode cX5_house 58 = .ok (.iconst 2, 1) := by decide +kernel
theorem dX5_house_59 : decode cX5_house 59 = .ok (.if_icmp .ge 16, 3) := by decide +kernel
theorem dX5_house_62 : decode cX5_house 62 = .ok (.aload_n 0, 1) := by decide +kernel
theorem dX5_house_63 : decode cX5_house 63 = .ok (.getfield 39, 3) := by decide +kernel
theorem dX5_house_66 : decode cX5_house 66 = .ok (.iload_n 1, 1) := by decide +kernel
theorem dX5_house_67 : decode cX5_house 67 = .ok (.iconst 0, 1) := by decide +kernel
theorem dX5_house_68 : decode cX5_house 68 = .ok (.bastore, 1) := by decide +kernel
theorem dX5_house_69 : decode cX5_house 69 = .ok (.iinc 1 1, 3) := by decide +kernel
theorem dX5_house_72 : decode cX5_house 72 = .ok (.goto (-15), 3) := by decide +kernel
theorem dX5_house_75 : decode cX5_house 75 = .ok (.aload_n 0, 1) := by decide +kernel
theorem dX5_house_76 : decode cX5_house 76 = .ok (.getfield 19, 3) := by decide +kernel
theorem dX5_house_79 : decode cX5_house 79 = .ok (.getfield 84, 3) := by decide +kernel
theorem dX5_house_82 : decode cX5_house 82 = .ok (.ireturn, 1) := by decide +kernel
theorem dX5_leaf_0 : decode cX5_leaf 0 = .ok (.aload_n 0, 1) := by decide +kernel
theorem dX5_leaf_1 : decode cX5_leaf 1 = .ok (.getfield 10, 3) := by decide +kernel
theorem dX5_leaf_4 : decode cX5_leaf 4 = .ok (.iload_n 1, 1) := by decide +kernel
theorem dX5_leaf_5 : decode cX5_leaf 5 = .ok (.invokevirtual 87, 3) := by decide +kernel
theorem dX5_leaf_8 : decode cX5_leaf 8 = .ok (.ifCond .ne 6, 3) := by decide +kernel
theorem dX5_leaf_11 : decode cX5_leaf 11 = .ok (.bipush (-2), 2) := by decide +kernel
theorem dX5_leaf_13 : decode cX5_leaf 13 = .ok (.ireturn, 1) := by decide +kernel
theorem dX5_leaf_14 : decode cX5_leaf 14 = .ok (.iload_n 2, 1) := by decide +kernel
theorem dX5_leaf_15 : decode cX5_leaf 15 = .ok (.tableswitch 55 0 2 #[25, 35, 45], 25) := by decide +kernel
theorem dX5_leaf_40 : decode cX5_leaf 40 = .ok (.aload_n 0, 1) := by decide +kernel
theorem dX5_leaf_41 : decode cX5_leaf 41 = .ok (.getfield 10, 3) := by decide +kernel
theorem dX5_leaf_44 : decode cX5_leaf 44 = .ok (.getfield 91, 3) := by decide +kernel
theorem dX5_leaf_47 : decode cX5_leaf 47 = .ok (.iload_n 1, 1) := by decide +kernel
theorem dX5_leaf_48 : decode cX5_leaf 48 = .ok (.iaload, 1) := by decide +kernel
theorem dX5_leaf_49 : decode cX5_leaf 49 = .ok (.ireturn, 1) := by decide +kernel
theorem dX5_leaf_50 : decode cX5_leaf 50 = .ok (.aload_n 0, 1) := by decide +kernel
theorem dX5_leaf_51 : decode cX5_leaf 51 = .ok (.getfield 28, 3) := by decide +kernel
theorem dX5_leaf_54 : decode cX5_leaf 54 = .ok (.getfield 95, 3) := by decide +kernel
theorem dX5_leaf_57 : decode cX5_leaf 57 = .ok (.iload_n 1, 1) := by decide +kernel
theorem dX5_leaf_58 : decode cX5_leaf 58 = .ok (.iaload, 1) := by decide +kernel
theorem dX5_leaf_59 : decode cX5_leaf 59 = .ok (.ireturn, 1) := by decide +kernel
theorem dX5_leaf_60 : decode cX5_leaf 60 = .ok (.aload_n 0, 1) := by decide +kernel
theorem dX5_leaf_61 : decode cX5_leaf 61 = .ok (.getfield 10, 3) := by decide +kernel
theorem dX5_leaf_64 : decode cX5_leaf 64 = .ok (.getfield 98, 3) := by decide +kernel
theorem dX5_leaf_67 : decode cX5_leaf 67 = .ok (.iload_n 1, 1) := by decide +kernel
theorem dX5_leaf_68 : decode cX5_leaf 68 = .ok (.iaload, 1) := by decide +kernel
theorem dX5_leaf_69 : decode cX5_leaf 69 = .ok (.ireturn, 1) := by decide +kernel
theorem dX5_leaf_70 : decode cX5_leaf 70 = .ok (.bipush (-3), 2) := by decide +kernel
theorem dX5_leaf_72 : decode cX5_leaf 72 = .ok (.ireturn, 1) := by decide +kernel
theorem dX5_room_0 : decode cX5_room 0 = .ok (.aload_n 0, 1) := by decide +kernel
theorem dX5_room_1 : decode cX5_room 1 = .ok (.getfield 10, 3) := by decide +kernel
theorem dX5_room_4 : decode cX5_room 4 = .ok (.iload_n 1, 1) := by decide +kernel
theorem dX5_room_5 : decode cX5_room 5 = .ok (.invokevirtual 87, 3) := by decide +kernel
theorem dX5_room_8 : decode cX5_room 8 = .ok (.ifCond .ne 6, 3) := by decide +kernel
theorem dX5_room_11 : decode cX5_room 11 = .ok (.bipush (-2), 2) := by decide +kernel
theorem dX5_room_13 : decode cX5_room 13 = .ok (.ireturn, 1) := by decide +kernel
theorem dX5_room_14 : decode cX5_room 14 = .ok (.iload_n 2, 1) := by decide +kernel
theorem dX5_room_15 : decode cX5_room 15 = .ok (.tableswitch 74 0 3 #[29, 38, 48, 65], 29) := by decide +kernel
theorem dX5_room_44 : decode cX5_room 44 = .ok (.aload_n 0, 1) := by decide +kernel
theorem dX5_room_45 : decode cX5_room 45 = .ok (.getfield 28, 3) := by decide +kernel
theorem dX5_room_48 : decode cX5_room 48 = .ok (.iload_n 1, 1) := by decide +kernel
theorem dX5_room_49 : decode cX5_room 49 = .ok (.invokevirtual 101, 3) := by decide +kernel
theorem dX5_room_52 : decode cX5_room 52 = .ok (.ireturn, 1) := by decide +kernel
theorem dX5_room_53 : decode cX5_room 53 = .ok (.aload_n 0, 1) := by decide +kernel
theorem dX5_room_54 : decode cX5_room 54 = .ok (.getfield 10, 3) := by decide +kernel
theorem dX5_room_57 : decode cX5_room 57 = .ok (.getfield 105, 3) := by decide +kernel
theorem dX5_room_60 : decode cX5_room 60 = .ok (.iload_n 1, 1) := by decide +kernel
theorem dX5_room_61 : decode cX5_room 61 = .ok (.iaload, 1) := by decide +kernel
theorem dX5_room_62 : decode cX5_room 62 = .ok (.ireturn, 1) := by decide +kernel
theorem dX5_room_63 : decode cX5_room 63 = .ok (.aload_n 0, 1) := by decide +kernel
theorem dX5_room_64 : decode cX5_room 64 = .ok (.getfield 28, 3) := by decide +kernel
theorem dX5_room_67 : decode cX5_room 67 = .ok (.iload_n 1, 1) := by decide +kernel
theorem dX5_room_68 : decode cX5_room 68 = .ok (.invokevirtual 108, 3) := by decide +kernel
theorem dX5_room_71 : decode cX5_room 71 = .ok (.ifCond .eq 7, 3) := by decide +kernel
theorem dX5_room_74 : decode cX5_room 74 = .ok (.iconst 1, 1) := by decide +kernel
theorem dX5_room_75 : decode cX5_room 75 = .ok (.goto 4, 3) := by decide +kernel
theorem dX5_room_78 : decode cX5_room 78 = .ok (.iconst 0, 1) := by decide +kernel
theorem dX5_room_79 : decode cX5_room 79 = .ok (.ireturn, 1) := by decide +kernel
theorem dX5_room_80 : decode cX5_room 80 = .ok (.aload_n 0, 1) := by decide +kernel
theorem dX5_room_81 : decode cX5_room 81 = .ok (.getfield 28, 3) := by decide +kernel
theorem dX5_room_84 : decode cX5_room 84 = .ok (.iload_n 1, 1) := by decide +kernel
theorem dX5_room_85 : decode cX5_room 85 = .ok (.invokevirtual 111, 3) := by decide +kernel
theorem dX5_room_88 : decode cX5_room 88 = .ok (.ireturn, 1) := by decide +kernel
theorem dX5_room_89 : decode cX5_room 89 = .ok (.bipush (-3), 2) := by decide +kernel
theorem dX5_room_91 : decode cX5_room 91 = .ok (.ireturn, 1) := by decide +kernel
theorem dX5_as_0 : decode cX5_as 0 = .ok (.aload_n 0, 1) := by decide +kernel
theorem dX5_as_1 : decode cX5_as 1 = .ok (.getfield 10, 3) := by decide +kernel
theorem dX5_as_4 : decode cX5_as 4 = .ok (.iload_n 1, 1) := by decide +kernel
theorem dX5_as_5 : decode cX5_as 5 = .ok (.invokevirtual 87, 3) := by decide +kernel
theorem dX5_as_8 : decode cX5_as 8 = .ok (.ifCond .ne 6, 3) := by decide +kernel
theorem dX5_as_11 : decode cX5_as 11 = .ok (.bipush (-2), 2) := by decide +kernel
theorem dX5_as_13 : decode cX5_as 13 = .ok (.ireturn, 1) := by decide +kernel
theorem dX5_as_14 : decode cX5_as 14 = .ok (.iload_n 2, 1) := by decide +kernel
theorem dX5_as_15 : decode cX5_as 15 = .ok (.ifCond .lt 8, 3) := by decide +kernel
theorem dX5_as_18 : decode cX5_as 18 = .ok (.iload_n 2, 1) := by decide +kernel
theorem dX5_as_19 : decode cX5_as 19 = .ok (.iconst 4, 1) := by decide +kernel
theorem dX5_as_20 : decode cX5_as 20 = .ok (.if_icmp .le 6, 3) := by decide +kernel
theorem dX5_as_23 : decode cX5_as 23 = .ok (.bipush (-3), 2) := by decide +kernel
theorem dX5_as_25 : decode cX5_as 25 = .ok (.ireturn, 1) := by decide +kernel
theorem dX5_as_26 : decode cX5_as 26 = .ok (.aload_n 0, 1) := by decide +kernel
theorem dX5_as_27 : decode cX5_as 27 = .ok (.getfield 10, 3) := by decide +kernel
theorem dX5_as_30 : decode cX5_as 30 = .ok (.iload_n 1, 1) := by decide +kernel
theorem dX5_as_31 : decode cX5_as 31 = .ok (.iload_n 2, 1) := by decide +kernel
theorem dX5_as_32 : decode cX5_as 32 = .ok (.invokevirtual 114, 3) := by decide +kernel
theorem dX5_as_35 : decode cX5_as 35 = .ok (.ifCond .ne 6, 3) := by decide +kernel
theorem dX5_as_38 : decode cX5_as 38 = .ok (.bipush (-4), 2) := by decide +kernel
theorem dX5_as_40 : decode cX5_as 40 = .ok (.ireturn, 1) := by decide +kernel
theorem dX5_as_41 : decode cX5_as 41 = .ok (.aload_n 0, 1) := by decide +kernel
theorem dX5_as_42 : decode cX5_as 42 = .ok (.getfield 28, 3) := by decide +kernel
theorem dX5_as_45 : decode cX5_as 45 = .ok (.iload_n 1, 1) := by decide +kernel
theorem dX5_as_46 : decode cX5_as 46 = .ok (.iconst 0, 1) := by decide +kernel
theorem dX5_as_47 : decode cX5_as 47 = .ok (.invokevirtual 118, 3) := by decide +kernel
theorem dX5_as_50 : decode cX5_as 50 = .ok (.ifCond .le 7, 3) := by decide +kernel
theorem dX5_as_53 : decode cX5_as 53 = .ok (.iconst 1, 1) := by decide +kernel
theorem dX5_as_54 : decode cX5_as 54 = .ok (.goto 4, 3) := by decide +kernel
theorem dX5_as_57 : decode cX5_as 57 = .ok (.iconst 0, 1) := by decide +kernel
theorem dX5_as_58 : decode cX5_as 58 = .ok (.istore_n 3, 1) := by decide +kernel
theorem dX5_as_59 : decode cX5_as 59 = .ok (.aload_n 0, 1) := by decide +kernel
theorem dX5_as_60 : decode cX5_as 60 = .ok (.getfield 28, 3) := by decide +kernel
theorem dX5_as_63 : decode cX5_as 63 = .ok (.iload_n 1, 1) := by decide +kernel
theorem dX5_as_64 : decode cX5_as 64 = .ok (.iconst 1, 1) := by decide +kernel
theorem dX5_as_65 : decode cX5_as 65 = .ok (.invokevirtual 118, 3) := by decide +kernel
theorem dX5_as_68 : decode cX5_as 68 = .ok (.ifCond .le 7, 3) := by decide +kernel
theorem dX5_as_71 : decode cX5_as 71 = .ok (.iconst 2, 1) := by decide +kernel
theorem dX5_as_72 : decode cX5_as 72 = .ok (.goto 4, 3) := by decide +kernel
theorem dX5_as_75 : decode cX5_as 75 = .ok (.iconst 0, 1) := by decide +kernel
theorem dX5_as_76 : decode cX5_as 76 = .ok (.istore 4, 2) := by decide +kernel
theorem dX5_as_78 : decode cX5_as 78 = .ok (.iload_n 3, 1) := by decide +kernel
theorem dX5_as_79 : decode cX5_as 79 = .ok (.iload 4, 2) := by decide +kernel
theorem dX5_as_81 : decode cX5_as 81 = .ok (.iadd, 1) := by decide +kernel
theorem dX5_as_82 : decode cX5_as 82 = .ok (.ireturn, 1) := by decide +kernel
theorem dX5_person_0 : decode cX5_person 0 = .ok (.aload_n 0, 1) := by decide +kernel
theorem dX5_person_1 : decode cX5_person 1 = .ok (.iload_n 1, 1) := by decide +kernel
theorem dX5_person_2 : decode cX5_person 2 = .ok (.invokevirtual 122, 3) := by decide +kernel
theorem dX5_person_5 : decode cX5_person 5 = .ok (.ifCond .eq 15, 3) := by decide +kernel
theorem dX5_person_8 : decode cX5_person 8 = .ok (.aload_n 0, 1) := by decide +kernel
theorem dX5_person_9 : decode cX5_person 9 = .ok (.getfield 28, 3) := by decide +kernel
theorem dX5_person_12 : decode cX5_person 12 = .ok (.getfield 125, 3) := by decide +kernel
theorem dX5_person_15 : decode cX5_person 15 = .ok (.iload_n 1, 1) := by decide +kernel
theorem dX5_person_16 : decode cX5_person 16 = .ok (.iaload, 1) := by decide +kernel
theorem dX5_person_17 : decode cX5_person 17 = .ok (.goto 5, 3) := by decide +kernel
theorem dX5_person_20 : decode cX5_person 20 = .ok (.bipush (-2), 2) := by decide +kernel
theorem dX5_person_22 : decode cX5_person 22 = .ok (.ireturn, 1) := by decide +kernel
theorem dX5_push_0 : decode cX5_push 0 = .ok (.aload_n 0, 1) := by decide +kernel
theorem dX5_push_1 : decode cX5_push 1 = .ok (.getfield 10, 3) := by decide +kernel
theorem dX5_push_4 : decode cX5_push 4 = .ok (.iload_n 1, 1) := by decide +kernel
theorem dX5_push_5 : decode cX5_push 5 = .ok (.invokevirtual 87, 3) := by decide +kernel
theorem dX5_push_8 : decode cX5_push 8 = .ok (.ifCond .ne 6, 3) := by decide +kernel
theorem dX5_push_11 : decode cX5_push 11 = .ok (.bipush (-2), 2) := by decide +kernel
theorem dX5_push_13 : decode cX5_push 13 = .ok (.ireturn, 1) := by decide +kernel
theorem dX5_push_14 : decode cX5_push 14 = .ok (.iload_n 2, 1) := by decide +kernel
theorem dX5_push_15 : decode cX5_push 15 = .ok (.invokestatic 128, 3) := by decide +kernel
theorem dX5_push_18 : decode cX5_push 18 = .ok (.ifCond .eq 14, 3) := by decide +kernel
theorem dX5_push_21 : decode cX5_push 21 = .ok (.iload_n 3, 1) := by decide +kernel
theorem dX5_push_22 : decode cX5_push 22 = .ok (.iconst 1, 1) := by decide +kernel
theorem dX5_push_23 : decode cX5_push 23 = .ok (.if_icmp .lt 9, 3) := by decide +kernel
theorem dX5_push_26 : decode cX5_push 26 = .ok (.iload_n 3, 1) := by decide +kernel
theorem dX5_push_27 : decode cX5_push 27 = .ok (.bipush 72, 2) := by decide +kernel
theorem dX5_push_29 : decode cX5_push 29 = .ok (.if_icmp .le 6, 3) := by decide +kernel
theorem dX5_push_32 : decode cX5_push 32 = .ok (.bipush (-3), 2) := by decide +kernel
theorem dX5_push_34 : decode cX5_push 34 = .ok (.ireturn, 1) := by decide +kernel
theorem dX5_push_35 : decode cX5_push 35 = .ok (.iconst 0, 1) := by decide +kernel
theorem dX5_push_36 : decode cX5_push 36 = .ok (.istore 4, 2) := by decide +kernel
theorem dX5_push_38 : decode cX5_push 38 = .ok (.iload 4, 2) := by decide +kernel
theorem dX5_push_40 : decode cX5_push 40 = .ok (.iload_n 3, 1) := by decide +kernel
theorem dX5_push_41 : decode cX5_push 41 = .ok (.if_icmp .ge 21, 3) := by decide +kernel
theorem dX5_push_44 : decode cX5_push 44 = .ok (.aload_n 0, 1) := by decide +kernel
theorem dX5_push_45 : decode cX5_push 45 = .ok (.getfield 28, 3) := by decide +kernel
theorem dX5_push_48 : decode cX5_push 48 = .ok (.iload_n 1, 1) := by decide +kernel
theorem dX5_push_49 : decode cX5_push 49 = .ok (.iload_n 2, 1) := by decide +kernel
theorem dX5_push_50 : decode cX5_push 50 = .ok (.invokevirtual 131, 3) := by decide +kernel
theorem dX5_push_53 : decode cX5_push 53 = .ok (.ifCond .eq 9, 3) := by decide +kernel
theorem dX5_push_56 : decode cX5_push 56 = .ok (.iinc 4 1, 3) := by decide +kernel
theorem dX5_push_59 : decode cX5_push 59 = .ok (.goto (-21), 3) := by decide +kernel
theorem dX5_push_62 : decode cX5_push 62 = .ok (.iload 4, 2) := by decide +kernel
theorem dX5_push_64 : decode cX5_push 64 = .ok (.ireturn, 1) := by decide +kernel
theorem dX5_hours_0 : decode cX5_hours 0 = .ok (.iload_n 1, 1) := by decide +kernel
theorem dX5_hours_1 : decode cX5_hours 1 = .ok (.iconst 1, 1) := by decide +kernel
theorem dX5_hours_2 : decode cX5_hours 2 = .ok (.if_icmp .lt 9, 3) := by decide +kernel
theorem dX5_hours_5 : decode cX5_hours 5 = .ok (.iload_n 1, 1) := by decide +kernel
theorem dX5_hours_6 : decode cX5_hours 6 = .ok (.bipush 99, 2) := by decide +kernel
theorem dX5_hours_8 : decode cX5_hours 8 = .ok (.if_icmp .le 6, 3) := by decide +kernel
theorem dX5_hours_11 : decode cX5_hours 11 = .ok (.bipush (-3), 2) := by decide +kernel
theorem dX5_hours_13 : decode cX5_hours 13 = .ok (.ireturn, 1) := by decide +kernel
theorem dX5_hours_14 : decode cX5_hours 14 = .ok (.aload_n 0, 1) := by decide +kernel
theorem dX5_hours_15 : decode cX5_hours 15 = .ok (.getfield 28, 3) := by decide +kernel
theorem dX5_hours_18 : decode cX5_hours 18 = .ok (.getfield 134, 3) := by decide +kernel
theorem dX5_hours_21 : decode cX5_hours 21 = .ok (.iload_n 1, 1) := by decide +kernel
theorem dX5_hours_22 : decode cX5_hours 22 = .ok (.iadd, 1) := by decide +kernel
theorem dX5_hours_23 : decode cX5_hours 23 = .ok (.sipush 9999, 3) := by decide +kernel
theorem dX5_hours_26 : decode cX5_hours 26 = .ok (.if_icmp .le 6, 3) := by decide +kernel
theorem dX5_hours_29 : decode cX5_hours 29 = .ok (.bipush (-5), 2) := by decide +kernel
theorem dX5_hours_31 : decode cX5_hours 31 = .ok (.ireturn, 1) := by decide +kernel
theorem dX5_hours_32 : decode cX5_hours 32 = .ok (.iconst 0, 1) := by decide +kernel
theorem dX5_hours_33 : decode cX5_hours 33 = .ok (.istore_n 2, 1) := by decide +kernel
theorem dX5_hours_34 : decode cX5_hours 34 = .ok (.iload_n 2, 1) := by decide +kernel
theorem dX5_hours_35 : decode cX5_hours 35 = .ok (.iload_n 1, 1) := by decide +kernel
theorem dX5_hours_36 : decode cX5_hours 36 = .ok (.if_icmp .ge 16, 3) := by decide +kernel
theorem dX5_hours_39 : decode cX5_hours 39 = .ok (.aload_n 0, 1) := by decide +kernel
theorem dX5_hours_40 : decode cX5_hours 40 = .ok (.getfield 28, 3) := by decide +kernel
theorem dX5_hours_43 : decode cX5_hours 43 = .ok (.invokevirtual 137, 3) := by decide +kernel
theorem dX5_hours_46 : decode cX5_hours 46 = .ok (.iinc 2 1, 3) := by decide +kernel
theorem dX5_hours_49 : decode cX5_hours 49 = .ok (.goto (-15), 3) := by decide +kernel
theorem dX5_hours_52 : decode cX5_hours 52 = .ok (.aload_n 0, 1) := by decide +kernel
theorem dX5_hours_53 : decode cX5_hours 53 = .ok (.getfield 28, 3) := by decide +kernel
theorem dX5_hours_56 : decode cX5_hours 56 = .ok (.getfield 134, 3) := by decide +kernel
theorem dX5_hours_59 : decode cX5_hours 59 = .ok (.ireturn, 1) := by decide +kernel
theorem dX5_leave_0 : decode cX5_leave 0 = .ok (.aload_n 0, 1) := by decide +kernel
theorem dX5_leave_1 : decode cX5_leave 1 = .ok (.iload_n 1, 1) := by decide +kernel
theorem dX5_leave_2 : decode cX5_leave 2 = .ok (.invokevirtual 122, 3) := by decide +kernel
theorem dX5_leave_5 : decode cX5_leave 5 = .ok (.ifCond .ne 6, 3) := by decide +kernel
theorem dX5_leave_8 : decode cX5_leave 8 = .ok (.bipush (-2), 2) := by decide +kernel
theorem dX5_leave_10 : decode cX5_leave 10 = .ok (.ireturn, 1) := by decide +kernel
theorem dX5_leave_11 : decode cX5_leave 11 = .ok (.aload_n 0, 1) := by decide +kernel
theorem dX5_leave_12 : decode cX5_leave 12 = .ok (.getfield 28, 3) := by decide +kernel
theorem dX5_leave_15 : decode cX5_leave 15 = .ok (.getfield 125, 3) := by decide +kernel
theorem dX5_leave_18 : decode cX5_leave 18 = .ok (.iload_n 1, 1) := by decide +kernel
theorem dX5_leave_19 : decode cX5_leave 19 = .ok (.iaload, 1) := by decide +kernel
theorem dX5_leave_20 : decode cX5_leave 20 = .ok (.istore_n 2, 1) := by decide +kernel
theorem dX5_leave_21 : decode cX5_leave 21 = .ok (.iload_n 2, 1) := by decide +kernel
theorem dX5_leave_22 : decode cX5_leave 22 = .ok (.iconst (-1), 1) := by decide +kernel
theorem dX5_leave_23 : decode cX5_leave 23 = .ok (.if_icmp .eq 14, 3) := by decide +kernel
theorem dX5_leave_26 : decode cX5_leave 26 = .ok (.aload_n 0, 1) := by decide +kernel
theorem dX5_leave_27 : decode cX5_leave 27 = .ok (.getfield 28, 3) := by decide +kernel
theorem dX5_leave_30 : decode cX5_leave 30 = .ok (.iload_n 2, 1) := by decide +kernel
theorem dX5_leave_31 : decode cX5_leave 31 = .ok (.invokevirtual 108, 3) := by decide +kernel
theorem dX5_leave_34 : decode cX5_leave 34 = .ok (.ifCond .ne 6, 3) := by decide +kernel
theorem dX5_leave_37 : decode cX5_leave 37 = .ok (.bipush (-4), 2) := by decide +kernel
theorem dX5_leave_39 : decode cX5_leave 39 = .ok (.ireturn, 1) := by decide +kernel
theorem dX5_leave_40 : decode cX5_leave 40 = .ok (.aload_n 0, 1) := by decide +kernel
theorem dX5_leave_41 : decode cX5_leave 41 = .ok (.getfield 28, 3) := by decide +kernel
theorem dX5_leave_44 : decode cX5_leave 44 = .ok (.getfield 125, 3) := by decide +kernel
theorem dX5_leave_47 : decode cX5_leave 47 = .ok (.iload_n 1, 1) := by decide +kernel
theorem dX5_leave_48 : decode cX5_leave 48 = .ok (.iconst (-1), 1) := by decide +kernel
theorem dX5_leave_49 : decode cX5_leave 49 = .ok (.iastore, 1) := by decide +kernel
theorem dX5_leave_50 : decode cX5_leave 50 = .ok (.iload_n 2, 1) := by decide +kernel
theorem dX5_leave_51 : decode cX5_leave 51 = .ok (.ireturn, 1) := by decide +kernel
theorem dX5_enter_0 : decode cX5_enter 0 = .ok (.aload_n 0, 1) := by decide +kernel
theorem dX5_enter_1 : decode cX5_enter 1 = .ok (.iload_n 1, 1) := by decide +kernel
theorem dX5_enter_2 : decode cX5_enter 2 = .ok (.invokevirtual 122, 3) := by decide +kernel
theorem dX5_enter_5 : decode cX5_enter 5 = .ok (.ifCond .eq 14, 3) := by decide +kernel
theorem dX5_enter_8 : decode cX5_enter 8 = .ok (.aload_n 0, 1) := by decide +kernel
theorem dX5_enter_9 : decode cX5_enter 9 = .ok (.getfield 10, 3) := by decide +kernel
theorem dX5_enter_12 : decode cX5_enter 12 = .ok (.iload_n 2, 1) := by decide +kernel
theorem dX5_enter_13 : decode cX5_enter 13 = .ok (.invokevirtual 87, 3) := by decide +kernel
theorem dX5_enter_16 : decode cX5_enter 16 = .ok (.ifCond .ne 6, 3) := by decide +kernel
theorem dX5_enter_19 : decode cX5_enter 19 = .ok (.bipush (-2), 2) := by decide +kernel
theorem dX5_enter_21 : decode cX5_enter 21 = .ok (.ireturn, 1) := by decide +kernel
theorem dX5_enter_22 : decode cX5_enter 22 = .ok (.aload_n 0, 1) := by decide +kernel
theorem dX5_enter_23 : decode cX5_enter 23 = .ok (.getfield 28, 3) := by decide +kernel
theorem dX5_enter_26 : decode cX5_enter 26 = .ok (.getfield 125, 3) := by decide +kernel
theorem dX5_enter_29 : decode cX5_enter 29 = .ok (.iload_n 1, 1) := by decide +kernel
theorem dX5_enter_30 : decode cX5_enter 30 = .ok (.iaload, 1) := by decide +kernel
theorem dX5_enter_31 : decode cX5_enter 31 = .ok (.iconst (-1), 1) := by decide +kernel
theorem dX5_enter_32 : decode cX5_enter 32 = .ok (.if_icmp .ne 14, 3) := by decide +kernel
theorem dX5_enter_35 : decode cX5_enter 35 = .ok (.aload_n 0, 1) := by decide +kernel
theorem dX5_enter_36 : decode cX5_enter 36 = .ok (.getfield 28, 3) := by decide +kernel
theorem dX5_enter_39 : decode cX5_enter 39 = .ok (.iload_n 2, 1) := by decide +kernel
theorem dX5_enter_40 : decode cX5_enter 40 = .ok (.invokevirtual 108, 3) := by decide +kernel
theorem dX5_enter_43 : decode cX5_enter 43 = .ok (.ifCond .ne 6, 3) := by decide +kernel
theorem dX5_enter_46 : decode cX5_enter 46 = .ok (.bipush (-4), 2) := by decide +kernel
theorem dX5_enter_48 : decode cX5_enter 48 = .ok (.ireturn, 1) := by decide +kernel
theorem dX5_enter_49 : decode cX5_enter 49 = .ok (.aload_n 0, 1) := by decide +kernel
theorem dX5_enter_50 : decode cX5_enter 50 = .ok (.getfield 28, 3) := by decide +kernel
theorem dX5_enter_53 : decode cX5_enter 53 = .ok (.getfield 125, 3) := by decide +kernel
theorem dX5_enter_56 : decode cX5_enter 56 = .ok (.iload_n 1, 1) := by decide +kernel
theorem dX5_enter_57 : decode cX5_enter 57 = .ok (.iload_n 2, 1) := by decide +kernel
theorem dX5_enter_58 : decode cX5_enter 58 = .ok (.iastore, 1) := by decide +kernel
theorem dX5_enter_59 : decode cX5_enter 59 = .ok (.aload_n 0, 1) := by decide +kernel
theorem dX5_enter_60 : decode cX5_enter 60 = .ok (.getfield 28, 3) := by decide +kernel
theorem dX5_enter_63 : decode cX5_enter 63 = .ok (.iload_n 2, 1) := by decide +kernel
theorem dX5_enter_64 : decode cX5_enter 64 = .ok (.invokevirtual 111, 3) := by decide +kernel
theorem dX5_enter_67 : decode cX5_enter 67 = .ok (.invokestatic 140, 3) := by decide +kernel
theorem dX5_enter_70 : decode cX5_enter 70 = .ok (.ireturn, 1) := by decide +kernel
theorem dX5_keep_0 : decode cX5_keep 0 = .ok (.iload_n 1, 1) := by decide +kernel
theorem dX5_keep_1 : decode cX5_keep 1 = .ok (.ifCond .lt 8, 3) := by decide +kernel
theorem dX5_keep_4 : decode cX5_keep 4 = .ok (.iload_n 1, 1) := by decide +kernel
theorem dX5_keep_5 : decode cX5_keep 5 = .ok (.iconst 2, 1) := by decide +kernel
theorem dX5_keep_6 : decode cX5_keep 6 = .ok (.if_icmp .lt 6, 3) := by decide +kernel
theorem dX5_keep_9 : decode cX5_keep 9 = .ok (.bipush (-2), 2) := by decide +kernel
theorem dX5_keep_11 : decode cX5_keep 11 = .ok (.ireturn, 1) := by decide +kernel
theorem dX5_keep_12 : decode cX5_keep 12 = .ok (.aload_n 0, 1) := by decide +kernel
theorem dX5_keep_13 : decode cX5_keep 13 = .ok (.getfield 35, 3) := by decide +kernel
theorem dX5_keep_16 : decode cX5_keep 16 = .ok (.iload_n 1, 1) := by decide +kernel
theorem dX5_keep_17 : decode cX5_keep 17 = .ok (.aaload, 1) := by decide +kernel
theorem dX5_keep_18 : decode cX5_keep 18 = .ok (.aload_n 0, 1) := by decide +kernel
theorem dX5_keep_19 : decode cX5_keep 19 = .ok (.getfield 28, 3) := by decide +kernel
theorem dX5_keep_22 : decode cX5_keep 22 = .ok (.invokevirtual 145, 3) := by decide +kernel
theorem dX5_keep_25 : decode cX5_keep 25 = .ok (.aload_n 0, 1) := by decide +kernel
theorem dX5_keep_26 : decode cX5_keep 26 = .ok (.getfield 39, 3) := by decide +kernel
theorem dX5_keep_29 : decode cX5_keep 29 = .ok (.iload_n 1, 1) := by decide +kernel
theorem dX5_keep_30 : decode cX5_keep 30 = .ok (.iconst 1, 1) := by decide +kernel
theorem dX5_keep_31 : decode cX5_keep 31 = .ok (.bastore, 1) := by decide +kernel
theorem dX5_keep_32 : decode cX5_keep 32 = .ok (.aload_n 0, 1) := by decide +kernel
theorem dX5_keep_33 : decode cX5_keep 33 = .ok (.getfield 28, 3) := by decide +kernel
theorem dX5_keep_36 : decode cX5_keep 36 = .ok (.getfield 134, 3) := by decide +kernel
theorem dX5_keep_39 : decode cX5_keep 39 = .ok (.ireturn, 1) := by decide +kernel
theorem dX5_back_0 : decode cX5_back 0 = .ok (.iload_n 1, 1) := by decide +kernel
theorem dX5_back_1 : decode cX5_back 1 = .ok (.ifCond .lt 8, 3) := by decide +kernel
theorem dX5_back_4 : decode cX5_back 4 = .ok (.iload_n 1, 1) := by decide +kernel
theorem dX5_back_5 : decode cX5_back 5 = .ok (.iconst 2, 1) := by decide +kernel
theorem dX5_back_6 : decode cX5_back 6 = .ok (.if_icmp .lt 6, 3) := by decide +kernel
theorem dX5_back_9 : decode cX5_back 9 = .ok (.bipush (-2), 2) := by decide +kernel
theorem dX5_back_11 : decode cX5_back 11 = .ok (.ireturn, 1) := by decide +kernel
theorem dX5_back_12 : decode cX5_back 12 = .ok (.aload_n 0, 1) := by decide +kernel
theorem dX5_back_13 : decode cX5_back 13 = .ok (.getfield 39, 3) := by decide +kernel
theorem dX5_back_16 : decode cX5_back 16 = .ok (.iload_n 1, 1) := by decide +kernel
theorem dX5_back_17 : decode cX5_back 17 = .ok (.baload, 1) := by decide +kernel
theorem dX5_back_18 : decode cX5_back 18 = .ok (.ifCond .ne 6, 3) := by decide +kernel
theorem dX5_back_21 : decode cX5_back 21 = .ok (.bipush (-4), 2) := by decide +kernel
theorem dX5_back_23 : decode cX5_back 23 = .ok (.ireturn, 1) := by decide +kernel
theorem dX5_back_24 : decode cX5_back 24 = .ok (.aload_n 0, 1) := by decide +kernel
theorem dX5_back_25 : decode cX5_back 25 = .ok (.getfield 28, 3) := by decide +kernel
theorem dX5_back_28 : decode cX5_back 28 = .ok (.aload_n 0, 1) := by decide +kernel
theorem dX5_back_29 : decode cX5_back 29 = .ok (.getfield 35, 3) := by decide +kernel
theorem dX5_back_32 : decode cX5_back 32 = .ok (.iload_n 1, 1) := by decide +kernel
theorem dX5_back_33 : decode cX5_back 33 = .ok (.aaload, 1) := by decide +kernel
theorem dX5_back_34 : decode cX5_back 34 = .ok (.invokevirtual 145, 3) := by decide +kernel
theorem dX5_back_37 : decode cX5_back 37 = .ok (.aload_n 0, 1) := by decide +kernel
theorem dX5_back_38 : decode cX5_back 38 = .ok (.getfield 28, 3) := by decide +kernel
theorem dX5_back_41 : decode cX5_back 41 = .ok (.getfield 134, 3) := by decide +kernel
theorem dX5_back_44 : decode cX5_back 44 = .ok (.ireturn, 1) := by decide +kernel
theorem dX5_turn_0 : decode cX5_turn 0 = .ok (.aload_n 0, 1) := by decide +kernel
theorem dX5_turn_1 : decode cX5_turn 1 = .ok (.getfield 10, 3) := by decide +kernel
theorem dX5_turn_4 : decode cX5_turn 4 = .ok (.iload_n 1, 1) := by decide +kernel
theorem dX5_turn_5 : decode cX5_turn 5 = .ok (.invokevirtual 87, 3) := by decide +kernel
theorem dX5_turn_8 : decode cX5_turn 8 = .ok (.ifCond .eq 14, 3) := by decide +kernel
theorem dX5_turn_11 : decode cX5_turn 11 = .ok (.aload_n 0, 1) := by decide +kernel
theorem dX5_turn_12 : decode cX5_turn 12 = .ok (.getfield 10, 3) := by decide +kernel
theorem dX5_turn_15 : decode cX5_turn 15 = .ok (.iload_n 3, 1) := by decide +kernel
theorem dX5_turn_16 : decode cX5_turn 16 = .ok (.invokevirtual 87, 3) := by decide +kernel
theorem dX5_turn_19 : decode cX5_turn 19 = .ok (.ifCond .ne 6, 3) := by decide +kernel
theorem dX5_turn_22 : decode cX5_turn 22 = .ok (.bipush (-2), 2) := by decide +kernel
theorem dX5_turn_24 : decode cX5_turn 24 = .ok (.ireturn, 1) := by decide +kernel
theorem dX5_turn_25 : decode cX5_turn 25 = .ok (.iload_n 2, 1) := by decide +kernel
theorem dX5_turn_26 : decode cX5_turn 26 = .ok (.invokestatic 128, 3) := by decide +kernel
theorem dX5_turn_29 : decode cX5_turn 29 = .ok (.ifCond .ne 6, 3) := by decide +kernel
theorem dX5_turn_32 : decode cX5_turn 32 = .ok (.bipush (-3), 2) := by decide +kernel
theorem dX5_turn_34 : decode cX5_turn 34 = .ok (.ireturn, 1) := by decide +kernel
theorem dX5_turn_35 : decode cX5_turn 35 = .ok (.aload_n 0, 1) := by decide +kernel
theorem dX5_turn_36 : decode cX5_turn 36 = .ok (.getfield 32, 3) := by decide +kernel
theorem dX5_turn_39 : decode cX5_turn 39 = .ok (.aload_n 0, 1) := by decide +kernel
theorem dX5_turn_40 : decode cX5_turn 40 = .ok (.getfield 28, 3) := by decide +kernel
theorem dX5_turn_43 : decode cX5_turn 43 = .ok (.invokevirtual 145, 3) := by decide +kernel
theorem dX5_turn_46 : decode cX5_turn 46 = .ok (.aload_n 0, 1) := by decide +kernel
theorem dX5_turn_47 : decode cX5_turn 47 = .ok (.getfield 32, 3) := by decide +kernel
theorem dX5_turn_50 : decode cX5_turn 50 = .ok (.iload_n 1, 1) := by decide +kernel
theorem dX5_turn_51 : decode cX5_turn 51 = .ok (.iload_n 2, 1) := by decide +kernel
theorem dX5_turn_52 : decode cX5_turn 52 = .ok (.iload_n 3, 1) := by decide +kernel
theorem dX5_turn_53 : decode cX5_turn 53 = .ok (.bipush 72, 2) := by decide +kernel
theorem dX5_turn_55 : decode cX5_turn 55 = .ok (.invokevirtual 148, 3) := by decide +kernel
theorem dX5_turn_58 : decode cX5_turn 58 = .ok (.ireturn, 1) := by decide +kernel
theorem dX5_best_0 : decode cX5_best 0 = .ok (.aload_n 0, 1) := by decide +kernel
theorem dX5_best_1 : decode cX5_best 1 = .ok (.getfield 10, 3) := by decide +kernel
theorem dX5_best_4 : decode cX5_best 4 = .ok (.iload_n 1, 1) := by decide +kernel
theorem dX5_best_5 : decode cX5_best 5 = .ok (.invokevirtual 87, 3) := by decide +kernel
theorem dX5_best_8 : decode cX5_best 8 = .ok (.ifCond .ne 6, 3) := by decide +kernel
theorem dX5_best_11 : decode cX5_best 11 = .ok (.bipush (-2), 2) := by decide +kernel
theorem dX5_best_13 : decode cX5_best 13 = .ok (.ireturn, 1) := by decide +kernel
theorem dX5_best_14 : decode cX5_best 14 = .ok (.iload_n 2, 1) := by decide +kernel
theorem dX5_best_15 : decode cX5_best 15 = .ok (.ifCond .lt 8, 3) := by decide +kernel
theorem dX5_best_18 : decode cX5_best 18 = .ok (.iload_n 2, 1) := by decide +kernel
theorem dX5_best_19 : decode cX5_best 19 = .ok (.iconst 2, 1) := by decide +kernel
theorem dX5_best_20 : decode cX5_best 20 = .ok (.if_icmp .le 6, 3) := by decide +kernel
theorem dX5_best_23 : decode cX5_best 23 = .ok (.bipush (-3), 2) := by decide +kernel
theorem dX5_best_25 : decode cX5_best 25 = .ok (.ireturn, 1) := by decide +kernel
theorem dX5_best_26 : decode cX5_best 26 = .ok (.iconst (-1), 1) := by decide +kernel
theorem dX5_best_27 : decode cX5_best 27 = .ok (.istore_n 3, 1) := by decide +kernel
theorem dX5_best_28 : decode cX5_best 28 = .ok (.iconst (-1), 1) := by decide +kernel
theorem dX5_best_29 : decode cX5_best 29 = .ok (.istore 4, 2) := by decide +kernel
theorem dX5_best_31 : decode cX5_best 31 = .ok (.iconst (-1), 1) := by decide +kernel
theorem dX5_best_32 : decode cX5_best 32 = .ok (.istore 5, 2) := by decide +kernel
theorem dX5_best_34 : decode cX5_best 34 = .ok (.bipush 72, 2) := by decide +kernel
theorem dX5_best_36 : decode cX5_best 36 = .ok (.istore 6, 2) := by decide +kernel
theorem dX5_best_38 : decode cX5_best 38 = .ok (.iconst 0, 1) := by decide +kernel
theorem dX5_best_39 : decode cX5_best 39 = .ok (.istore 7, 2) := by decide +kernel
theorem dX5_best_41 : decode cX5_best 41 = .ok (.iload 7, 2) := by decide +kernel
theorem dX5_best_43 : decode cX5_best 43 = .ok (.aload_n 0, 1) := by decide +kernel
theorem dX5_best_44 : decode cX5_best 44 = .ok (.getfield 10, 3) := by decide +kernel
theorem dX5_best_47 : decode cX5_best 47 = .ok (.getfield 152, 3) := by decide +kernel
theorem dX5_best_50 : decode cX5_best 50 = .ok (.if_icmp .ge 74, 3) := by decide +kernel
theorem dX5_best_53 : decode cX5_best 53 = .ok (.iconst 0, 1) := by decide +kernel
theorem dX5_best_54 : decode cX5_best 54 = .ok (.istore 8, 2) := by decide +kernel
theorem dX5_best_56 : decode cX5_best 56 = .ok (.iload 8, 2) := by decide +kernel
theorem dX5_best_58 : decode cX5_best 58 = .ok (.iconst 1, 1) := by decide +kernel
theorem dX5_best_59 : decode cX5_best 59 = .ok (.if_icmp .gt 59, 3) := by decide +kernel
theorem dX5_best_62 : decode cX5_best 62 = .ok (.aload_n 0, 1) := by decide +kernel
theorem dX5_best_63 : decode cX5_best 63 = .ok (.getfield 32, 3) := by decide +kernel
theorem dX5_best_66 : decode cX5_best 66 = .ok (.aload_n 0, 1) := by decide +kernel
theorem dX5_best_67 : decode cX5_best 67 = .ok (.getfield 28, 3) := by decide +kernel
theorem dX5_best_70 : decode cX5_best 70 = .ok (.invokevirtual 145, 3) := by decide +kernel
theorem dX5_best_73 : decode cX5_best 73 = .ok (.aload_n 0, 1) := by decide +kernel
theorem dX5_best_74 : decode cX5_best 74 = .ok (.getfield 32, 3) := by decide +kernel
theorem dX5_best_77 : decode cX5_best 77 = .ok (.iload 7, 2) := by decide +kernel
theorem dX5_best_79 : decode cX5_best 79 = .ok (.iload 8, 2) := by decide +kernel
theorem dX5_best_81 : decode cX5_best 81 = .ok (.iload_n 1, 1) := by decide +kernel
theorem dX5_best_82 : decode cX5_best 82 = .ok (.iload 6, 2) := by decide +kernel
theorem dX5_best_84 : decode cX5_best 84 = .ok (.invokevirtual 148, 3) := by decide +kernel
theorem dX5_best_87 : decode cX5_best 87 = .ok (.istore 9, 2) := by decide +kernel
theorem dX5_best_89 : decode cX5_best 89 = .ok (.iload 9, 2) := by decide +kernel
theorem dX5_best_91 : decode cX5_best 91 = .ok (.iconst (-1), 1) := by decide +kernel
theorem dX5_best_92 : decode cX5_best 92 = .ok (.if_icmp .eq 20, 3) := by decide +kernel
theorem dX5_best_95 : decode cX5_best 95 = .ok (.iload 9, 2) := by decide +kernel
theorem dX5_best_97 : decode cX5_best 97 = .ok (.istore_n 3, 1) := by decide +kernel
theorem dX5_best_98 : decode cX5_best 98 = .ok (.iload 7, 2) := by decide +kernel
theorem dX5_best_100 : decode cX5_best 100 = .ok (.istore 4, 2) := by decide +kernel
theorem dX5_best_102 : decode cX5_best 102 = .ok (.iload 8, 2) := by decide +kernel
theorem dX5_best_104 : decode cX5_best 104 = .ok (.istore 5, 2) := by decide +kernel
theorem dX5_best_106 : decode cX5_best 106 = .ok (.iload 9, 2) := by decide +kernel
theorem dX5_best_108 : decode cX5_best 108 = .ok (.iconst 1, 1) := by decide +kernel
theorem dX5_best_109 : decode cX5_best 109 = .ok (.isub, 1) := by decide +kernel
theorem dX5_best_110 : decode cX5_best 110 = .ok (.istore 6, 2) := by decide +kernel
theorem dX5_best_112 : decode cX5_best 112 = .ok (.iinc 8 1, 3) := by decide +kernel
theorem dX5_best_115 : decode cX5_best 115 = .ok (.goto (-59), 3) := by decide +kernel
theorem dX5_best_118 : decode cX5_best 118 = .ok (.iinc 7 1, 3) := by decide +kernel
theorem dX5_best_121 : decode cX5_best 121 = .ok (.goto (-80), 3) := by decide +kernel
theorem dX5_best_124 : decode cX5_best 124 = .ok (.iload_n 2, 1) := by decide +kernel
theorem dX5_best_125 : decode cX5_best 125 = .ok (.ifCond .ne 7, 3) := by decide +kernel
theorem dX5_best_128 : decode cX5_best 128 = .ok (.iload_n 3, 1) := by decide +kernel
theorem dX5_best_129 : decode cX5_best 129 = .ok (.goto 15, 3) := by decide +kernel
theorem dX5_best_132 : decode cX5_best 132 = .ok (.iload_n 2, 1) := by decide +kernel
theorem dX5_best_133 : decode cX5_best 133 = .ok (.iconst 1, 1) := by decide +kernel
theorem dX5_best_134 : decode cX5_best 134 = .ok (.if_icmp .ne 8, 3) := by decide +kernel
theorem dX5_best_137 : decode cX5_best 137 = .ok (.iload 4, 2) := by decide +kernel
theorem dX5_best_139 : decode cX5_best 139 = .ok (.goto 5, 3) := by decide +kernel
theorem dX5_best_142 : decode cX5_best 142 = .ok (.iload 5, 2) := by decide +kernel
theorem dX5_best_144 : decode cX5_best 144 = .ok (.ireturn, 1) := by decide +kernel
theorem dX5_widest_0 : decode cX5_widest 0 = .ok (.aload_n 0, 1) := by decide +kernel
theorem dX5_widest_1 : decode cX5_widest 1 = .ok (.getfield 10, 3) := by decide +kernel
theorem dX5_widest_4 : decode cX5_widest 4 = .ok (.iload_n 1, 1) := by decide +kernel
theorem dX5_widest_5 : decode cX5_widest 5 = .ok (.invokevirtual 87, 3) := by decide +kernel
theorem dX5_widest_8 : decode cX5_widest 8 = .ok (.ifCond .eq 14, 3) := by decide +kernel
theorem dX5_widest_11 : decode cX5_widest 11 = .ok (.aload_n 0, 1) := by decide +kernel
theorem dX5_widest_12 : decode cX5_widest 12 = .ok (.getfield 28, 3) := by decide +kernel
theorem dX5_widest_15 : decode cX5_widest 15 = .ok (.iload_n 1, 1) := by decide +kernel
theorem dX5_widest_16 : decode cX5_widest 16 = .ok (.invokevirtual 155, 3) := by decide +kernel
theorem dX5_widest_19 : decode cX5_widest 19 = .ok (.goto 5, 3) := by decide +kernel
theorem dX5_widest_22 : decode cX5_widest 22 = .ok (.bipush (-2), 2) := by decide +kernel
theorem dX5_widest_24 : decode cX5_widest 24 = .ok (.ireturn, 1) := by decide +kernel
theorem dX5_further_0 : decode cX5_further 0 = .ok (.iload_n 1, 1) := by decide +kernel
theorem dX5_further_1 : decode cX5_further 1 = .ok (.ifCond .lt 8, 3) := by decide +kernel
theorem dX5_further_4 : decode cX5_further 4 = .ok (.iload_n 1, 1) := by decide +kernel
theorem dX5_further_5 : decode cX5_further 5 = .ok (.iconst 1, 1) := by decide +kernel
theorem dX5_further_6 : decode cX5_further 6 = .ok (.if_icmp .le 6, 3) := by decide +kernel
theorem dX5_further_9 : decode cX5_further 9 = .ok (.bipush (-3), 2) := by decide +kernel
theorem dX5_further_11 : decode cX5_further 11 = .ok (.ireturn, 1) := by decide +kernel
theorem dX5_further_12 : decode cX5_further 12 = .ok (.iconst 0, 1) := by decide +kernel
theorem dX5_further_13 : decode cX5_further 13 = .ok (.istore_n 2, 1) := by decide +kernel
theorem dX5_further_14 : decode cX5_further 14 = .ok (.iconst (-1), 1) := by decide +kernel
theorem dX5_further_15 : decode cX5_further 15 = .ok (.istore_n 3, 1) := by decide +kernel
theorem dX5_further_16 : decode cX5_further 16 = .ok (.iconst 0, 1) := by decide +kernel
theorem dX5_further_17 : decode cX5_further 17 = .ok (.istore 4, 2) := by decide +kernel
theorem dX5_further_19 : decode cX5_further 19 = .ok (.iload 4, 2) := by decide +kernel
theorem dX5_further_21 : decode cX5_further 21 = .ok (.aload_n 0, 1) := by decide +kernel
theorem dX5_further_22 : decode cX5_further 22 = .ok (.getfield 10, 3) := by decide +kernel
theorem dX5_further_25 : decode cX5_further 25 = .ok (.getfield 152, 3) := by decide +kernel
theorem dX5_further_28 : decode cX5_further 28 = .ok (.if_icmp .ge 34, 3) := by decide +kernel
theorem dX5_further_31 : decode cX5_further 31 = .ok (.aload_n 0, 1) := by decide +kernel
theorem dX5_further_32 : decode cX5_further 32 = .ok (.getfield 28, 3) := by decide +kernel
theorem dX5_further_35 : decode cX5_further 35 = .ok (.iload 4, 2) := by decide +kernel
theorem dX5_further_37 : decode cX5_further 37 = .ok (.invokevirtual 101, 3) := by decide +kernel
theorem dX5_further_40 : decode cX5_further 40 = .ok (.iconst 2, 1) := by decide +kernel
theorem dX5_further_41 : decode cX5_further 41 = .ok (.idiv, 1) := by decide +kernel
theorem dX5_further_42 : decode cX5_further 42 = .ok (.istore 5, 2) := by decide +kernel
theorem dX5_further_44 : decode cX5_further 44 = .ok (.iload 5, 2) := by decide +kernel
theorem dX5_further_46 : decode cX5_further 46 = .ok (.iload_n 3, 1) := by decide +kernel
theorem dX5_further_47 : decode cX5_further 47 = .ok (.if_icmp .le 9, 3) := by decide +kernel
theorem dX5_further_50 : decode cX5_further 50 = .ok (.iload 4, 2) := by decide +kernel
theorem dX5_further_52 : decode cX5_further 52 = .ok (.istore_n 2, 1) := by decide +kernel
theorem dX5_further_53 : decode cX5_further 53 = .ok (.iload 5, 2) := by decide +kernel
theorem dX5_further_55 : decode cX5_further 55 = .ok (.istore_n 3, 1) := by decide +kernel
theorem dX5_further_56 : decode cX5_further 56 = .ok (.iinc 4 1, 3) := by decide +kernel
theorem dX5_further_59 : decode cX5_further 59 = .ok (.goto (-40), 3) := by decide +kernel
theorem dX5_further_62 : decode cX5_further 62 = .ok (.iload_n 1, 1) := by decide +kernel
theorem dX5_further_63 : decode cX5_further 63 = .ok (.ifCond .ne 7, 3) := by decide +kernel
theorem dX5_further_66 : decode cX5_further 66 = .ok (.iload_n 2, 1) := by decide +kernel
theorem dX5_further_67 : decode cX5_further 67 = .ok (.goto 4, 3) := by decide +kernel
theorem dX5_further_70 : decode cX5_further 70 = .ok (.iload_n 3, 1) := by decide +kernel
theorem dX5_further_71 : decode cX5_further 71 = .ok (.ireturn, 1) := by decide +kernel
theorem dX5_share_0 : decode cX5_share 0 = .ok (.aload_n 0, 1) := by decide +kernel
theorem dX5_share_1 : decode cX5_share 1 = .ok (.getfield 10, 3) := by decide +kernel
theorem dX5_share_4 : decode cX5_share 4 = .ok (.iload_n 1, 1) := by decide +kernel
theorem dX5_share_5 : decode cX5_share 5 = .ok (.invokevirtual 87, 3) := by decide +kernel
theorem dX5_share_8 : decode cX5_share 8 = .ok (.ifCond .ne 6, 3) := by decide +kernel
theorem dX5_share_11 : decode cX5_share 11 = .ok (.bipush (-2), 2) := by decide +kernel
theorem dX5_share_13 : decode cX5_share 13 = .ok (.ireturn, 1) := by decide +kernel
theorem dX5_share_14 : decode cX5_share 14 = .ok (.iload_n 2, 1) := by decide +kernel
theorem dX5_share_15 : decode cX5_share 15 = .ok (.ifCond .lt 8, 3) := by decide +kernel
theorem dX5_share_18 : decode cX5_share 18 = .ok (.iload_n 2, 1) := by decide +kernel
theorem dX5_share_19 : decode cX5_share 19 = .ok (.iconst 1, 1) := by decide +kernel
theorem dX5_share_20 : decode cX5_share 20 = .ok (.if_icmp .le 6, 3) := by decide +kernel
theorem dX5_share_23 : decode cX5_share 23 = .ok (.bipush (-3), 2) := by decide +kernel
theorem dX5_share_25 : decode cX5_share 25 = .ok (.ireturn, 1) := by decide +kernel
theorem dX5_share_26 : decode cX5_share 26 = .ok (.aload_n 0, 1) := by decide +kernel
theorem dX5_share_27 : decode cX5_share 27 = .ok (.getfield 28, 3) := by decide +kernel
theorem dX5_share_30 : decode cX5_share 30 = .ok (.iload_n 1, 1) := by decide +kernel
theorem dX5_share_31 : decode cX5_share 31 = .ok (.invokevirtual 101, 3) := by decide +kernel
theorem dX5_share_34 : decode cX5_share 34 = .ok (.istore_n 3, 1) := by decide +kernel
theorem dX5_share_35 : decode cX5_share 35 = .ok (.iload_n 2, 1) := by decide +kernel
theorem dX5_share_36 : decode cX5_share 36 = .ok (.ifCond .ne 7, 3) := by decide +kernel
theorem dX5_share_39 : decode cX5_share 39 = .ok (.iload_n 3, 1) := by decide +kernel
theorem dX5_share_40 : decode cX5_share 40 = .ok (.goto 5, 3) := by decide +kernel
theorem dX5_share_43 : decode cX5_share 43 = .ok (.bipush 72, 2) := by decide +kernel
theorem dX5_share_45 : decode cX5_share 45 = .ok (.istore 4, 2) := by decide +kernel
theorem dX5_share_47 : decode cX5_share 47 = .ok (.iload_n 3, 1) := by decide +kernel
theorem dX5_share_48 : decode cX5_share 48 = .ok (.istore 5, 2) := by decide +kernel
theorem dX5_share_50 : decode cX5_share 50 = .ok (.iload 5, 2) := by decide +kernel
theorem dX5_share_52 : decode cX5_share 52 = .ok (.iconst 1, 1) := by decide +kernel
theorem dX5_share_53 : decode cX5_share 53 = .ok (.if_icmp .le 30, 3) := by decide +kernel
theorem dX5_share_56 : decode cX5_share 56 = .ok (.iload_n 3, 1) := by decide +kernel
theorem dX5_share_57 : decode cX5_share 57 = .ok (.iload 5, 2) := by decide +kernel
theorem dX5_share_59 : decode cX5_share 59 = .ok (.irem, 1) := by decide +kernel
theorem dX5_share_60 : decode cX5_share 60 = .ok (.ifCond .ne 17, 3) := by decide +kernel
theorem dX5_share_63 : decode cX5_share 63 = .ok (.bipush 72, 2) := by decide +kernel
theorem dX5_share_65 : decode cX5_share 65 = .ok (.iload 5, 2) := by decide +kernel
theorem dX5_share_67 : decode cX5_share 67 = .ok (.irem, 1) := by decide +kernel
theorem dX5_share_68 : decode cX5_share 68 = .ok (.ifCond .ne 9, 3) := by decide +kernel
theorem dX5_share_71 : decode cX5_share 71 = .ok (.iload 4, 2) := by decide +kernel
theorem dX5_share_73 : decode cX5_share 73 = .ok (.iload 5, 2) := by decide +kernel
theorem dX5_share_75 : decode cX5_share 75 = .ok (.idiv, 1) := by decide +kernel
theorem dX5_share_76 : decode cX5_share 76 = .ok (.ireturn, 1) := by decide +kernel
theorem dX5_share_77 : decode cX5_share 77 = .ok (.iinc 5 (-1), 3) := by decide +kernel
theorem dX5_share_80 : decode cX5_share 80 = .ok (.goto (-30), 3) := by decide +kernel
theorem dX5_share_83 : decode cX5_share 83 = .ok (.iload 4, 2) := by decide +kernel
theorem dX5_share_85 : decode cX5_share 85 = .ok (.ireturn, 1) := by decide +kernel
theorem dX5_errands_0 : decode cX5_errands 0 = .ok (.aload_n 0, 1) := by decide +kernel
theorem dX5_errands_1 : decode cX5_errands 1 = .ok (.getfield 10, 3) := by decide +kernel
theorem dX5_errands_4 : decode cX5_errands 4 = .ok (.iload_n 2, 1) := by decide +kernel
theorem dX5_errands_5 : decode cX5_errands 5 = .ok (.invokevirtual 87, 3) := by decide +kernel
theorem dX5_errands_8 : decode cX5_errands 8 = .ok (.ifCond .eq 15, 3) := by decide +kernel
theorem dX5_errands_11 : decode cX5_errands 11 = .ok (.iload_n 1, 1) := by decide +kernel
theorem dX5_errands_12 : decode cX5_errands 12 = .ok (.aload_n 0, 1) := by decide +kernel
theorem dX5_errands_13 : decode cX5_errands 13 = .ok (.getfield 10, 3) := by decide +kernel
theorem dX5_errands_16 : decode cX5_errands 16 = .ok (.getfield 152, 3) := by decide +kernel
theorem dX5_errands_19 : decode cX5_errands 19 = .ok (.iushr, 1) := by decide +kernel
theorem dX5_errands_20 : decode cX5_errands 20 = .ok (.ifCond .eq 6, 3) := by decide +kernel
theorem dX5_errands_23 : decode cX5_errands 23 = .ok (.bipush (-2), 2) := by decide +kernel
theorem dX5_errands_25 : decode cX5_errands 25 = .ok (.ireturn, 1) := by decide +kernel
theorem dX5_errands_26 : decode cX5_errands 26 = .ok (.iload_n 3, 1) := by decide +kernel
theorem dX5_errands_27 : decode cX5_errands 27 = .ok (.iconst (-1), 1) := by decide +kernel
theorem dX5_errands_28 : decode cX5_errands 28 = .ok (.if_icmp .ge 6, 3) := by decide +kernel
theorem dX5_errands_31 : decode cX5_errands 31 = .ok (.bipush (-3), 2) := by decide +kernel
theorem dX5_errands_33 : decode cX5_errands 33 = .ok (.ireturn, 1) := by decide +kernel
theorem dX5_errands_34 : decode cX5_errands 34 = .ok (.iload_n 1, 1) := by decide +kernel
theorem dX5_errands_35 : decode cX5_errands 35 = .ok (.invokestatic 140, 3) := by decide +kernel
theorem dX5_errands_38 : decode cX5_errands 38 = .ok (.istore 4, 2) := by decide +kernel
theorem dX5_errands_40 : decode cX5_errands 40 = .ok (.iload 4, 2) := by decide +kernel
theorem dX5_errands_42 : decode cX5_errands 42 = .ok (.iconst 5, 1) := by decide +kernel
theorem dX5_errands_43 : decode cX5_errands 43 = .ok (.if_icmp .le 6, 3) := by decide +kernel
theorem dX5_errands_46 : decode cX5_errands 46 = .ok (.bipush (-4), 2) := by decide +kernel
theorem dX5_errands_48 : decode cX5_errands 48 = .ok (.ireturn, 1) := by decide +kernel
theorem dX5_errands_49 : decode cX5_errands 49 = .ok (.aload_n 0, 1) := by decide +kernel
theorem dX5_errands_50 : decode cX5_errands 50 = .ok (.getfield 46, 3) := by decide +kernel
theorem dX5_errands_53 : decode cX5_errands 53 = .ok (.aload_n 0, 1) := by decide +kernel
theorem dX5_errands_54 : decode cX5_errands 54 = .ok (.getfield 28, 3) := by decide +kernel
theorem dX5_errands_57 : decode cX5_errands 57 = .ok (.iload_n 2, 1) := by decide +kernel
theorem dX5_errands_58 : decode cX5_errands 58 = .ok (.invokevirtual 158, 3) := by decide +kernel
theorem dX5_errands_61 : decode cX5_errands 61 = .ok (.aload_n 0, 1) := by decide +kernel
theorem dX5_errands_62 : decode cX5_errands 62 = .ok (.getfield 46, 3) := by decide +kernel
theorem dX5_errands_65 : decode cX5_errands 65 = .ok (.iconst 0, 1) := by decide +kernel
theorem dX5_errands_66 : decode cX5_errands 66 = .ok (.iload_n 1, 1) := by decide +kernel
theorem dX5_errands_67 : decode cX5_errands 67 = .ok (.iconst 0, 1) := by decide +kernel
theorem dX5_errands_68 : decode cX5_errands 68 = .ok (.invokevirtual 161, 3) := by decide +kernel
theorem dX5_errands_71 : decode cX5_errands 71 = .ok (.aload_n 0, 1) := by decide +kernel
theorem dX5_errands_72 : decode cX5_errands 72 = .ok (.getfield 46, 3) := by decide +kernel
theorem dX5_errands_75 : decode cX5_errands 75 = .ok (.getfield 165, 3) := by decide +kernel
theorem dX5_errands_78 : decode cX5_errands 78 = .ok (.sipush 360, 3) := by decide +kernel
theorem dX5_errands_81 : decode cX5_errands 81 = .ok (.if_icmp .le 5, 3) := by decide +kernel
theorem dX5_errands_84 : decode cX5_errands 84 = .ok (.iconst (-1), 1) := by decide +kernel
theorem dX5_errands_85 : decode cX5_errands 85 = .ok (.ireturn, 1) := by decide +kernel
theorem dX5_errands_86 : decode cX5_errands 86 = .ok (.iload_n 3, 1) := by decide +kernel
theorem dX5_errands_87 : decode cX5_errands 87 = .ok (.iconst (-1), 1) := by decide +kernel
theorem dX5_errands_88 : decode cX5_errands 88 = .ok (.if_icmp .ne 11, 3) := by decide +kernel
theorem dX5_errands_91 : decode cX5_errands 91 = .ok (.aload_n 0, 1) := by decide +kernel
theorem dX5_errands_92 : decode cX5_errands 92 = .ok (.getfield 46, 3) := by decide +kernel
theorem dX5_errands_95 : decode cX5_errands 95 = .ok (.getfield 165, 3) := by decide +kernel
theorem dX5_errands_98 : decode cX5_errands 98 = .ok (.ireturn, 1) := by decide +kernel
theorem dX5_errands_99 : decode cX5_errands 99 = .ok (.iload_n 3, 1) := by decide +kernel
theorem dX5_errands_100 : decode cX5_errands 100 = .ok (.iload 4, 2) := by decide +kernel
theorem dX5_errands_102 : decode cX5_errands 102 = .ok (.if_icmp .ge 15, 3) := by decide +kernel
theorem dX5_errands_105 : decode cX5_errands 105 = .ok (.aload_n 0, 1) := by decide +kernel
theorem dX5_errands_106 : decode cX5_errands 106 = .ok (.getfield 46, 3) := by decide +kernel
theorem dX5_errands_109 : decode cX5_errands 109 = .ok (.getfield 168, 3) := by decide +kernel
theorem dX5_errands_112 : decode cX5_errands 112 = .ok (.iload_n 3, 1) := by decide +kernel
theorem dX5_errands_113 : decode cX5_errands 113 = .ok (.iaload, 1) := by decide +kernel
theorem dX5_errands_114 : decode cX5_errands 114 = .ok (.goto 4, 3) := by decide +kernel
theorem dX5_errands_117 : decode cX5_errands 117 = .ok (.iconst (-1), 1) := by decide +kernel
theorem dX5_errands_118 : decode cX5_errands 118 = .ok (.ireturn, 1) := by decide +kernel
theorem dX5_slam_0 : decode cX5_slam 0 = .ok (.aload_n 0, 1) := by decide +kernel
theorem dX5_slam_1 : decode cX5_slam 1 = .ok (.getfield 10, 3) := by decide +kernel
theorem dX5_slam_4 : decode cX5_slam 4 = .ok (.iload_n 1, 1) := by decide +kernel
theorem dX5_slam_5 : decode cX5_slam 5 = .ok (.invokevirtual 87, 3) := by decide +kernel
theorem dX5_slam_8 : decode cX5_slam 8 = .ok (.ifCond .ne 6, 3) := by decide +kernel
theorem dX5_slam_11 : decode cX5_slam 11 = .ok (.bipush (-2), 2) := by decide +kernel
theorem dX5_slam_13 : decode cX5_slam 13 = .ok (.ireturn, 1) := by decide +kernel
theorem dX5_slam_14 : decode cX5_slam 14 = .ok (.iload_n 2, 1) := by decide +kernel
theorem dX5_slam_15 : decode cX5_slam 15 = .ok (.invokestatic 128, 3) := by decide +kernel
theorem dX5_slam_18 : decode cX5_slam 18 = .ok (.ifCond .eq 12, 3) := by decide +kernel
theorem dX5_slam_21 : decode cX5_slam 21 = .ok (.iload_n 3, 1) := by decide +kernel
theorem dX5_slam_22 : decode cX5_slam 22 = .ok (.ifCond .lt 8, 3) := by decide +kernel
theorem dX5_slam_25 : decode cX5_slam 25 = .ok (.iload_n 3, 1) := by decide +kernel
theorem dX5_slam_26 : decode cX5_slam 26 = .ok (.iconst 1, 1) := by decide +kernel
theorem dX5_slam_27 : decode cX5_slam 27 = .ok (.if_icmp .le 6, 3) := by decide +kernel
theorem dX5_slam_30 : decode cX5_slam 30 = .ok (.bipush (-3), 2) := by decide +kernel
theorem dX5_slam_32 : decode cX5_slam 32 = .ok (.ireturn, 1) := by decide +kernel
theorem dX5_slam_33 : decode cX5_slam 33 = .ok (.aload_n 0, 1) := by decide +kernel
theorem dX5_slam_34 : decode cX5_slam 34 = .ok (.getfield 10, 3) := by decide +kernel
theorem dX5_slam_37 : decode cX5_slam 37 = .ok (.getfield 91, 3) := by decide +kernel
theorem dX5_slam_40 : decode cX5_slam 40 = .ok (.iload_n 1, 1) := by decide +kernel
theorem dX5_slam_41 : decode cX5_slam 41 = .ok (.iaload, 1) := by decide +kernel
theorem dX5_slam_42 : decode cX5_slam 42 = .ok (.iconst 3, 1) := by decide +kernel
theorem dX5_slam_43 : decode cX5_slam 43 = .ok (.if_icmp .ne 6, 3) := by decide +kernel
theorem dX5_slam_46 : decode cX5_slam 46 = .ok (.bipush (-4), 2) := by decide +kernel
theorem dX5_slam_48 : decode cX5_slam 48 = .ok (.ireturn, 1) := by decide +kernel
theorem dX5_slam_49 : decode cX5_slam 49 = .ok (.iload_n 3, 1) := by decide +kernel
theorem dX5_slam_50 : decode cX5_slam 50 = .ok (.ifCond .ne 22, 3) := by decide +kernel
theorem dX5_slam_53 : decode cX5_slam 53 = .ok (.aload_n 0, 1) := by decide +kernel
theorem dX5_slam_54 : decode cX5_slam 54 = .ok (.getfield 28, 3) := by decide +kernel
theorem dX5_slam_57 : decode cX5_slam 57 = .ok (.aload_n 0, 1) := by decide +kernel
theorem dX5_slam_58 : decode cX5_slam 58 = .ok (.getfield 10, 3) := by decide +kernel
theorem dX5_slam_61 : decode cX5_slam 61 = .ok (.iload_n 1, 1) := by decide +kernel
theorem dX5_slam_62 : decode cX5_slam 62 = .ok (.iload_n 2, 1) := by decide +kernel
theorem dX5_slam_63 : decode cX5_slam 63 = .ok (.invokevirtual 171, 3) := by decide +kernel
theorem dX5_slam_66 : decode cX5_slam 66 = .ok (.invokevirtual 174, 3) := by decide +kernel
theorem dX5_slam_69 : decode cX5_slam 69 = .ok (.goto 12, 3) := by decide +kernel
theorem dX5_slam_72 : decode cX5_slam 72 = .ok (.aload_n 0, 1) := by decide +kernel
theorem dX5_slam_73 : decode cX5_slam 73 = .ok (.getfield 10, 3) := by decide +kernel
theorem dX5_slam_76 : decode cX5_slam 76 = .ok (.iload_n 1, 1) := by decide +kernel
theorem dX5_slam_77 : decode cX5_slam 77 = .ok (.iload_n 2, 1) := by decide +kernel
theorem dX5_slam_78 : decode cX5_slam 78 = .ok (.invokevirtual 177, 3) := by decide +kernel
theorem dX5_slam_81 : decode cX5_slam 81 = .ok (.ireturn, 1) := by decide +kernel
theorem dX5_fire_0 : decode cX5_fire 0 = .ok (.aload_n 0, 1) := by decide +kernel
theorem dX5_fire_1 : decode cX5_fire 1 = .ok (.getfield 10, 3) := by decide +kernel
theorem dX5_fire_4 : decode cX5_fire 4 = .ok (.iload_n 1, 1) := by decide +kernel
theorem dX5_fire_5 : decode cX5_fire 5 = .ok (.invokevirtual 87, 3) := by decide +kernel
theorem dX5_fire_8 : decode cX5_fire 8 = .ok (.ifCond .ne 6, 3) := by decide +kernel
theorem dX5_fire_11 : decode cX5_fire 11 = .ok (.bipush (-2), 2) := by decide +kernel
theorem dX5_fire_13 : decode cX5_fire 13 = .ok (.ireturn, 1) := by decide +kernel
theorem dX5_fire_14 : decode cX5_fire 14 = .ok (.iload_n 2, 1) := by decide +kernel
theorem dX5_fire_15 : decode cX5_fire 15 = .ok (.invokestatic 128, 3) := by decide +kernel
theorem dX5_fire_18 : decode cX5_fire 18 = .ok (.ifCond .ne 6, 3) := by decide +kernel
theorem dX5_fire_21 : decode cX5_fire 21 = .ok (.bipush (-3), 2) := by decide +kernel
theorem dX5_fire_23 : decode cX5_fire 23 = .ok (.ireturn, 1) := by decide +kernel
theorem dX5_fire_24 : decode cX5_fire 24 = .ok (.aload_n 0, 1) := by decide +kernel
theorem dX5_fire_25 : decode cX5_fire 25 = .ok (.getfield 32, 3) := by decide +kernel
theorem dX5_fire_28 : decode cX5_fire 28 = .ok (.aload_n 0, 1) := by decide +kernel
theorem dX5_fire_29 : decode cX5_fire 29 = .ok (.getfield 28, 3) := by decide +kernel
theorem dX5_fire_32 : decode cX5_fire 32 = .ok (.invokevirtual 145, 3) := by decide +kernel
theorem dX5_fire_35 : decode cX5_fire 35 = .ok (.iconst 0, 1) := by decide +kernel
theorem dX5_fire_36 : decode cX5_fire 36 = .ok (.istore_n 3, 1) := by decide +kernel
theorem dX5_fire_37 : decode cX5_fire 37 = .ok (.iload_n 3, 1) := by decide +kernel
theorem dX5_fire_38 : decode cX5_fire 38 = .ok (.sipush 200, 3) := by decide +kernel
theorem dX5_fire_41 : decode cX5_fire 41 = .ok (.if_icmp .gt 38, 3) := by decide +kernel
theorem dX5_fire_44 : decode cX5_fire 44 = .ok (.aload_n 0, 1) := by decide +kernel
theorem dX5_fire_45 : decode cX5_fire 45 = .ok (.getfield 32, 3) := by decide +kernel
theorem dX5_fire_48 : decode cX5_fire 48 = .ok (.invokevirtual 180, 3) := by decide +kernel
theorem dX5_fire_51 : decode cX5_fire 51 = .ok (.ifCond .eq 5, 3) := by decide +kernel
theorem dX5_fire_54 : decode cX5_fire 54 = .ok (.iload_n 3, 1) := by decide +kernel
theorem dX5_fire_55 : decode cX5_fire 55 = .ok (.ireturn, 1) := by decide +kernel
theorem dX5_fire_56 : decode cX5_fire 56 = .ok (.aload_n 0, 1) := by decide +kernel
theorem dX5_fire_57 : decode cX5_fire 57 = .ok (.getfield 32, 3) := by decide +kernel
theorem dX5_fire_60 : decode cX5_fire 60 = .ok (.invokevirtual 184, 3) := by decide +kernel
theorem dX5_fire_63 : decode cX5_fire 63 = .ok (.aload_n 0, 1) := by decide +kernel
theorem dX5_fire_64 : decode cX5_fire 64 = .ok (.getfield 32, 3) := by decide +kernel
theorem dX5_fire_67 : decode cX5_fire 67 = .ok (.iload_n 1, 1) := by decide +kernel
theorem dX5_fire_68 : decode cX5_fire 68 = .ok (.iload_n 2, 1) := by decide +kernel
theorem dX5_fire_69 : decode cX5_fire 69 = .ok (.invokevirtual 131, 3) := by decide +kernel
theorem dX5_fire_72 : decode cX5_fire 72 = .ok (.pop, 1) := by decide +kernel
theorem dX5_fire_73 : decode cX5_fire 73 = .ok (.iinc 3 1, 3) := by decide +kernel
theorem dX5_fire_76 : decode cX5_fire 76 = .ok (.goto (-39), 3) := by decide +kernel
theorem dX5_fire_79 : decode cX5_fire 79 = .ok (.iconst (-1), 1) := by decide +kernel
theorem dX5_fire_80 : decode cX5_fire 80 = .ok (.ireturn, 1) := by decide +kernel
theorem dX5_seen_0 : decode cX5_seen 0 = .ok (.aload_n 0, 1) := by decide +kernel
theorem dX5_seen_1 : decode cX5_seen 1 = .ok (.getfield 10, 3) := by decide +kernel
theorem dX5_seen_4 : decode cX5_seen 4 = .ok (.iload_n 1, 1) := by decide +kernel
theorem dX5_seen_5 : decode cX5_seen 5 = .ok (.invokevirtual 87, 3) := by decide +kernel
theorem dX5_seen_8 : decode cX5_seen 8 = .ok (.ifCond .ne 6, 3) := by decide +kernel
theorem dX5_seen_11 : decode cX5_seen 11 = .ok (.bipush (-2), 2) := by decide +kernel
theorem dX5_seen_13 : decode cX5_seen 13 = .ok (.ireturn, 1) := by decide +kernel
theorem dX5_seen_14 : decode cX5_seen 14 = .ok (.iload_n 2, 1) := by decide +kernel
theorem dX5_seen_15 : decode cX5_seen 15 = .ok (.ifCond .lt 9, 3) := by decide +kernel
theorem dX5_seen_18 : decode cX5_seen 18 = .ok (.iload_n 2, 1) := by decide +kernel
theorem dX5_seen_19 : decode cX5_seen 19 = .ok (.bipush 72, 2) := by decide +kernel
theorem dX5_seen_21 : decode cX5_seen 21 = .ok (.if_icmp .lt 6, 3) := by decide +kernel
theorem dX5_seen_24 : decode cX5_seen 24 = .ok (.bipush (-3), 2) := by decide +kernel
theorem dX5_seen_26 : decode cX5_seen 26 = .ok (.ireturn, 1) := by decide +kernel
theorem dX5_seen_27 : decode cX5_seen 27 = .ok (.aload_n 0, 1) := by decide +kernel
theorem dX5_seen_28 : decode cX5_seen 28 = .ok (.getfield 53, 3) := by decide +kernel
theorem dX5_seen_31 : decode cX5_seen 31 = .ok (.getfield 81, 3) := by decide +kernel
theorem dX5_seen_34 : decode cX5_seen 34 = .ok (.bipush 8, 2) := by decide +kernel
theorem dX5_seen_36 : decode cX5_seen 36 = .ok (.if_icmp .lt 6, 3) := by decide +kernel
theorem dX5_seen_39 : decode cX5_seen 39 = .ok (.bipush (-5), 2) := by decide +kernel
theorem dX5_seen_41 : decode cX5_seen 41 = .ok (.ireturn, 1) := by decide +kernel
theorem dX5_seen_42 : decode cX5_seen 42 = .ok (.aload_n 0, 1) := by decide +kernel
theorem dX5_seen_43 : decode cX5_seen 43 = .ok (.getfield 53, 3) := by decide +kernel
theorem dX5_seen_46 : decode cX5_seen 46 = .ok (.getfield 187, 3) := by decide +kernel
theorem dX5_seen_49 : decode cX5_seen 49 = .ok (.aload_n 0, 1) := by decide +kernel
theorem dX5_seen_50 : decode cX5_seen 50 = .ok (.getfield 53, 3) := by decide +kernel
theorem dX5_seen_53 : decode cX5_seen 53 = .ok (.getfield 81, 3) := by decide +kernel
theorem dX5_seen_56 : decode cX5_seen 56 = .ok (.iload_n 1, 1) := by decide +kernel
theorem dX5_seen_57 : decode cX5_seen 57 = .ok (.iastore, 1) := by decide +kernel
theorem dX5_seen_58 : decode cX5_seen 58 = .ok (.aload_n 0, 1) := by decide +kernel
theorem dX5_seen_59 : decode cX5_seen 59 = .ok (.getfield 53, 3) := by decide +kernel
theorem dX5_seen_62 : decode cX5_seen 62 = .ok (.getfield 190, 3) := by decide +kernel
theorem dX5_seen_65 : decode cX5_seen 65 = .ok (.aload_n 0, 1) := by decide +kernel
theorem dX5_seen_66 : decode cX5_seen 66 = .ok (.getfield 53, 3) := by decide +kernel
theorem dX5_seen_69 : decode cX5_seen 69 = .ok (.getfield 81, 3) := by decide +kernel
theorem dX5_seen_72 : decode cX5_seen 72 = .ok (.iload_n 2, 1) := by decide +kernel
theorem dX5_seen_73 : decode cX5_seen 73 = .ok (.iastore, 1) := by decide +kernel
theorem dX5_seen_74 : decode cX5_seen 74 = .ok (.aload_n 0, 1) := by decide +kernel
theorem dX5_seen_75 : decode cX5_seen 75 = .ok (.getfield 53, 3) := by decide +kernel
theorem dX5_seen_78 : decode cX5_seen 78 = .ok (.dup, 1) := by decide +kernel
theorem dX5_seen_79 : decode cX5_seen 79 = .ok (.getfield 81, 3) := by decide +kernel
theorem dX5_seen_82 : decode cX5_seen 82 = .ok (.iconst 1, 1) := by decide +kernel
theorem dX5_seen_83 : decode cX5_seen 83 = .ok (.iadd, 1) := by decide +kernel
theorem dX5_seen_84 : decode cX5_seen 84 = .ok (.putfield 81, 3) := by decide +kernel
theorem dX5_seen_87 : decode cX5_seen 87 = .ok (.aload_n 0, 1) := by decide +kernel
theorem dX5_seen_88 : decode cX5_seen 88 = .ok (.getfield 53, 3) := by decide +kernel
theorem dX5_seen_91 : decode cX5_seen 91 = .ok (.getfield 81, 3) := by decide +kernel
theorem dX5_seen_94 : decode cX5_seen 94 = .ok (.ireturn, 1) := by decide +kernel
theorem dX5_forget_0 : decode cX5_forget 0 = .ok (.aload_n 0, 1) := by decide +kernel
theorem dX5_forget_1 : decode cX5_forget 1 = .ok (.getfield 53, 3) := by decide +kernel
theorem dX5_forget_4 : decode cX5_forget 4 = .ok (.getfield 81, 3) := by decide +kernel
theorem dX5_forget_7 : decode cX5_forget 7 = .ok (.istore_n 1, 1) := by decide +kernel
theorem dX5_forget_8 : decode cX5_forget 8 = .ok (.aload_n 0, 1) := by decide +kernel
theorem dX5_forget_9 : decode cX5_forget 9 = .ok (.getfield 53, 3) := by decide +kernel
theorem dX5_forget_12 : decode cX5_forget 12 = .ok (.iconst 0, 1) := by decide +kernel
theorem dX5_forget_13 : decode cX5_forget 13 = .ok (.putfield 81, 3) := by decide +kernel
theorem dX5_forget_16 : decode cX5_forget 16 = .ok (.iload_n 1, 1) := by decide +kernel
theorem dX5_forget_17 : decode cX5_forget 17 = .ok (.ireturn, 1) := by decide +kernel
theorem dX5_least_0 : decode cX5_least 0 = .ok (.aload_n 0, 1) := by decide +kernel
theorem dX5_least_1 : decode cX5_least 1 = .ok (.getfield 10, 3) := by decide +kernel
theorem dX5_least_4 : decode cX5_least 4 = .ok (.iload_n 1, 1) := by decide +kernel
theorem dX5_least_5 : decode cX5_least 5 = .ok (.invokevirtual 87, 3) := by decide +kernel
theorem dX5_least_8 : decode cX5_least 8 = .ok (.ifCond .eq 32, 3) := by decide +kernel
theorem dX5_least_11 : decode cX5_least 11 = .ok (.aload_n 0, 1) := by decide +kernel
theorem dX5_least_12 : decode cX5_least 12 = .ok (.getfield 53, 3) := by decide +kernel
theorem dX5_least_15 : decode cX5_least 15 = .ok (.iload_n 1, 1) := by decide +kernel
theorem dX5_least_16 : decode cX5_least 16 = .ok (.aload_n 0, 1) := by decide +kernel
theorem dX5_least_17 : decode cX5_least 17 = .ok (.getfield 10, 3) := by decide +kernel
theorem dX5_least_20 : decode cX5_least 20 = .ok (.getfield 98, 3) := by decide +kernel
theorem dX5_least_23 : decode cX5_least 23 = .ok (.iload_n 1, 1) := by decide +kernel
theorem dX5_least_24 : decode cX5_least 24 = .ok (.iaload, 1) := by decide +kernel
theorem dX5_least_25 : decode cX5_least 25 = .ok (.aload_n 0, 1) := by decide +kernel
theorem dX5_least_26 : decode cX5_least 26 = .ok (.getfield 28, 3) := by decide +kernel
theorem dX5_least_29 : decode cX5_least 29 = .ok (.getfield 95, 3) := by decide +kernel
theorem dX5_least_32 : decode cX5_least 32 = .ok (.iload_n 1, 1) := by decide +kernel
theorem dX5_least_33 : decode cX5_least 33 = .ok (.iaload, 1) := by decide +kernel
theorem dX5_least_34 : decode cX5_least 34 = .ok (.invokevirtual 193, 3) := by decide +kernel
theorem dX5_least_37 : decode cX5_least 37 = .ok (.goto 5, 3) := by decide +kernel
theorem dX5_least_40 : decode cX5_least 40 = .ok (.bipush (-2), 2) := by decide +kernel
theorem dX5_least_42 : decode cX5_least 42 = .ok (.ireturn, 1) := by decide +kernel
theorem dX5_count_0 : decode cX5_count 0 = .ok (.iload_n 1, 1) := by decide +kernel
theorem dX5_count_1 : decode cX5_count 1 = .ok (.tableswitch 112 0 7 #[47, 55, 63, 71, 79, 87, 96, 104], 47) := by decide +kernel
theorem dX5_count_48 : decode cX5_count 48 = .ok (.aload_n 0, 1) := by decide +kernel
theorem dX5_count_49 : decode cX5_count 49 = .ok (.getfield 10, 3) := by decide +kernel
theorem dX5_count_52 : decode cX5_count 52 = .ok (.getfield 152, 3) := by decide +kernel
theorem dX5_count_55 : decode cX5_count 55 = .ok (.ireturn, 1) := by decide +kernel
theorem dX5_count_56 : decode cX5_count 56 = .ok (.aload_n 0, 1) := by decide +kernel
theorem dX5_count_57 : decode cX5_count 57 = .ok (.getfield 10, 3) := by decide +kernel
theorem dX5_count_60 : decode cX5_count 60 = .ok (.getfield 197, 3) := by decide +kernel
theorem dX5_count_63 : decode cX5_count 63 = .ok (.ireturn, 1) := by decide +kernel
theorem dX5_count_64 : decode cX5_count 64 = .ok (.aload_n 0, 1) := by decide +kernel
theorem dX5_count_65 : decode cX5_count 65 = .ok (.getfield 10, 3) := by decide +kernel
theorem dX5_count_68 : decode cX5_count 68 = .ok (.getfield 200, 3) := by decide +kernel
theorem dX5_count_71 : decode cX5_count 71 = .ok (.ireturn, 1) := by decide +kernel
theorem dX5_count_72 : decode cX5_count 72 = .ok (.aload_n 0, 1) := by decide +kernel
theorem dX5_count_73 : decode cX5_count 73 = .ok (.getfield 28, 3) := by decide +kernel
theorem dX5_count_76 : decode cX5_count 76 = .ok (.getfield 134, 3) := by decide +kernel
theorem dX5_count_79 : decode cX5_count 79 = .ok (.ireturn, 1) := by decide +kernel
theorem dX5_count_80 : decode cX5_count 80 = .ok (.aload_n 0, 1) := by decide +kernel
theorem dX5_count_81 : decode cX5_count 81 = .ok (.getfield 28, 3) := by decide +kernel
theorem dX5_count_84 : decode cX5_count 84 = .ok (.invokevirtual 203, 3) := by decide +kernel
theorem dX5_count_87 : decode cX5_count 87 = .ok (.ireturn, 1) := by decide +kernel
theorem dX5_count_88 : decode cX5_count 88 = .ok (.aload_n 0, 1) := by decide +kernel
theorem dX5_count_89 : decode cX5_count 89 = .ok (.getfield 28, 3) := by decide +kernel
theorem dX5_count_92 : decode cX5_count 92 = .ok (.iconst (-1), 1) := by decide +kernel
theorem dX5_count_93 : decode cX5_count 93 = .ok (.invokevirtual 111, 3) := by decide +kernel
theorem dX5_count_96 : decode cX5_count 96 = .ok (.ireturn, 1) := by decide +kernel
theorem dX5_count_97 : decode cX5_count 97 = .ok (.aload_n 0, 1) := by decide +kernel
theorem dX5_count_98 : decode cX5_count 98 = .ok (.getfield 53, 3) := by decide +kernel
theorem dX5_count_101 : decode cX5_count 101 = .ok (.getfield 81, 3) := by decide +kernel
theorem dX5_count_104 : decode cX5_count 104 = .ok (.ireturn, 1) := by decide +kernel
theorem dX5_count_105 : decode cX5_count 105 = .ok (.aload_n 0, 1) := by decide +kernel
theorem dX5_count_106 : decode cX5_count 106 = .ok (.getfield 19, 3) := by decide +kernel
theorem dX5_count_109 : decode cX5_count 109 = .ok (.getfield 63, 3) := by decide +kernel
theorem dX5_count_112 : decode cX5_count 112 = .ok (.ireturn, 1) := by decide +kernel
theorem dX5_count_113 : decode cX5_count 113 = .ok (.bipush (-3), 2) := by decide +kernel
theorem dX5_count_115 : decode cX5_count 115 = .ok (.ireturn, 1) := by decide +kernel
theorem dX5_isPerson_0 : decode cX5_isPerson 0 = .ok (.iload_n 1, 1) := by decide +kernel
theorem dX5_isPerson_1 : decode cX5_isPerson 1 = .ok (.ifCond .lt 18, 3) := by decide +kernel
theorem dX5_isPerson_4 : decode cX5_isPerson 4 = .ok (.iload_n 1, 1) := by decide +kernel
theorem dX5_isPerson_5 : decode cX5_isPerson 5 = .ok (.aload_n 0, 1) := by decide +kernel
theorem dX5_isPerson_6 : decode cX5_isPerson 6 = .ok (.getfield 10, 3) := by decide +kernel
theorem dX5_isPerson_9 : decode cX5_isPerson 9 = .ok (.getfield 200, 3) := by decide +kernel
theorem dX5_isPerson_12 : decode cX5_isPerson 12 = .ok (.if_icmp .ge 7, 3) := by decide +kernel
theorem dX5_isPerson_15 : decode cX5_isPerson 15 = .ok (.iconst 1, 1) := by decide +kernel
theorem dX5_isPerson_16 : decode cX5_isPerson 16 = .ok (.goto 4, 3) := by decide +kernel
theorem dX5_isPerson_19 : decode cX5_isPerson 19 = .ok (.iconst 0, 1) := by decide +kernel
theorem dX5_isPerson_20 : decode cX5_isPerson 20 = .ok (.ireturn, 1) := by decide +kernel
theorem dX5_isSide_0 : decode cX5_isSide 0 = .ok (.iload_n 0, 1) := by decide +kernel
theorem dX5_isSide_1 : decode cX5_isSide 1 = .ok (.ifCond .eq 8, 3) := by decide +kernel
theorem dX5_isSide_4 : decode cX5_isSide 4 = .ok (.iload_n 0, 1) := by decide +kernel
theorem dX5_isSide_5 : decode cX5_isSide 5 = .ok (.iconst 1, 1) := by decide +kernel
theorem dX5_isSide_6 : decode cX5_isSide 6 = .ok (.if_icmp .ne 7, 3) := by decide +kernel
theorem dX5_isSide_9 : decode cX5_isSide 9 = .ok (.iconst 1, 1) := by decide +kernel
theorem dX5_isSide_10 : decode cX5_isSide 10 = .ok (.goto 4, 3) := by decide +kernel
theorem dX5_isSide_13 : decode cX5_isSide 13 = .ok (.iconst 0, 1) := by decide +kernel
theorem dX5_isSide_14 : decode cX5_isSide 14 = .ok (.ireturn, 1) := by decide +kernel
theorem dX5_between_0 : decode cX5_between 0 = .ok (.iload_n 1, 1) := by decide +kernel
theorem dX5_between_1 : decode cX5_between 1 = .ok (.iload_n 0, 1) := by decide +kernel
theorem dX5_between_2 : decode cX5_between 2 = .ok (.if_icmp .lt 9, 3) := by decide +kernel
theorem dX5_between_5 : decode cX5_between 5 = .ok (.iload_n 1, 1) := by decide +kernel
theorem dX5_between_6 : decode cX5_between 6 = .ok (.iload_n 0, 1) := by decide +kernel
theorem dX5_between_7 : decode cX5_between 7 = .ok (.isub, 1) := by decide +kernel
theorem dX5_between_8 : decode cX5_between 8 = .ok (.goto 9, 3) := by decide +kernel
theorem dX5_between_11 : decode cX5_between 11 = .ok (.iload_n 1, 1) := by decide +kernel
theorem dX5_between_12 : decode cX5_between 12 = .ok (.iload_n 0, 1) := by decide +kernel
theorem dX5_between_13 : decode cX5_between 13 = .ok (.isub, 1) := by decide +kernel
theorem dX5_between_14 : decode cX5_between 14 = .ok (.bipush 72, 2) := by decide +kernel
theorem dX5_between_16 : decode cX5_between 16 = .ok (.iadd, 1) := by decide +kernel
theorem dX5_between_17 : decode cX5_between 17 = .ok (.ireturn, 1) := by decide +kernel
