theorem dX6_init_0 : decode cX6_init 0 = .ok (.aload_n 0, 1) := by decide +kernel
theorem dX6_init_1 : decode cX6_init 1 = .ok (.invokespecial 1, 3) := by decide +kernel
theorem dX6_init_4 : decode cX6_init 4 = .ok (.aload_n 0, 1) := by decide +kernel
theorem dX6_init_5 : decode cX6_init 5 = .ok (.bipush 70, 2) := by decide +kernel
theorem dX6_init_7 : decode cX6_init 7 = .ok (.newarray .int, 2) := by decide +kernel
theorem dX6_init_9 : decode cX6_init 9 = .ok (.putfield 7, 3) := by decide +kernel
theorem dX6_init_12 : decode cX6_init 12 = .ok (.aload_n 0, 1) := by decide +kernel
theorem dX6_init_13 : decode cX6_init 13 = .ok (.iconst 2, 1) := by decide +kernel
theorem dX6_init_14 : decode cX6_init 14 = .ok (.newarray .boolean, 2) := by decide +kernel
theorem dX6_init_16 : decode cX6_init 16 = .ok (.putfield 13, 3) := by decide +kernel
theorem dX6_init_19 : decode cX6_init 19 = .ok (.aload_n 0, 1) := by decide +kernel
theorem dX6_init_20 : decode cX6_init 20 = .ok (.sipush 200, 3) := by decide +kernel
theorem dX6_init_23 : decode cX6_init 23 = .ok (.newarray .int, 2) := by decide +kernel
theorem dX6_init_25 : decode cX6_init 25 = .ok (.putfield 17, 3) := by decide +kernel
theorem dX6_init_28 : decode cX6_init 28 = .ok (.aload_n 0, 1) := by decide +kernel
theorem dX6_init_29 : decode cX6_init 29 = .ok (.bipush 36, 2) := by decide +kernel
theorem dX6_init_31 : decode cX6_init 31 = .ok (.newarray .int, 2) := by decide +kernel
theorem dX6_init_33 : decode cX6_init 33 = .ok (.putfield 20, 3) := by decide +kernel
theorem dX6_init_36 : decode cX6_init 36 = .ok (.aload_n 0, 1) := by decide +kernel
theorem dX6_init_37 : decode cX6_init 37 = .ok (.iconst 4, 1) := by decide +kernel
theorem dX6_init_38 : decode cX6_init 38 = .ok (.putfield 23, 3) := by decide +kernel
theorem dX6_init_41 : decode cX6_init 41 = .ok (.aload_n 0, 1) := by decide +kernel
theorem dX6_init_42 : decode cX6_init 42 = .ok (.bipush 8, 2) := by decide +kernel
theorem dX6_init_44 : decode cX6_init 44 = .ok (.newarray .int, 2) := by decide +kernel
theorem dX6_init_46 : decode cX6_init 46 = .ok (.putfield 27, 3) := by decide +kernel
theorem dX6_init_49 : decode cX6_init 49 = .ok (.aload_n 0, 1) := by decide +kernel
theorem dX6_init_50 : decode cX6_init 50 = .ok (.bipush 8, 2) := by decide +kernel
theorem dX6_init_52 : decode cX6_init 52 = .ok (.newarray .int, 2) := by decide +kernel
theorem dX6_init_54 : decode cX6_init 54 = .ok (.putfield 30, 3) := by decide +kernel
theorem dX6_init_57 : decode cX6_init 57 = .ok (.aload_n 0, 1) := by decide +kernel
theorem dX6_init_58 : decode cX6_init 58 = .ok (.iconst 3, 1) := by decide +kernel
theorem dX6_init_59 : decode cX6_init 59 = .ok (.newarray .int, 2) := by decide +kernel
theorem dX6_init_61 : decode cX6_init 61 = .ok (.putfield 33, 3) := by decide +kernel
theorem dX6_init_64 : decode cX6_init 64 = .ok (.aload_n 0, 1) := by decide +kernel
theorem dX6_init_65 : decode cX6_init 65 = .ok (.bipush 8, 2) := by decide +kernel
theorem dX6_init_67 : decode cX6_init 67 = .ok (.newarray .int, 2) := by decide +kernel
theorem dX6_init_69 : decode cX6_init 69 = .ok (.putfield 36, 3) := by decide +kernel
theorem dX6_init_72 : decode cX6_init 72 = .ok (.aload_n 0, 1) := by decide +kernel
theorem dX6_init_73 : decode cX6_init 73 = .ok (.bipush 8, 2) := by decide +kernel
theorem dX6_init_75 : decode cX6_init 75 = .ok (.newarray .int, 2) := by decide +kernel
theorem dX6_init_77 : decode cX6_init 77 = .ok (.putfield 39, 3) := by decide +kernel
theorem dX6_init_80 : decode cX6_init 80 = .ok (.aload_n 0, 1) := by decide +kernel
theorem dX6_init_81 : decode cX6_init 81 = .ok (.iconst 3, 1) := by decide +kernel
theorem dX6_init_82 : decode cX6_init 82 = .ok (.newarray .int, 2) := by decide +kernel
theorem dX6_init_84 : decode cX6_init 84 = .ok (.putfield 42, 3) := by decide +kernel
theorem dX6_init_87 : decode cX6_init 87 = .ok (.aload_n 0, 1) := by decide +kernel
theorem dX6_init_88 : decode cX6_init 88 = .ok (.iconst 5, 1) := by decide +kernel
theorem dX6_init_89 : decode cX6_init 89 = .ok (.newarray .int, 2) := by decide +kernel
theorem dX6_init_91 : decode cX6_init 91 = .ok (.putfield 45, 3) := by decide +kernel
theorem dX6_init_94 : decode cX6_init 94 = .ok (.aload_n 0, 1) := by decide +kernel
theorem dX6_init_95 : decode cX6_init 95 = .ok (.bipush 8, 2) := by decide +kernel
theorem dX6_init_97 : decode cX6_init 97 = .ok (.newarray .int, 2) := by decide +kernel
theorem dX6_init_99 : decode cX6_init 99 = .ok (.putfield 48, 3) := by decide +kernel
theorem dX6_init_102 : decode cX6_init 102 = .ok (.aload_n 0, 1) := by decide +kernel
theorem dX6_init_103 : decode cX6_init 103 = .ok (.bipush 16, 2) := by decide +kernel
theorem dX6_init_105 : decode cX6_init 105 = .ok (.newarray .int, 2) := by decide +kernel
theorem dX6_init_107 : decode cX6_init 107 = .ok (.putfield 51, 3) := by decide +kernel
theorem dX6_init_110 : decode cX6_init 110 = .ok (.iconst 0, 1) := by decide +kernel
theorem dX6_init_111 : decode cX6_init 111 = .ok (.istore_n 1, 1) := by decide +kernel
theorem dX6_init_112 : decode cX6_init 112 = .ok (.iload_n 1, 1) := by decide +kernel
theorem dX6_init_113 : decode cX6_init 113 = .ok (.iconst 4, 1) := by decide +kernel
theorem dX6_init_114 : decode cX6_init 114 = .ok (.if_icmp .ge 39, 3) := by decide +kernel
theorem dX6_init_117 : decode cX6_init 117 = .ok (.aload_n 0, 1) := by decide +kernel
theorem dX6_init_118 : decode cX6_init 118 = .ok (.getfield 7, 3) := by decide +kernel
theorem dX6_init_121 : decode cX6_init 121 = .ok (.bipush 56, 2) := by decide +kernel
theorem dX6_init_123 : decode cX6_init 123 = .ok (.iload_n 1, 1) := by decide +kernel
theorem dX6_init_124 : decode cX6_init 124 = .ok (.iadd, 1) := by decide +kernel
theorem dX6_init_125 : decode cX6_init 125 = .ok (.bipush 72, 2) := by decide +kernel
theorem dX6_init_127 : decode cX6_init 127 = .ok (.iload_n 1, 1) := by decide +kernel
theorem dX6_init_128 : decode cX6_init 128 = .ok (.imul, 1) := by decide +kernel
theorem dX6_init_129 : decode cX6_init 129 = .ok (.iconst 4, 1) := by decide +kernel
theorem dX6_init_130 : decode cX6_init 130 = .ok (.idiv, 1) := by decide +kernel
theorem dX6_init_131 : decode cX6_init 131 = .ok (.iastore, 1) := by decide +kernel
theorem dX6_init_132 : decode cX6_init 132 = .ok (.aload_n 0, 1) := by decide +kernel
theorem dX6_init_133 : decode cX6_init 133 = .ok (.getfield 7, 3) := by decide +kernel
theorem dX6_init_136 : decode cX6_init 136 = .ok (.iload_n 1, 1) := by decide +kernel
theorem dX6_init_137 : decode cX6_init 137 = .ok (.aload_n 0, 1) := by decide +kernel
theorem dX6_init_138 : decode cX6_init 138 = .ok (.getfield 7, 3) := by decide +kernel
theorem dX6_init_141 : decode cX6_init 141 = .ok (.bipush 56, 2) := by decide +kernel
theorem dX6_init_143 : decode cX6_init 143 = .ok (.iload_n 1, 1) := by decide +kernel
theorem dX6_init_144 : decode cX6_init 144 = .ok (.iadd, 1) := by decide +kernel
theorem dX6_init_145 : decode cX6_init 145 = .ok (.iaload, 1) := by decide +kernel
theorem dX6_init_146 : decode cX6_init 146 = .ok (.iastore, 1) := by decide +kernel
theorem dX6_init_147 : decode cX6_init 147 = .ok (.iinc 1 1, 3) := by decide +kernel
theorem dX6_init_150 : decode cX6_init 150 = .ok (.goto (-38), 3) := by decide +kernel
theorem dX6_init_153 : decode cX6_init 153 = .ok (.return_, 1) := by decide +kernel
theorem dX6_in_0 : decode cX6_in 0 = .ok (.lload_n 0, 1) := by decide +kernel
theorem dX6_in_1 : decode cX6_in 1 = .ok (.lload_n 2, 1) := by decide +kernel
theorem dX6_in_2 : decode cX6_in 2 = .ok (.lcmp, 1) := by decide +kernel
theorem dX6_in_3 : decode cX6_in 3 = .ok (.ifCond .lt 14, 3) := by decide +kernel
theorem dX6_in_6 : decode cX6_in 6 = .ok (.lload_n 0, 1) := by decide +kernel
theorem dX6_in_7 : decode cX6_in 7 = .ok (.lload 4, 2) := by decide +kernel
theorem dX6_in_9 : decode cX6_in 9 = .ok (.lcmp, 1) := by decide +kernel
theorem dX6_in_10 : decode cX6_in 10 = .ok (.ifCond .gt 7, 3) := by decide +kernel
theorem dX6_in_13 : decode cX6_in 13 = .ok (.iconst 1, 1) := by decide +kernel
theorem dX6_in_14 : decode cX6_in 14 = .ok (.goto 4, 3) := by decide +kernel
theorem dX6_in_17 : decode cX6_in 17 = .ok (.iconst 0, 1) := by decide +kernel
theorem dX6_in_18 : decode cX6_in 18 = .ok (.ireturn, 1) := by decide +kernel
theorem dX6_has_0 : decode cX6_has 0 = .ok (.iload_n 0, 1) := by decide +kernel
theorem dX6_has_1 : decode cX6_has 1 = .ok (.iload_n 1, 1) := by decide +kernel
theorem dX6_has_2 : decode cX6_has 2 = .ok (.ishr, 1) := by decide +kernel
theorem dX6_has_3 : decode cX6_has 3 = .ok (.iconst 1, 1) := by decide +kernel
theorem dX6_has_4 : decode cX6_has 4 = .ok (.iand, 1) := by decide +kernel
theorem dX6_has_5 : decode cX6_has 5 = .ok (.iconst 1, 1) := by decide +kernel
theorem dX6_has_6 : decode cX6_has 6 = .ok (.if_icmp .ne 7, 3) := by decide +kernel
theorem dX6_has_9 : decode cX6_has 9 = .ok (.iconst 1, 1) := by decide +kernel
theorem dX6_has_10 : decode cX6_has 10 = .ok (.goto 4, 3) := by decide +kernel
theorem dX6_has_13 : decode cX6_has 13 = .ok (.iconst 0, 1) := by decide +kernel
theorem dX6_has_14 : decode cX6_has 14 = .ok (.ireturn, 1) := by decide +kernel
theorem dX6_copy_0 : decode cX6_copy 0 = .ok (.iconst 0, 1) := by decide +kernel
theorem dX6_copy_1 : decode cX6_copy 1 = .ok (.istore_n 3, 1) := by decide +kernel
theorem dX6_copy_2 : decode cX6_copy 2 = .ok (.iload_n 3, 1) := by decide +kernel
theorem dX6_copy_3 : decode cX6_copy 3 = .ok (.bipush 14, 2) := by decide +kernel
theorem dX6_copy_5 : decode cX6_copy 5 = .ok (.if_icmp .ge 25, 3) := by decide +kernel
theorem dX6_copy_8 : decode cX6_copy 8 = .ok (.aload_n 0, 1) := by decide +kernel
theorem dX6_copy_9 : decode cX6_copy 9 = .ok (.getfield 7, 3) := by decide +kernel
theorem dX6_copy_12 : decode cX6_copy 12 = .ok (.iload_n 2, 1) := by decide +kernel
theorem dX6_copy_13 : decode cX6_copy 13 = .ok (.iload_n 3, 1) := by decide +kernel
theorem dX6_copy_14 : decode cX6_copy 14 = .ok (.iadd, 1) := by decide +kernel
theorem dX6_copy_15 : decode cX6_copy 15 = .ok (.aload_n 0, 1) := by decide +kernel
theorem dX6_copy_16 : decode cX6_copy 16 = .ok (.getfield 7, 3) := by decide +kernel
theorem dX6_copy_19 : decode cX6_copy 19 = .ok (.iload_n 1, 1) := by decide +kernel
theorem dX6_copy_20 : decode cX6_copy 20 = .ok (.iload_n 3, 1) := by decide +kernel
theorem dX6_copy_21 : decode cX6_copy 21 = .ok (.iadd, 1) := by decide +kernel
theorem dX6_copy_22 : decode cX6_copy 22 = .ok (.iaload, 1) := by decide +kernel
theorem dX6_copy_23 : decode cX6_copy 23 = .ok (.iastore, 1) := by decide +kernel
theorem dX6_copy_24 : decode cX6_copy 24 = .ok (.iinc 3 1, 3) := by decide +kernel
theorem dX6_copy_27 : decode cX6_copy 27 = .ok (.goto (-25), 3) := by decide +kernel
theorem dX6_copy_30 : decode cX6_copy 30 = .ok (.return_, 1) := by decide +kernel
theorem dX6_on_0 : decode cX6_on 0 = .ok (.iload_n 1, 1) := by decide +kernel
theorem dX6_on_1 : decode cX6_on 1 = .ok (.iload_n 0, 1) := by decide +kernel
theorem dX6_on_2 : decode cX6_on 2 = .ok (.isub, 1) := by decide +kernel
theorem dX6_on_3 : decode cX6_on 3 = .ok (.bipush 72, 2) := by decide +kernel
theorem dX6_on_5 : decode cX6_on 5 = .ok (.iadd, 1) := by decide +kernel
theorem dX6_on_6 : decode cX6_on 6 = .ok (.bipush 72, 2) := by decide +kernel
theorem dX6_on_8 : decode cX6_on 8 = .ok (.irem, 1) := by decide +kernel
theorem dX6_on_9 : decode cX6_on 9 = .ok (.ireturn, 1) := by decide +kernel
theorem dX6_shorter_0 : decode cX6_shorter 0 = .ok (.iload_n 0, 1) := by decide +kernel
theorem dX6_shorter_1 : decode cX6_shorter 1 = .ok (.iload_n 1, 1) := by decide +kernel
theorem dX6_shorter_2 : decode cX6_shorter 2 = .ok (.invokestatic 54, 3) := by decide +kernel
theorem dX6_shorter_5 : decode cX6_shorter 5 = .ok (.istore_n 2, 1) := by decide +kernel
theorem dX6_shorter_6 : decode cX6_shorter 6 = .ok (.iload_n 2, 1) := by decide +kernel
theorem dX6_shorter_7 : decode cX6_shorter 7 = .ok (.bipush 72, 2) := by decide +kernel
theorem dX6_shorter_9 : decode cX6_shorter 9 = .ok (.iload_n 2, 1) := by decide +kernel
theorem dX6_shorter_10 : decode cX6_shorter 10 = .ok (.isub, 1) := by decide +kernel
theorem dX6_shorter_11 : decode cX6_shorter 11 = .ok (.if_icmp .ge 7, 3) := by decide +kernel
theorem dX6_shorter_14 : decode cX6_shorter 14 = .ok (.iload_n 2, 1) := by decide +kernel
theorem dX6_shorter_15 : decode cX6_shorter 15 = .ok (.goto 7, 3) := by decide +kernel
theorem dX6_shorter_18 : decode cX6_shorter 18 = .ok (.bipush 72, 2) := by decide +kernel
theorem dX6_shorter_20 : decode cX6_shorter 20 = .ok (.iload_n 2, 1) := by decide +kernel
theorem dX6_shorter_21 : decode cX6_shorter 21 = .ok (.isub, 1) := by decide +kernel
theorem dX6_shorter_22 : decode cX6_shorter 22 = .ok (.ireturn, 1) := by decide +kernel
theorem dX6_write_0 : decode cX6_write 0 = .ok (.iload_n 3, 1) := by decide +kernel
theorem dX6_write_1 : decode cX6_write 1 = .ok (.i2l, 1) := by decide +kernel
theorem dX6_write_2 : decode cX6_write 2 = .ok (.lconst 1, 1) := by decide +kernel
theorem dX6_write_3 : decode cX6_write 3 = .ok (.ldc2_w 58, 3) := by decide +kernel
theorem dX6_write_6 : decode cX6_write 6 = .ok (.invokestatic 60, 3) := by decide +kernel
theorem dX6_write_9 : decode cX6_write 9 = .ok (.ifCond .ne 6, 3) := by decide +kernel
theorem dX6_write_12 : decode cX6_write 12 = .ok (.bipush (-3), 2) := by decide +kernel
theorem dX6_write_14 : decode cX6_write 14 = .ok (.ireturn, 1) := by decide +kernel
theorem dX6_write_15 : decode cX6_write 15 = .ok (.aload_n 0, 1) := by decide +kernel
theorem dX6_write_16 : decode cX6_write 16 = .ok (.getfield 64, 3) := by decide +kernel
theorem dX6_write_19 : decode cX6_write 19 = .ok (.iload_n 3, 1) := by decide +kernel
theorem dX6_write_20 : decode cX6_write 20 = .ok (.iadd, 1) := by decide +kernel
theorem dX6_write_21 : decode cX6_write 21 = .ok (.sipush 200, 3) := by decide +kernel
theorem dX6_write_24 : decode cX6_write 24 = .ok (.if_icmp .le 6, 3) := by decide +kernel
theorem dX6_write_27 : decode cX6_write 27 = .ok (.bipush (-5), 2) := by decide +kernel
theorem dX6_write_29 : decode cX6_write 29 = .ok (.ireturn, 1) := by decide +kernel
theorem dX6_write_30 : decode cX6_write 30 = .ok (.iconst 0, 1) := by decide +kernel
theorem dX6_write_31 : decode cX6_write 31 = .ok (.istore 4, 2) := by decide +kernel
theorem dX6_write_33 : decode cX6_write 33 = .ok (.iload 4, 2) := by decide +kernel
theorem dX6_write_35 : decode cX6_write 35 = .ok (.iload_n 3, 1) := by decide +kernel
theorem dX6_write_36 : decode cX6_write 36 = .ok (.if_icmp .ge 40, 3) := by decide +kernel
theorem dX6_write_39 : decode cX6_write 39 = .ok (.aload_n 0, 1) := by decide +kernel
theorem dX6_write_40 : decode cX6_write 40 = .ok (.getfield 17, 3) := by decide +kernel
theorem dX6_write_43 : decode cX6_write 43 = .ok (.aload_n 0, 1) := by decide +kernel
theorem dX6_write_44 : decode cX6_write 44 = .ok (.getfield 64, 3) := by decide +kernel
theorem dX6_write_47 : decode cX6_write 47 = .ok (.lload_n 1, 1) := by decide +kernel
theorem dX6_write_48 : decode cX6_write 48 = .ok (.bipush 8, 2) := by decide +kernel
theorem dX6_write_50 : decode cX6_write 50 = .ok (.iload 4, 2) := by decide +kernel
theorem dX6_write_52 : decode cX6_write 52 = .ok (.imul, 1) := by decide +kernel
theorem dX6_write_53 : decode cX6_write 53 = .ok (.lshr, 1) := by decide +kernel
theorem dX6_write_54 : decode cX6_write 54 = .ok (.ldc2_w 67, 3) := by decide +kernel
theorem dX6_write_57 : decode cX6_write 57 = .ok (.land, 1) := by decide +kernel
theorem dX6_write_58 : decode cX6_write 58 = .ok (.l2i, 1) := by decide +kernel
theorem dX6_write_59 : decode cX6_write 59 = .ok (.iastore, 1) := by decide +kernel
theorem dX6_write_60 : decode cX6_write 60 = .ok (.aload_n 0, 1) := by decide +kernel
theorem dX6_write_61 : decode cX6_write 61 = .ok (.dup, 1) := by decide +kernel
theorem dX6_write_62 : decode cX6_write 62 = .ok (.getfield 64, 3) := by decide +kernel
theorem dX6_write_65 : decode cX6_write 65 = .ok (.iconst 1, 1) := by decide +kernel
theorem dX6_write_66 : decode cX6_write 66 = .ok (.iadd, 1) := by decide +kernel
theorem dX6_write_67 : decode cX6_write 67 = .ok (.putfield 64, 3) := by decide +kernel
theorem dX6_write_70 : decode cX6_write 70 = .ok (.iinc 4 1, 3) := by decide +kernel
theorem dX6_write_73 : decode cX6_write 73 = .ok (.goto (-40), 3) := by decide +kernel
theorem dX6_write_76 : decode cX6_write 76 = .ok (.aload_n 0, 1) := by decide +kernel
theorem dX6_write_77 : decode cX6_write 77 = .ok (.getfield 64, 3) := by decide +kernel
theorem dX6_write_80 : decode cX6_write 80 = .ok (.ireturn, 1) := by decide +kernel
theorem dX6_erase_0 : decode cX6_erase 0 = .ok (.aload_n 0, 1) := by decide +kernel
theorem dX6_erase_1 : decode cX6_erase 1 = .ok (.getfield 64, 3) := by decide +kernel
theorem dX6_erase_4 : decode cX6_erase 4 = .ok (.istore_n 1, 1) := by decide +kernel
theorem dX6_erase_5 : decode cX6_erase 5 = .ok (.aload_n 0, 1) := by decide +kernel
theorem dX6_erase_6 : decode cX6_erase 6 = .ok (.iconst 0, 1) := by decide +kernel
theorem dX6_erase_7 : decode cX6_erase 7 = .ok (.putfield 64, 3) := by decide +kernel
theorem dX6_erase_10 : decode cX6_erase 10 = .ok (.iload_n 1, 1) := by decide +kernel
theorem dX6_erase_11 : decode cX6_erase 11 = .ok (.ireturn, 1) := by decide +kernel
theorem dX6_sort_0 : decode cX6_sort 0 = .ok (.iload_n 0, 1) := by decide +kernel
theorem dX6_sort_1 : decode cX6_sort 1 = .ok (.bipush 97, 2) := by decide +kernel
theorem dX6_sort_3 : decode cX6_sort 3 = .ok (.if_icmp .lt 13, 3) := by decide +kernel
theorem dX6_sort_6 : decode cX6_sort 6 = .ok (.iload_n 0, 1) := by decide +kernel
theorem dX6_sort_7 : decode cX6_sort 7 = .ok (.bipush 122, 2) := by decide +kernel
theorem dX6_sort_9 : decode cX6_sort 9 = .ok (.if_icmp .gt 7, 3) := by decide +kernel
theorem dX6_sort_12 : decode cX6_sort 12 = .ok (.iconst 1, 1) := by decide +kernel
theorem dX6_sort_13 : decode cX6_sort 13 = .ok (.goto 20, 3) := by decide +kernel
theorem dX6_sort_16 : decode cX6_sort 16 = .ok (.iload_n 0, 1) := by decide +kernel
theorem dX6_sort_17 : decode cX6_sort 17 = .ok (.bipush 48, 2) := by decide +kernel
theorem dX6_sort_19 : decode cX6_sort 19 = .ok (.if_icmp .lt 13, 3) := by decide +kernel
theorem dX6_sort_22 : decode cX6_sort 22 = .ok (.iload_n 0, 1) := by decide +kernel
theorem dX6_sort_23 : decode cX6_sort 23 = .ok (.bipush 57, 2) := by decide +kernel
theorem dX6_sort_25 : decode cX6_sort 25 = .ok (.if_icmp .gt 7, 3) := by decide +kernel
theorem dX6_sort_28 : decode cX6_sort 28 = .ok (.iconst 2, 1) := by decide +kernel
theorem dX6_sort_29 : decode cX6_sort 29 = .ok (.goto 4, 3) := by decide +kernel
theorem dX6_sort_32 : decode cX6_sort 32 = .ok (.iconst 0, 1) := by decide +kernel
theorem dX6_sort_33 : decode cX6_sort 33 = .ok (.ireturn, 1) := by decide +kernel
theorem dX6_token_0 : decode cX6_token 0 = .ok (.aload_n 0, 1) := by decide +kernel
theorem dX6_token_1 : decode cX6_token 1 = .ok (.getfield 69, 3) := by decide +kernel
theorem dX6_token_4 : decode cX6_token 4 = .ok (.aload_n 0, 1) := by decide +kernel
theorem dX6_token_5 : decode cX6_token 5 = .ok (.getfield 64, 3) := by decide +kernel
theorem dX6_token_8 : decode cX6_token 8 = .ok (.if_icmp .ge 30, 3) := by decide +kernel
theorem dX6_token_11 : decode cX6_token 11 = .ok (.aload_n 0, 1) := by decide +kernel
theorem dX6_token_12 : decode cX6_token 12 = .ok (.getfield 17, 3) := by decide +kernel
theorem dX6_token_15 : decode cX6_token 15 = .ok (.aload_n 0, 1) := by decide +kernel
theorem dX6_token_16 : decode cX6_token 16 = .ok (.getfield 69, 3) := by decide +kernel
theorem dX6_token_19 : decode cX6_token 19 = .ok (.iaload, 1) := by decide +kernel
theorem dX6_token_20 : decode cX6_token 20 = .ok (.bipush 32, 2) := by decide +kernel
theorem dX6_token_22 : decode cX6_token 22 = .ok (.if_icmp .ne 16, 3) := by decide +kernel
theorem dX6_token_25 : decode cX6_token 25 = .ok (.aload_n 0, 1) := by decide +kernel
theorem dX6_token_26 : decode cX6_token 26 = .ok (.dup, 1) := by decide +kernel
theorem dX6_token_27 : decode cX6_token 27 = .ok (.getfield 69, 3) := by decide +kernel
theorem dX6_token_30 : decode cX6_token 30 = .ok (.iconst 1, 1) := by decide +kernel
theorem dX6_token_31 : decode cX6_token 31 = .ok (.iadd, 1) := by decide +kernel
theorem dX6_token_32 : decode cX6_token 32 = .ok (.putfield 69, 3) := by decide +kernel
theorem dX6_token_35 : decode cX6_token 35 = .ok (.goto (-35), 3) := by decide +kernel
theorem dX6_token_38 : decode cX6_token 38 = .ok (.aload_n 0, 1) := by decide +kernel
theorem dX6_token_39 : decode cX6_token 39 = .ok (.aload_n 0, 1) := by decide +kernel
theorem dX6_token_40 : decode cX6_token 40 = .ok (.getfield 69, 3) := by decide +kernel
theorem dX6_token_43 : decode cX6_token 43 = .ok (.putfield 72, 3) := by decide +kernel
theorem dX6_token_46 : decode cX6_token 46 = .ok (.aload_n 0, 1) := by decide +kernel
theorem dX6_token_47 : decode cX6_token 47 = .ok (.dup, 1) := by decide +kernel
theorem dX6_token_48 : decode cX6_token 48 = .ok (.getfield 69, 3) := by decide +kernel
theorem dX6_token_51 : decode cX6_token 51 = .ok (.aload_n 0, 1) := by decide +kernel
theorem dX6_token_52 : decode cX6_token 52 = .ok (.getfield 69, 3) := by decide +kernel
theorem dX6_token_55 : decode cX6_token 55 = .ok (.aload_n 0, 1) := by decide +kernel
theorem dX6_token_56 : decode cX6_token 56 = .ok (.getfield 64, 3) := by decide +kernel
theorem dX6_token_59 : decode cX6_token 59 = .ok (.if_icmp .ge 7, 3) := by decide +kernel
theorem dX6_token_62 : decode cX6_token 62 = .ok (.iconst 1, 1) := by decide +kernel
theorem dX6_token_63 : decode cX6_token 63 = .ok (.goto 4, 3) := by decide +kernel
theorem dX6_token_66 : decode cX6_token 66 = .ok (.iconst 0, 1) := by decide +kernel
theorem dX6_token_67 : decode cX6_token 67 = .ok (.iadd, 1) := by decide +kernel
theorem dX6_token_68 : decode cX6_token 68 = .ok (.putfield 69, 3) := by decide +kernel
theorem dX6_token_71 : decode cX6_token 71 = .ok (.aload_n 0, 1) := by decide +kernel
theorem dX6_token_72 : decode cX6_token 72 = .ok (.getfield 69, 3) := by decide +kernel
theorem dX6_token_75 : decode cX6_token 75 = .ok (.aload_n 0, 1) := by decide +kernel
theorem dX6_token_76 : decode cX6_token 76 = .ok (.getfield 64, 3) := by decide +kernel
theorem dX6_token_79 : decode cX6_token 79 = .ok (.if_icmp .ge 58, 3) := by decide +kernel
theorem dX6_token_82 : decode cX6_token 82 = .ok (.aload_n 0, 1) := by decide +kernel
theorem dX6_token_83 : decode cX6_token 83 = .ok (.getfield 17, 3) := by decide +kernel
theorem dX6_token_86 : decode cX6_token 86 = .ok (.aload_n 0, 1) := by decide +kernel
theorem dX6_token_87 : decode cX6_token 87 = .ok (.getfield 72, 3) := by decide +kernel
theorem dX6_token_90 : decode cX6_token 90 = .ok (.iaload, 1) := by decide +kernel
theorem dX6_token_91 : decode cX6_token 91 = .ok (.invokestatic 75, 3) := by decide +kernel
theorem dX6_token_94 : decode cX6_token 94 = .ok (.ifCond .le 43, 3) := by decide +kernel
theorem dX6_token_97 : decode cX6_token 97 = .ok (.aload_n 0, 1) := by decide +kernel
theorem dX6_token_98 : decode cX6_token 98 = .ok (.getfield 17, 3) := by decide +kernel
theorem dX6_token_101 : decode cX6_token 101 = .ok (.aload_n 0, 1) := by decide +kernel
theorem dX6_token_102 : decode cX6_token 102 = .ok (.getfield 69, 3) := by decide +kernel
theorem dX6_token_105 : decode cX6_token 105 = .ok (.iaload, 1) := by decide +kernel
theorem dX6_token_106 : decode cX6_token 106 = .ok (.invokestatic 75, 3) := by decide +kernel
theorem dX6_token_109 : decode cX6_token 109 = .ok (.aload_n 0, 1) := by decide +kernel
theorem dX6_token_110 : decode cX6_token 110 = .ok (.getfield 17, 3) := by decide +kernel
theorem dX6_token_113 : decode cX6_token 113 = .ok (.aload_n 0, 1) := by decide +kernel
theorem dX6_token_114 : decode cX6_token 114 = .ok (.getfield 72, 3) := by decide +kernel
theorem dX6_token_117 : decode cX6_token 117 = .ok (.iaload, 1) := by decide +kernel
theorem dX6_token_118 : decode cX6_token 118 = .ok (.invokestatic 75, 3) := by decide +kernel
theorem dX6_token_121 : decode cX6_token 121 = .ok (.if_icmp .ne 16, 3) := by decide +kernel
theorem dX6_token_124 : decode cX6_token 124 = .ok (.aload_n 0, 1) := by decide +kernel
theorem dX6_token_125 : decode cX6_token 125 = .ok (.dup, 1) := by decide +kernel
theorem dX6_token_126 : decode cX6_token 126 = .ok (.getfield 69, 3) := by decide +kernel
theorem dX6_token_129 : decode cX6_token 129 = .ok (.iconst 1, 1) := by decide +kernel
theorem dX6_token_130 : decode cX6_token 130 = .ok (.iadd, 1) := by decide +kernel
theorem dX6_token_131 : decode cX6_token 131 = .ok (.putfield 69, 3) := by decide +kernel
theorem dX6_token_134 : decode cX6_token 134 = .ok (.goto (-63), 3) := by decide +kernel
theorem dX6_token_137 : decode cX6_token 137 = .ok (.aload_n 0, 1) := by decide +kernel
theorem dX6_token_138 : decode cX6_token 138 = .ok (.aload_n 0, 1) := by decide +kernel
theorem dX6_token_139 : decode cX6_token 139 = .ok (.getfield 69, 3) := by decide +kernel
theorem dX6_token_142 : decode cX6_token 142 = .ok (.putfield 79, 3) := by decide +kernel
theorem dX6_token_145 : decode cX6_token 145 = .ok (.return_, 1) := by decide +kernel
theorem dX6_isWord_0 : decode cX6_isWord 0 = .ok (.aload_n 0, 1) := by decide +kernel
theorem dX6_isWord_1 : decode cX6_isWord 1 = .ok (.getfield 79, 3) := by decide +kernel
theorem dX6_isWord_4 : decode cX6_isWord 4 = .ok (.aload_n 0, 1) := by decide +kernel
theorem dX6_isWord_5 : decode cX6_isWord 5 = .ok (.getfield 72, 3) := by decide +kernel
theorem dX6_isWord_8 : decode cX6_isWord 8 = .ok (.isub, 1) := by decide +kernel
theorem dX6_isWord_9 : decode cX6_isWord 9 = .ok (.iload_n 2, 1) := by decide +kernel
theorem dX6_isWord_10 : decode cX6_isWord 10 = .ok (.if_icmp .ne 7, 3) := by decide +kernel
theorem dX6_isWord_13 : decode cX6_isWord 13 = .ok (.iconst 1, 1) := by decide +kernel
theorem dX6_isWord_14 : decode cX6_isWord 14 = .ok (.goto 4, 3) := by decide +kernel
theorem dX6_isWord_17 : decode cX6_isWord 17 = .ok (.iconst 0, 1) := by decide +kernel
theorem dX6_isWord_18 : decode cX6_isWord 18 = .ok (.istore_n 3, 1) := by decide +kernel
theorem dX6_isWord_19 : decode cX6_isWord 19 = .ok (.iconst 0, 1) := by decide +kernel
theorem dX6_isWord_20 : decode cX6_isWord 20 = .ok (.istore 4, 2) := by decide +kernel
theorem dX6_isWord_22 : decode cX6_isWord 22 = .ok (.iload_n 3, 1) := by decide +kernel
theorem dX6_isWord_23 : decode cX6_isWord 23 = .ok (.ifCond .eq 48, 3) := by decide +kernel
theorem dX6_isWord_26 : decode cX6_isWord 26 = .ok (.iload 4, 2) := by decide +kernel
theorem dX6_isWord_28 : decode cX6_isWord 28 = .ok (.iload_n 2, 1) := by decide +kernel
theorem dX6_isWord_29 : decode cX6_isWord 29 = .ok (.if_icmp .ge 42, 3) := by decide +kernel
theorem dX6_isWord_32 : decode cX6_isWord 32 = .ok (.aload_n 0, 1) := by decide +kernel
theorem dX6_isWord_33 : decode cX6_isWord 33 = .ok (.getfield 17, 3) := by decide +kernel
theorem dX6_isWord_36 : decode cX6_isWord 36 = .ok (.aload_n 0, 1) := by decide +kernel
theorem dX6_isWord_37 : decode cX6_isWord 37 = .ok (.getfield 72, 3) := by decide +kernel
theorem dX6_isWord_40 : decode cX6_isWord 40 = .ok (.iload 4, 2) := by decide +kernel
theorem dX6_isWord_42 : decode cX6_isWord 42 = .ok (.iadd, 1) := by decide +kernel
theorem dX6_isWord_43 : decode cX6_isWord 43 = .ok (.iaload, 1) := by decide +kernel
theorem dX6_isWord_44 : decode cX6_isWord 44 = .ok (.bipush 96, 2) := by decide +kernel
theorem dX6_isWord_46 : decode cX6_isWord 46 = .ok (.iload_n 1, 1) := by decide +kernel
theorem dX6_isWord_47 : decode cX6_isWord 47 = .ok (.iconst 5, 1) := by decide +kernel
theorem dX6_isWord_48 : decode cX6_isWord 48 = .ok (.iload 4, 2) := by decide +kernel
theorem dX6_isWord_50 : decode cX6_isWord 50 = .ok (.imul, 1) := by decide +kernel
theorem dX6_isWord_51 : decode cX6_isWord 51 = .ok (.ishr, 1) := by decide +kernel
theorem dX6_isWord_52 : decode cX6_isWord 52 = .ok (.bipush 31, 2) := by decide +kernel
theorem dX6_isWord_54 : decode cX6_isWord 54 = .ok (.iand, 1) := by decide +kernel
theorem dX6_isWord_55 : decode cX6_isWord 55 = .ok (.iadd, 1) := by decide +kernel
theorem dX6_isWord_56 : decode cX6_isWord 56 = .ok (.if_icmp .ne 7, 3) := by decide +kernel
theorem dX6_isWord_59 : decode cX6_isWord 59 = .ok (.iconst 1, 1) := by decide +kernel
theorem dX6_isWord_60 : decode cX6_isWord 60 = .ok (.goto 4, 3) := by decide +kernel
theorem dX6_isWord_63 : decode cX6_isWord 63 = .ok (.iconst 0, 1) := by decide +kernel
theorem dX6_isWord_64 : decode cX6_isWord 64 = .ok (.istore_n 3, 1) := by decide +kernel
theorem dX6_isWord_65 : decode cX6_isWord 65 = .ok (.iinc 4 1, 3) := by decide +kernel
theorem dX6_isWord_68 : decode cX6_isWord 68 = .ok (.goto (-46), 3) := by decide +kernel
theorem dX6_isWord_71 : decode cX6_isWord 71 = .ok (.iload_n 3, 1) := by decide +kernel
theorem dX6_isWord_72 : decode cX6_isWord 72 = .ok (.ireturn, 1) := by decide +kernel
theorem dX6_leafWord_0 : decode cX6_leafWord 0 = .ok (.aload_n 0, 1) := by decide +kernel
theorem dX6_leafWord_1 : decode cX6_leafWord 1 = .ok (.ldc 82, 2) := by decide +kernel
theorem dX6_leafWord_3 : decode cX6_leafWord 3 = .ok (.iconst 5, 1) := by decide +kernel
theorem dX6_leafWord_4 : decode cX6_leafWord 4 = .ok (.invokevirtual 83, 3) := by decide +kernel
theorem dX6_leafWord_7 : decode cX6_leafWord 7 = .ok (.ifCond .eq 7, 3) := by decide +kernel
theorem dX6_leafWord_10 : decode cX6_leafWord 10 = .ok (.iconst 2, 1) := by decide +kernel
theorem dX6_leafWord_11 : decode cX6_leafWord 11 = .ok (.goto 47, 3) := by decide +kernel
theorem dX6_leafWord_14 : decode cX6_leafWord 14 = .ok (.aload_n 0, 1) := by decide +kernel
theorem dX6_leafWord_15 : decode cX6_leafWord 15 = .ok (.ldc 87, 2) := by decide +kernel
theorem dX6_leafWord_17 : decode cX6_leafWord 17 = .ok (.bipush 6, 2) := by decide +kernel
theorem dX6_leafWord_19 : decode cX6_leafWord 19 = .ok (.invokevirtual 83, 3) := by decide +kernel
theorem dX6_leafWord_22 : decode cX6_leafWord 22 = .ok (.ifCond .eq 7, 3) := by decide +kernel
theorem dX6_leafWord_25 : decode cX6_leafWord 25 = .ok (.iconst 3, 1) := by decide +kernel
theorem dX6_leafWord_26 : decode cX6_leafWord 26 = .ok (.goto 32, 3) := by decide +kernel
theorem dX6_leafWord_29 : decode cX6_leafWord 29 = .ok (.aload_n 0, 1) := by decide +kernel
theorem dX6_leafWord_30 : decode cX6_leafWord 30 = .ok (.ldc 88, 2) := by decide +kernel
theorem dX6_leafWord_32 : decode cX6_leafWord 32 = .ok (.iconst 5, 1) := by decide +kernel
theorem dX6_leafWord_33 : decode cX6_leafWord 33 = .ok (.invokevirtual 83, 3) := by decide +kernel
theorem dX6_leafWord_36 : decode cX6_leafWord 36 = .ok (.ifCond .eq 7, 3) := by decide +kernel
theorem dX6_leafWord_39 : decode cX6_leafWord 39 = .ok (.iconst 4, 1) := by decide +kernel
theorem dX6_leafWord_40 : decode cX6_leafWord 40 = .ok (.goto 18, 3) := by decide +kernel
theorem dX6_leafWord_43 : decode cX6_leafWord 43 = .ok (.aload_n 0, 1) := by decide +kernel
theorem dX6_leafWord_44 : decode cX6_leafWord 44 = .ok (.ldc 89, 2) := by decide +kernel
theorem dX6_leafWord_46 : decode cX6_leafWord 46 = .ok (.iconst 5, 1) := by decide +kernel
theorem dX6_leafWord_47 : decode cX6_leafWord 47 = .ok (.invokevirtual 83, 3) := by decide +kernel
theorem dX6_leafWord_50 : decode cX6_leafWord 50 = .ok (.ifCond .eq 7, 3) := by decide +kernel
theorem dX6_leafWord_53 : decode cX6_leafWord 53 = .ok (.iconst 5, 1) := by decide +kernel
theorem dX6_leafWord_54 : decode cX6_leafWord 54 = .ok (.goto 4, 3) := by decide +kernel
theorem dX6_leafWord_57 : decode cX6_leafWord 57 = .ok (.iconst (-1), 1) := by decide +kernel
theorem dX6_leafWord_58 : decode cX6_leafWord 58 = .ok (.ireturn, 1) := by decide +kernel
theorem dX6_wordOf_0 : decode cX6_wordOf 0 = .ok (.aload_n 0, 1) := by decide +kernel
theorem dX6_wordOf_1 : decode cX6_wordOf 1 = .ok (.invokevirtual 90, 3) := by decide +kernel
theorem dX6_wordOf_4 : decode cX6_wordOf 4 = .ok (.istore_n 1, 1) := by decide +kernel
theorem dX6_wordOf_5 : decode cX6_wordOf 5 = .ok (.iload_n 1, 1) := by decide +kernel
theorem dX6_wordOf_6 : decode cX6_wordOf 6 = .ok (.iconst (-1), 1) := by decide +kernel
theorem dX6_wordOf_7 : decode cX6_wordOf 7 = .ok (.if_icmp .eq 7, 3) := by decide +kernel
theorem dX6_wordOf_10 : decode cX6_wordOf 10 = .ok (.iload_n 1, 1) := by decide +kernel
theorem dX6_wordOf_11 : decode cX6_wordOf 11 = .ok (.goto 94, 3) := by decide +kernel
theorem dX6_wordOf_14 : decode cX6_wordOf 14 = .ok (.aload_n 0, 1) := by decide +kernel
theorem dX6_wordOf_15 : decode cX6_wordOf 15 = .ok (.ldc 94, 2) := by decide +kernel
theorem dX6_wordOf_17 : decode cX6_wordOf 17 = .ok (.iconst 5, 1) := by decide +kernel
theorem dX6_wordOf_18 : decode cX6_wordOf 18 = .ok (.invokevirtual 83, 3) := by decide +kernel
theorem dX6_wordOf_21 : decode cX6_wordOf 21 = .ok (.ifCond .eq 7, 3) := by decide +kernel
theorem dX6_wordOf_24 : decode cX6_wordOf 24 = .ok (.iconst 0, 1) := by decide +kernel
theorem dX6_wordOf_25 : decode cX6_wordOf 25 = .ok (.goto 80, 3) := by decide +kernel
theorem dX6_wordOf_28 : decode cX6_wordOf 28 = .ok (.aload_n 0, 1) := by decide +kernel
theorem dX6_wordOf_29 : decode cX6_wordOf 29 = .ok (.ldc 95, 2) := by decide +kernel
theorem dX6_wordOf_31 : decode cX6_wordOf 31 = .ok (.iconst 4, 1) := by decide +kernel
theorem dX6_wordOf_32 : decode cX6_wordOf 32 = .ok (.invokevirtual 83, 3) := by decide +kernel
theorem dX6_wordOf_35 : decode cX6_wordOf 35 = .ok (.ifCond .eq 7, 3) := by decide +kernel
theorem dX6_wordOf_38 : decode cX6_wordOf 38 = .ok (.iconst 1, 1) := by decide +kernel
theorem dX6_wordOf_39 : decode cX6_wordOf 39 = .ok (.goto 66, 3) := by decide +kernel
theorem dX6_wordOf_42 : decode cX6_wordOf 42 = .ok (.aload_n 0, 1) := by decide +kernel
theorem dX6_wordOf_43 : decode cX6_wordOf 43 = .ok (.sipush 21168, 3) := by decide +kernel
theorem dX6_wordOf_46 : decode cX6_wordOf 46 = .ok (.iconst 3, 1) := by decide +kernel
theorem dX6_wordOf_47 : decode cX6_wordOf 47 = .ok (.invokevirtual 83, 3) := by decide +kernel
theorem dX6_wordOf_50 : decode cX6_wordOf 50 = .ok (.ifCond .eq 8, 3) := by decide +kernel
theorem dX6_wordOf_53 : decode cX6_wordOf 53 = .ok (.bipush 6, 2) := by decide +kernel
theorem dX6_wordOf_55 : decode cX6_wordOf 55 = .ok (.goto 50, 3) := by decide +kernel
theorem dX6_wordOf_58 : decode cX6_wordOf 58 = .ok (.aload_n 0, 1) := by decide +kernel
theorem dX6_wordOf_59 : decode cX6_wordOf 59 = .ok (.ldc 96, 2) := by decide +kernel
theorem dX6_wordOf_61 : decode cX6_wordOf 61 = .ok (.iconst 4, 1) := by decide +kernel
theorem dX6_wordOf_62 : decode cX6_wordOf 62 = .ok (.invokevirtual 83, 3) := by decide +kernel
theorem dX6_wordOf_65 : decode cX6_wordOf 65 = .ok (.ifCond .eq 8, 3) := by decide +kernel
theorem dX6_wordOf_68 : decode cX6_wordOf 68 = .ok (.bipush 7, 2) := by decide +kernel
theorem dX6_wordOf_70 : decode cX6_wordOf 70 = .ok (.goto 35, 3) := by decide +kernel
theorem dX6_wordOf_73 : decode cX6_wordOf 73 = .ok (.aload_n 0, 1) := by decide +kernel
theorem dX6_wordOf_74 : decode cX6_wordOf 74 = .ok (.ldc 97, 2) := by decide +kernel
theorem dX6_wordOf_76 : decode cX6_wordOf 76 = .ok (.bipush 6, 2) := by decide +kernel
theorem dX6_wordOf_78 : decode cX6_wordOf 78 = .ok (.invokevirtual 83, 3) := by decide +kernel
theorem dX6_wordOf_81 : decode cX6_wordOf 81 = .ok (.ifCond .eq 8, 3) := by decide +kernel
theorem dX6_wordOf_84 : decode cX6_wordOf 84 = .ok (.bipush 8, 2) := by decide +kernel
theorem dX6_wordOf_86 : decode cX6_wordOf 86 = .ok (.goto 19, 3) := by decide +kernel
theorem dX6_wordOf_89 : decode cX6_wordOf 89 = .ok (.aload_n 0, 1) := by decide +kernel
theorem dX6_wordOf_90 : decode cX6_wordOf 90 = .ok (.ldc 98, 2) := by decide +kernel
theorem dX6_wordOf_92 : decode cX6_wordOf 92 = .ok (.iconst 5, 1) := by decide +kernel
theorem dX6_wordOf_93 : decode cX6_wordOf 93 = .ok (.invokevirtual 83, 3) := by decide +kernel
theorem dX6_wordOf_96 : decode cX6_wordOf 96 = .ok (.ifCond .eq 8, 3) := by decide +kernel
theorem dX6_wordOf_99 : decode cX6_wordOf 99 = .ok (.bipush 9, 2) := by decide +kernel
theorem dX6_wordOf_101 : decode cX6_wordOf 101 = .ok (.goto 4, 3) := by decide +kernel
theorem dX6_wordOf_104 : decode cX6_wordOf 104 = .ok (.iconst (-1), 1) := by decide +kernel
theorem dX6_wordOf_105 : decode cX6_wordOf 105 = .ok (.ireturn, 1) := by decide +kernel
theorem dX6_numberHere_0 : decode cX6_numberHere 0 = .ok (.aload_n 0, 1) := by decide +kernel
theorem dX6_numberHere_1 : decode cX6_numberHere 1 = .ok (.getfield 72, 3) := by decide +kernel
theorem dX6_numberHere_4 : decode cX6_numberHere 4 = .ok (.aload_n 0, 1) := by decide +kernel
theorem dX6_numberHere_5 : decode cX6_numberHere 5 = .ok (.getfield 64, 3) := by decide +kernel
theorem dX6_numberHere_8 : decode cX6_numberHere 8 = .ok (.if_icmp .eq 32, 3) := by decide +kernel
theorem dX6_numberHere_11 : decode cX6_numberHere 11 = .ok (.aload_n 0, 1) := by decide +kernel
theorem dX6_numberHere_12 : decode cX6_numberHere 12 = .ok (.getfield 17, 3) := by decide +kernel
theorem dX6_numberHere_15 : decode cX6_numberHere 15 = .ok (.aload_n 0, 1) := by decide +kernel
theorem dX6_numberHere_16 : decode cX6_numberHere 16 = .ok (.getfield 72, 3) := by decide +kernel
theorem dX6_numberHere_19 : decode cX6_numberHere 19 = .ok (.iaload, 1) := by decide +kernel
theorem dX6_numberHere_20 : decode cX6_numberHere 20 = .ok (.invokestatic 75, 3) := by decide +kernel
theorem dX6_numberHere_23 : decode cX6_numberHere 23 = .ok (.iconst 2, 1) := by decide +kernel
theorem dX6_numberHere_24 : decode cX6_numberHere 24 = .ok (.if_icmp .ne 16, 3) := by decide +kernel
theorem dX6_numberHere_27 : decode cX6_numberHere 27 = .ok (.aload_n 0, 1) := by decide +kernel
theorem dX6_numberHere_28 : decode cX6_numberHere 28 = .ok (.getfield 79, 3) := by decide +kernel
theorem dX6_numberHere_31 : decode cX6_numberHere 31 = .ok (.aload_n 0, 1) := by decide +kernel
theorem dX6_numberHere_32 : decode cX6_numberHere 32 = .ok (.getfield 72, 3) := by decide +kernel
theorem dX6_numberHere_35 : decode cX6_numberHere 35 = .ok (.isub, 1) := by decide +kernel
theorem dX6_numberHere_36 : decode cX6_numberHere 36 = .ok (.iconst 2, 1) := by decide +kernel
theorem dX6_numberHere_37 : decode cX6_numberHere 37 = .ok (.if_icmp .le 5, 3) := by decide +kernel
theorem dX6_numberHere_40 : decode cX6_numberHere 40 = .ok (.iconst (-1), 1) := by decide +kernel
theorem dX6_numberHere_41 : decode cX6_numberHere 41 = .ok (.ireturn, 1) := by decide +kernel
theorem dX6_numberHere_42 : decode cX6_numberHere 42 = .ok (.iconst 0, 1) := by decide +kernel
theorem dX6_numberHere_43 : decode cX6_numberHere 43 = .ok (.istore_n 1, 1) := by decide +kernel
theorem dX6_numberHere_44 : decode cX6_numberHere 44 = .ok (.aload_n 0, 1) := by decide +kernel
theorem dX6_numberHere_45 : decode cX6_numberHere 45 = .ok (.getfield 72, 3) := by decide +kernel
theorem dX6_numberHere_48 : decode cX6_numberHere 48 = .ok (.istore_n 2, 1) := by decide +kernel
theorem dX6_numberHere_49 : decode cX6_numberHere 49 = .ok (.iload_n 2, 1) := by decide +kernel
theorem dX6_numberHere_50 : decode cX6_numberHere 50 = .ok (.aload_n 0, 1) := by decide +kernel
theorem dX6_numberHere_51 : decode cX6_numberHere 51 = .ok (.getfield 79, 3) := by decide +kernel
theorem dX6_numberHere_54 : decode cX6_numberHere 54 = .ok (.if_icmp .ge 24, 3) := by decide +kernel
theorem dX6_numberHere_57 : decode cX6_numberHere 57 = .ok (.bipush 10, 2) := by decide +kernel
theorem dX6_numberHere_59 : decode cX6_numberHere 59 = .ok (.iload_n 1, 1) := by decide +kernel
theorem dX6_numberHere_60 : decode cX6_numberHere 60 = .ok (.imul, 1) := by decide +kernel
theorem dX6_numberHere_61 : decode cX6_numberHere 61 = .ok (.aload_n 0, 1) := by decide +kernel
theorem dX6_numberHere_62 : decode cX6_numberHere 62 = .ok (.getfield 17, 3) := by decide +kernel
theorem dX6_numberHere_65 : decode cX6_numberHere 65 = .ok (.iload_n 2, 1) := by decide +kernel
theorem dX6_numberHere_66 : decode cX6_numberHere 66 = .ok (.iaload, 1) := by decide +kernel
theorem dX6_numberHere_67 : decode cX6_numberHere 67 = .ok (.iadd, 1) := by decide +kernel
theorem dX6_numberHere_68 : decode cX6_numberHere 68 = .ok (.bipush 48, 2) := by decide +kernel
theorem dX6_numberHere_70 : decode cX6_numberHere 70 = .ok (.isub, 1) := by decide +kernel
theorem dX6_numberHere_71 : decode cX6_numberHere 71 = .ok (.istore_n 1, 1) := by decide +kernel
theorem dX6_numberHere_72 : decode cX6_numberHere 72 = .ok (.iinc 2 1, 3) := by decide +kernel
theorem dX6_numberHere_75 : decode cX6_numberHere 75 = .ok (.goto (-26), 3) := by decide +kernel
theorem dX6_numberHere_78 : decode cX6_numberHere 78 = .ok (.iload_n 1, 1) := by decide +kernel
theorem dX6_numberHere_79 : decode cX6_numberHere 79 = .ok (.ireturn, 1) := by decide +kernel
theorem dX6_reads_0 : decode cX6_reads 0 = .ok (.aload_n 0, 1) := by decide +kernel
theorem dX6_reads_1 : decode cX6_reads 1 = .ok (.invokevirtual 99, 3) := by decide +kernel
theorem dX6_reads_4 : decode cX6_reads 4 = .ok (.istore 4, 2) := by decide +kernel
theorem dX6_reads_6 : decode cX6_reads 6 = .ok (.iload 4, 2) := by decide +kernel
theorem dX6_reads_8 : decode cX6_reads 8 = .ok (.i2l, 1) := by decide +kernel
theorem dX6_reads_9 : decode cX6_reads 9 = .ok (.iload_n 2, 1) := by decide +kernel
theorem dX6_reads_10 : decode cX6_reads 10 = .ok (.i2l, 1) := by decide +kernel
theorem dX6_reads_11 : decode cX6_reads 11 = .ok (.iload_n 3, 1) := by decide +kernel
theorem dX6_reads_12 : decode cX6_reads 12 = .ok (.i2l, 1) := by decide +kernel
theorem dX6_reads_13 : decode cX6_reads 13 = .ok (.invokestatic 60, 3) := by decide +kernel
theorem dX6_reads_16 : decode cX6_reads 16 = .ok (.ifCond .ne 5, 3) := by decide +kernel
theorem dX6_reads_19 : decode cX6_reads 19 = .ok (.iconst 0, 1) := by decide +kernel
theorem dX6_reads_20 : decode cX6_reads 20 = .ok (.ireturn, 1) := by decide +kernel
theorem dX6_reads_21 : decode cX6_reads 21 = .ok (.aload_n 0, 1) := by decide +kernel
theorem dX6_reads_22 : decode cX6_reads 22 = .ok (.getfield 20, 3) := by decide +kernel
theorem dX6_reads_25 : decode cX6_reads 25 = .ok (.iconst 3, 1) := by decide +kernel
theorem dX6_reads_26 : decode cX6_reads 26 = .ok (.aload_n 0, 1) := by decide +kernel
theorem dX6_reads_27 : decode cX6_reads 27 = .ok (.getfield 102, 3) := by decide +kernel
theorem dX6_reads_30 : decode cX6_reads 30 = .ok (.imul, 1) := by decide +kernel
theorem dX6_reads_31 : decode cX6_reads 31 = .ok (.iconst 1, 1) := by decide +kernel
theorem dX6_reads_32 : decode cX6_reads 32 = .ok (.iadd, 1) := by decide +kernel
theorem dX6_reads_33 : decode cX6_reads 33 = .ok (.iload_n 1, 1) := by decide +kernel
theorem dX6_reads_34 : decode cX6_reads 34 = .ok (.iadd, 1) := by decide +kernel
theorem dX6_reads_35 : decode cX6_reads 35 = .ok (.iload 4, 2) := by decide +kernel
theorem dX6_reads_37 : decode cX6_reads 37 = .ok (.iastore, 1) := by decide +kernel
theorem dX6_reads_38 : decode cX6_reads 38 = .ok (.aload_n 0, 1) := by decide +kernel
theorem dX6_reads_39 : decode cX6_reads 39 = .ok (.invokevirtual 105, 3) := by decide +kernel
theorem dX6_reads_42 : decode cX6_reads 42 = .ok (.iconst 1, 1) := by decide +kernel
theorem dX6_reads_43 : decode cX6_reads 43 = .ok (.ireturn, 1) := by decide +kernel
theorem dX6_readNext_0 : decode cX6_readNext 0 = .ok (.iload_n 1, 1) := by decide +kernel
theorem dX6_readNext_1 : decode cX6_readNext 1 = .ok (.iconst 1, 1) := by decide +kernel
theorem dX6_readNext_2 : decode cX6_readNext 2 = .ok (.iadd, 1) := by decide +kernel
theorem dX6_readNext_3 : decode cX6_readNext 3 = .ok (.aload_n 0, 1) := by decide +kernel
theorem dX6_readNext_4 : decode cX6_readNext 4 = .ok (.getfield 108, 3) := by decide +kernel
theorem dX6_readNext_7 : decode cX6_readNext 7 = .ok (.irem, 1) := by decide +kernel
theorem dX6_readNext_8 : decode cX6_readNext 8 = .ok (.ireturn, 1) := by decide +kernel
theorem dX6_fitsAngle_0 : decode cX6_fitsAngle 0 = .ok (.iload_n 1, 1) := by decide +kernel
theorem dX6_fitsAngle_1 : decode cX6_fitsAngle 1 = .ok (.aload_n 0, 1) := by decide +kernel
theorem dX6_fitsAngle_2 : decode cX6_fitsAngle 2 = .ok (.getfield 108, 3) := by decide +kernel
theorem dX6_fitsAngle_5 : decode cX6_fitsAngle 5 = .ok (.iadd, 1) := by decide +kernel
theorem dX6_fitsAngle_6 : decode cX6_fitsAngle 6 = .ok (.iconst 1, 1) := by decide +kernel
theorem dX6_fitsAngle_7 : decode cX6_fitsAngle 7 = .ok (.isub, 1) := by decide +kernel
theorem dX6_fitsAngle_8 : decode cX6_fitsAngle 8 = .ok (.aload_n 0, 1) := by decide +kernel
theorem dX6_fitsAngle_9 : decode cX6_fitsAngle 9 = .ok (.getfield 108, 3) := by decide +kernel
theorem dX6_fitsAngle_12 : decode cX6_fitsAngle 12 = .ok (.irem, 1) := by decide +kernel
theorem dX6_fitsAngle_13 : decode cX6_fitsAngle 13 = .ok (.istore_n 3, 1) := by decide +kernel
theorem dX6_fitsAngle_14 : decode cX6_fitsAngle 14 = .ok (.aload_n 0, 1) := by decide +kernel
theorem dX6_fitsAngle_15 : decode cX6_fitsAngle 15 = .ok (.getfield 36, 3) := by decide +kernel
theorem dX6_fitsAngle_18 : decode cX6_fitsAngle 18 = .ok (.iload_n 3, 1) := by decide +kernel
theorem dX6_fitsAngle_19 : decode cX6_fitsAngle 19 = .ok (.iaload, 1) := by decide +kernel
theorem dX6_fitsAngle_20 : decode cX6_fitsAngle 20 = .ok (.istore 4, 2) := by decide +kernel
theorem dX6_fitsAngle_22 : decode cX6_fitsAngle 22 = .ok (.aload_n 0, 1) := by decide +kernel
theorem dX6_fitsAngle_23 : decode cX6_fitsAngle 23 = .ok (.getfield 36, 3) := by decide +kernel
theorem dX6_fitsAngle_26 : decode cX6_fitsAngle 26 = .ok (.aload_n 0, 1) := by decide +kernel
theorem dX6_fitsAngle_27 : decode cX6_fitsAngle 27 = .ok (.iload_n 1, 1) := by decide +kernel
theorem dX6_fitsAngle_28 : decode cX6_fitsAngle 28 = .ok (.invokevirtual 111, 3) := by decide +kernel
theorem dX6_fitsAngle_31 : decode cX6_fitsAngle 31 = .ok (.iaload, 1) := by decide +kernel
theorem dX6_fitsAngle_32 : decode cX6_fitsAngle 32 = .ok (.istore 5, 2) := by decide +kernel
theorem dX6_fitsAngle_34 : decode cX6_fitsAngle 34 = .ok (.iload 4, 2) := by decide +kernel
theorem dX6_fitsAngle_36 : decode cX6_fitsAngle 36 = .ok (.iload_n 2, 1) := by decide +kernel
theorem dX6_fitsAngle_37 : decode cX6_fitsAngle 37 = .ok (.invokestatic 54, 3) := by decide +kernel
theorem dX6_fitsAngle_40 : decode cX6_fitsAngle 40 = .ok (.iload_n 2, 1) := by decide +kernel
theorem dX6_fitsAngle_41 : decode cX6_fitsAngle 41 = .ok (.iload 5, 2) := by decide +kernel
theorem dX6_fitsAngle_43 : decode cX6_fitsAngle 43 = .ok (.invokestatic 54, 3) := by decide +kernel
theorem dX6_fitsAngle_46 : decode cX6_fitsAngle 46 = .ok (.iadd, 1) := by decide +kernel
theorem dX6_fitsAngle_47 : decode cX6_fitsAngle 47 = .ok (.iload 4, 2) := by decide +kernel
theorem dX6_fitsAngle_49 : decode cX6_fitsAngle 49 = .ok (.iload 5, 2) := by decide +kernel
theorem dX6_fitsAngle_51 : decode cX6_fitsAngle 51 = .ok (.invokestatic 54, 3) := by decide +kernel
theorem dX6_fitsAngle_54 : decode cX6_fitsAngle 54 = .ok (.if_icmp .ne 37, 3) := by decide +kernel
theorem dX6_fitsAngle_57 : decode cX6_fitsAngle 57 = .ok (.iload 4, 2) := by decide +kernel
theorem dX6_fitsAngle_59 : decode cX6_fitsAngle 59 = .ok (.iload_n 2, 1) := by decide +kernel
theorem dX6_fitsAngle_60 : decode cX6_fitsAngle 60 = .ok (.invokestatic 54, 3) := by decide +kernel
theorem dX6_fitsAngle_63 : decode cX6_fitsAngle 63 = .ok (.aload_n 0, 1) := by decide +kernel
theorem dX6_fitsAngle_64 : decode cX6_fitsAngle 64 = .ok (.getfield 39, 3) := by decide +kernel
theorem dX6_fitsAngle_67 : decode cX6_fitsAngle 67 = .ok (.iload_n 3, 1) := by decide +kernel
theorem dX6_fitsAngle_68 : decode cX6_fitsAngle 68 = .ok (.iaload, 1) := by decide +kernel
theorem dX6_fitsAngle_69 : decode cX6_fitsAngle 69 = .ok (.if_icmp .le 22, 3) := by decide +kernel
theorem dX6_fitsAngle_72 : decode cX6_fitsAngle 72 = .ok (.iload_n 2, 1) := by decide +kernel
theorem dX6_fitsAngle_73 : decode cX6_fitsAngle 73 = .ok (.iload 5, 2) := by decide +kernel
theorem dX6_fitsAngle_75 : decode cX6_fitsAngle 75 = .ok (.invokestatic 54, 3) := by decide +kernel
theorem dX6_fitsAngle_78 : decode cX6_fitsAngle 78 = .ok (.aload_n 0, 1) := by decide +kernel
theorem dX6_fitsAngle_79 : decode cX6_fitsAngle 79 = .ok (.getfield 39, 3) := by decide +kernel
theorem dX6_fitsAngle_82 : decode cX6_fitsAngle 82 = .ok (.iload_n 1, 1) := by decide +kernel
theorem dX6_fitsAngle_83 : decode cX6_fitsAngle 83 = .ok (.iaload, 1) := by decide +kernel
theorem dX6_fitsAngle_84 : decode cX6_fitsAngle 84 = .ok (.if_icmp .le 7, 3) := by decide +kernel
theorem dX6_fitsAngle_87 : decode cX6_fitsAngle 87 = .ok (.iconst 1, 1) := by decide +kernel
theorem dX6_fitsAngle_88 : decode cX6_fitsAngle 88 = .ok (.goto 4, 3) := by decide +kernel
theorem dX6_fitsAngle_91 : decode cX6_fitsAngle 91 = .ok (.iconst 0, 1) := by decide +kernel
theorem dX6_fitsAngle_92 : decode cX6_fitsAngle 92 = .ok (.ireturn, 1) := by decide +kernel
theorem dX6_isNewDoor_0 : decode cX6_isNewDoor 0 = .ok (.iload_n 1, 1) := by decide +kernel
theorem dX6_isNewDoor_1 : decode cX6_isNewDoor 1 = .ok (.i2l, 1) := by decide +kernel
theorem dX6_isNewDoor_2 : decode cX6_isNewDoor 2 = .ok (.lconst 0, 1) := by decide +kernel
theorem dX6_isNewDoor_3 : decode cX6_isNewDoor 3 = .ok (.ldc2_w 114, 3) := by decide +kernel
theorem dX6_isNewDoor_6 : decode cX6_isNewDoor 6 = .ok (.invokestatic 60, 3) := by decide +kernel
theorem dX6_isNewDoor_9 : decode cX6_isNewDoor 9 = .ok (.ifCond .eq 15, 3) := by decide +kernel
theorem dX6_isNewDoor_12 : decode cX6_isNewDoor 12 = .ok (.aload_n 0, 1) := by decide +kernel
theorem dX6_isNewDoor_13 : decode cX6_isNewDoor 13 = .ok (.getfield 116, 3) := by decide +kernel
theorem dX6_isNewDoor_16 : decode cX6_isNewDoor 16 = .ok (.iconst 3, 1) := by decide +kernel
theorem dX6_isNewDoor_17 : decode cX6_isNewDoor 17 = .ok (.if_icmp .ge 7, 3) := by decide +kernel
theorem dX6_isNewDoor_20 : decode cX6_isNewDoor 20 = .ok (.iconst 1, 1) := by decide +kernel
theorem dX6_isNewDoor_21 : decode cX6_isNewDoor 21 = .ok (.goto 4, 3) := by decide +kernel
theorem dX6_isNewDoor_24 : decode cX6_isNewDoor 24 = .ok (.iconst 0, 1) := by decide +kernel
theorem dX6_isNewDoor_25 : decode cX6_isNewDoor 25 = .ok (.istore_n 2, 1) := by decide +kernel
theorem dX6_isNewDoor_26 : decode cX6_isNewDoor 26 = .ok (.iconst 0, 1) := by decide +kernel
theorem dX6_isNewDoor_27 : decode cX6_isNewDoor 27 = .ok (.istore_n 3, 1) := by decide +kernel
theorem dX6_isNewDoor_28 : decode cX6_isNewDoor 28 = .ok (.iload_n 3, 1) := by decide +kernel
theorem dX6_isNewDoor_29 : decode cX6_isNewDoor 29 = .ok (.aload_n 0, 1) := by decide +kernel
theorem dX6_isNewDoor_30 : decode cX6_isNewDoor 30 = .ok (.getfield 116, 3) := by decide +kernel
theorem dX6_isNewDoor_33 : decode cX6_isNewDoor 33 = .ok (.if_icmp .ge 29, 3) := by decide +kernel
theorem dX6_isNewDoor_36 : decode cX6_isNewDoor 36 = .ok (.iload_n 2, 1) := by decide +kernel
theorem dX6_isNewDoor_37 : decode cX6_isNewDoor 37 = .ok (.ifCond .eq 17, 3) := by decide +kernel
theorem dX6_isNewDoor_40 : decode cX6_isNewDoor 40 = .ok (.aload_n 0, 1) := by decide +kernel
theorem dX6_isNewDoor_41 : decode cX6_isNewDoor 41 = .ok (.getfield 42, 3) := by decide +kernel
theorem dX6_isNewDoor_44 : decode cX6_isNewDoor 44 = .ok (.iload_n 3, 1) := by decide +kernel
theorem dX6_isNewDoor_45 : decode cX6_isNewDoor 45 = .ok (.iaload, 1) := by decide +kernel
theorem dX6_isNewDoor_46 : decode cX6_isNewDoor 46 = .ok (.iload_n 1, 1) := by decide +kernel
theorem dX6_isNewDoor_47 : decode cX6_isNewDoor 47 = .ok (.if_icmp .eq 7, 3) := by decide +kernel
theorem dX6_isNewDoor_50 : decode cX6_isNewDoor 50 = .ok (.iconst 1, 1) := by decide +kernel
theorem dX6_isNewDoor_51 : decode cX6_isNewDoor 51 = .ok (.goto 4, 3) := by decide +kernel
theorem dX6_isNewDoor_54 : decode cX6_isNewDoor 54 = .ok (.iconst 0, 1) := by decide +kernel
theorem dX6_isNewDoor_55 : decode cX6_isNewDoor 55 = .ok (.istore_n 2, 1) := by decide +kernel
theorem dX6_isNewDoor_56 : decode cX6_isNewDoor 56 = .ok (.iinc 3 1, 3) := by decide +kernel
theorem dX6_isNewDoor_59 : decode cX6_isNewDoor 59 = .ok (.goto (-31), 3) := by decide +kernel
theorem dX6_isNewDoor_62 : decode cX6_isNewDoor 62 = .ok (.iload_n 2, 1) := by decide +kernel
theorem dX6_isNewDoor_63 : decode cX6_isNewDoor 63 = .ok (.ireturn, 1) := by decide +kernel
theorem dX6_readsLeaf_0 : decode cX6_readsLeaf 0 = .ok (.aload_n 0, 1) := by decide +kernel
theorem dX6_readsLeaf_1 : decode cX6_readsLeaf 1 = .ok (.iconst 0, 1) := by decide +kernel
theorem dX6_readsLeaf_2 : decode cX6_readsLeaf 2 = .ok (.iconst 0, 1) := by decide +kernel
theorem dX6_readsLeaf_3 : decode cX6_readsLeaf 3 = .ok (.aload_n 0, 1) := by decide +kernel
theorem dX6_readsLeaf_4 : decode cX6_readsLeaf 4 = .ok (.getfield 108, 3) := by decide +kernel
theorem dX6_readsLeaf_7 : decode cX6_readsLeaf 7 = .ok (.iconst 1, 1) := by decide +kernel
theorem dX6_readsLeaf_8 : decode cX6_readsLeaf 8 = .ok (.isub, 1) := by decide +kernel
theorem dX6_readsLeaf_9 : decode cX6_readsLeaf 9 = .ok (.invokevirtual 119, 3) := by decide +kernel
theorem dX6_readsLeaf_12 : decode cX6_readsLeaf 12 = .ok (.ifCond .ne 5, 3) := by decide +kernel
theorem dX6_readsLeaf_15 : decode cX6_readsLeaf 15 = .ok (.iconst 0, 1) := by decide +kernel
theorem dX6_readsLeaf_16 : decode cX6_readsLeaf 16 = .ok (.ireturn, 1) := by decide +kernel
theorem dX6_readsLeaf_17 : decode cX6_readsLeaf 17 = .ok (.aload_n 0, 1) := by decide +kernel
theorem dX6_readsLeaf_18 : decode cX6_readsLeaf 18 = .ok (.getfield 20, 3) := by decide +kernel
theorem dX6_readsLeaf_21 : decode cX6_readsLeaf 21 = .ok (.iconst 3, 1) := by decide +kernel
theorem dX6_readsLeaf_22 : decode cX6_readsLeaf 22 = .ok (.aload_n 0, 1) := by decide +kernel
theorem dX6_readsLeaf_23 : decode cX6_readsLeaf 23 = .ok (.getfield 102, 3) := by decide +kernel
theorem dX6_readsLeaf_26 : decode cX6_readsLeaf 26 = .ok (.imul, 1) := by decide +kernel
theorem dX6_readsLeaf_27 : decode cX6_readsLeaf 27 = .ok (.iconst 1, 1) := by decide +kernel
theorem dX6_readsLeaf_28 : decode cX6_readsLeaf 28 = .ok (.iadd, 1) := by decide +kernel
theorem dX6_readsLeaf_29 : decode cX6_readsLeaf 29 = .ok (.iaload, 1) := by decide +kernel
theorem dX6_readsLeaf_30 : decode cX6_readsLeaf 30 = .ok (.istore_n 1, 1) := by decide +kernel
theorem dX6_readsLeaf_31 : decode cX6_readsLeaf 31 = .ok (.aload_n 0, 1) := by decide +kernel
theorem dX6_readsLeaf_32 : decode cX6_readsLeaf 32 = .ok (.invokevirtual 99, 3) := by decide +kernel
theorem dX6_readsLeaf_35 : decode cX6_readsLeaf 35 = .ok (.istore_n 2, 1) := by decide +kernel
theorem dX6_readsLeaf_36 : decode cX6_readsLeaf 36 = .ok (.iload_n 2, 1) := by decide +kernel
theorem dX6_readsLeaf_37 : decode cX6_readsLeaf 37 = .ok (.i2l, 1) := by decide +kernel
theorem dX6_readsLeaf_38 : decode cX6_readsLeaf 38 = .ok (.lconst 0, 1) := by decide +kernel
theorem dX6_readsLeaf_39 : decode cX6_readsLeaf 39 = .ok (.ldc2_w 114, 3) := by decide +kernel
theorem dX6_readsLeaf_42 : decode cX6_readsLeaf 42 = .ok (.invokestatic 60, 3) := by decide +kernel
theorem dX6_readsLeaf_45 : decode cX6_readsLeaf 45 = .ok (.ifCond .eq 27, 3) := by decide +kernel
theorem dX6_readsLeaf_48 : decode cX6_readsLeaf 48 = .ok (.aload_n 0, 1) := by decide +kernel
theorem dX6_readsLeaf_49 : decode cX6_readsLeaf 49 = .ok (.iload_n 1, 1) := by decide +kernel
theorem dX6_readsLeaf_50 : decode cX6_readsLeaf 50 = .ok (.iload_n 2, 1) := by decide +kernel
theorem dX6_readsLeaf_51 : decode cX6_readsLeaf 51 = .ok (.invokevirtual 123, 3) := by decide +kernel
theorem dX6_readsLeaf_54 : decode cX6_readsLeaf 54 = .ok (.ifCond .eq 18, 3) := by decide +kernel
theorem dX6_readsLeaf_57 : decode cX6_readsLeaf 57 = .ok (.aload_n 0, 1) := by decide +kernel
theorem dX6_readsLeaf_58 : decode cX6_readsLeaf 58 = .ok (.iconst 1, 1) := by decide +kernel
theorem dX6_readsLeaf_59 : decode cX6_readsLeaf 59 = .ok (.iconst 0, 1) := by decide +kernel
theorem dX6_readsLeaf_60 : decode cX6_readsLeaf 60 = .ok (.bipush 71, 2) := by decide +kernel
theorem dX6_readsLeaf_62 : decode cX6_readsLeaf 62 = .ok (.invokevirtual 119, 3) := by decide +kernel
theorem dX6_readsLeaf_65 : decode cX6_readsLeaf 65 = .ok (.ifCond .eq 7, 3) := by decide +kernel
theorem dX6_readsLeaf_68 : decode cX6_readsLeaf 68 = .ok (.iconst 1, 1) := by decide +kernel
theorem dX6_readsLeaf_69 : decode cX6_readsLeaf 69 = .ok (.goto 4, 3) := by decide +kernel
theorem dX6_readsLeaf_72 : decode cX6_readsLeaf 72 = .ok (.iconst 0, 1) := by decide +kernel
theorem dX6_readsLeaf_73 : decode cX6_readsLeaf 73 = .ok (.ireturn, 1) := by decide +kernel
theorem dX6_readsPut_0 : decode cX6_readsPut 0 = .ok (.aload_n 0, 1) := by decide +kernel
theorem dX6_readsPut_1 : decode cX6_readsPut 1 = .ok (.iconst 0, 1) := by decide +kernel
theorem dX6_readsPut_2 : decode cX6_readsPut 2 = .ok (.iconst 0, 1) := by decide +kernel
theorem dX6_readsPut_3 : decode cX6_readsPut 3 = .ok (.aload_n 0, 1) := by decide +kernel
theorem dX6_readsPut_4 : decode cX6_readsPut 4 = .ok (.getfield 108, 3) := by decide +kernel
theorem dX6_readsPut_7 : decode cX6_readsPut 7 = .ok (.iconst 1, 1) := by decide +kernel
theorem dX6_readsPut_8 : decode cX6_readsPut 8 = .ok (.isub, 1) := by decide +kernel
theorem dX6_readsPut_9 : decode cX6_readsPut 9 = .ok (.invokevirtual 119, 3) := by decide +kernel
theorem dX6_readsPut_12 : decode cX6_readsPut 12 = .ok (.ifCond .ne 5, 3) := by decide +kernel
theorem dX6_readsPut_15 : decode cX6_readsPut 15 = .ok (.iconst 0, 1) := by decide +kernel
theorem dX6_readsPut_16 : decode cX6_readsPut 16 = .ok (.ireturn, 1) := by decide +kernel
theorem dX6_readsPut_17 : decode cX6_readsPut 17 = .ok (.aload_n 0, 1) := by decide +kernel
theorem dX6_readsPut_18 : decode cX6_readsPut 18 = .ok (.getfield 20, 3) := by decide +kernel
theorem dX6_readsPut_21 : decode cX6_readsPut 21 = .ok (.iconst 3, 1) := by decide +kernel
theorem dX6_readsPut_22 : decode cX6_readsPut 22 = .ok (.aload_n 0, 1) := by decide +kernel
theorem dX6_readsPut_23 : decode cX6_readsPut 23 = .ok (.getfield 102, 3) := by decide +kernel
theorem dX6_readsPut_26 : decode cX6_readsPut 26 = .ok (.imul, 1) := by decide +kernel
theorem dX6_readsPut_27 : decode cX6_readsPut 27 = .ok (.iconst 1, 1) := by decide +kernel
theorem dX6_readsPut_28 : decode cX6_readsPut 28 = .ok (.iadd, 1) := by decide +kernel
theorem dX6_readsPut_29 : decode cX6_readsPut 29 = .ok (.iaload, 1) := by decide +kernel
theorem dX6_readsPut_30 : decode cX6_readsPut 30 = .ok (.istore_n 1, 1) := by decide +kernel
theorem dX6_readsPut_31 : decode cX6_readsPut 31 = .ok (.aload_n 0, 1) := by decide +kernel
theorem dX6_readsPut_32 : decode cX6_readsPut 32 = .ok (.getfield 36, 3) := by decide +kernel
theorem dX6_readsPut_35 : decode cX6_readsPut 35 = .ok (.iload_n 1, 1) := by decide +kernel
theorem dX6_readsPut_36 : decode cX6_readsPut 36 = .ok (.iaload, 1) := by decide +kernel
theorem dX6_readsPut_37 : decode cX6_readsPut 37 = .ok (.aload_n 0, 1) := by decide +kernel
theorem dX6_readsPut_38 : decode cX6_readsPut 38 = .ok (.getfield 36, 3) := by decide +kernel
theorem dX6_readsPut_41 : decode cX6_readsPut 41 = .ok (.aload_n 0, 1) := by decide +kernel
theorem dX6_readsPut_42 : decode cX6_readsPut 42 = .ok (.iload_n 1, 1) := by decide +kernel
theorem dX6_readsPut_43 : decode cX6_readsPut 43 = .ok (.invokevirtual 111, 3) := by decide +kernel
theorem dX6_readsPut_46 : decode cX6_readsPut 46 = .ok (.iaload, 1) := by decide +kernel
theorem dX6_readsPut_47 : decode cX6_readsPut 47 = .ok (.invokestatic 54, 3) := by decide +kernel
theorem dX6_readsPut_50 : decode cX6_readsPut 50 = .ok (.istore_n 2, 1) := by decide +kernel
theorem dX6_readsPut_51 : decode cX6_readsPut 51 = .ok (.aload_n 0, 1) := by decide +kernel
theorem dX6_readsPut_52 : decode cX6_readsPut 52 = .ok (.iconst 1, 1) := by decide +kernel
theorem dX6_readsPut_53 : decode cX6_readsPut 53 = .ok (.iconst 0, 1) := by decide +kernel
theorem dX6_readsPut_54 : decode cX6_readsPut 54 = .ok (.iload_n 2, 1) := by decide +kernel
theorem dX6_readsPut_55 : decode cX6_readsPut 55 = .ok (.iconst 1, 1) := by decide +kernel
theorem dX6_readsPut_56 : decode cX6_readsPut 56 = .ok (.isub, 1) := by decide +kernel
theorem dX6_readsPut_57 : decode cX6_readsPut 57 = .ok (.bipush 20, 2) := by decide +kernel
theorem dX6_readsPut_59 : decode cX6_readsPut 59 = .ok (.if_icmp .ge 9, 3) := by decide +kernel
theorem dX6_readsPut_62 : decode cX6_readsPut 62 = .ok (.iload_n 2, 1) := by decide +kernel
theorem dX6_readsPut_63 : decode cX6_readsPut 63 = .ok (.iconst 1, 1) := by decide +kernel
theorem dX6_readsPut_64 : decode cX6_readsPut 64 = .ok (.isub, 1) := by decide +kernel
theorem dX6_readsPut_65 : decode cX6_readsPut 65 = .ok (.goto 5, 3) := by decide +kernel
theorem dX6_readsPut_68 : decode cX6_readsPut 68 = .ok (.bipush 20, 2) := by decide +kernel
theorem dX6_readsPut_70 : decode cX6_readsPut 70 = .ok (.invokevirtual 119, 3) := by decide +kernel
theorem dX6_readsPut_73 : decode cX6_readsPut 73 = .ok (.ireturn, 1) := by decide +kernel
theorem dX6_readsRest_0 : decode cX6_readsRest 0 = .ok (.iload_n 1, 1) := by decide +kernel
theorem dX6_readsRest_1 : decode cX6_readsRest 1 = .ok (.tableswitch 104 0 9 #[55, 64, 104, 104, 104, 104, 69, 74, 104, 102], 55) := by decide +kernel
theorem dX6_readsRest_56 : decode cX6_readsRest 56 = .ok (.aload_n 0, 1) := by decide +kernel
theorem dX6_readsRest_57 : decode cX6_readsRest 57 = .ok (.iconst 0, 1) := by decide +kernel
theorem dX6_readsRest_58 : decode cX6_readsRest 58 = .ok (.iconst 3, 1) := by decide +kernel
theorem dX6_readsRest_59 : decode cX6_readsRest 59 = .ok (.bipush 8, 2) := by decide +kernel
theorem dX6_readsRest_61 : decode cX6_readsRest 61 = .ok (.invokevirtual 119, 3) := by decide +kernel
theorem dX6_readsRest_64 : decode cX6_readsRest 64 = .ok (.ireturn, 1) := by decide +kernel
theorem dX6_readsRest_65 : decode cX6_readsRest 65 = .ok (.aload_n 0, 1) := by decide +kernel
theorem dX6_readsRest_66 : decode cX6_readsRest 66 = .ok (.invokevirtual 126, 3) := by decide +kernel
theorem dX6_readsRest_69 : decode cX6_readsRest 69 = .ok (.ireturn, 1) := by decide +kernel
theorem dX6_readsRest_70 : decode cX6_readsRest 70 = .ok (.aload_n 0, 1) := by decide +kernel
theorem dX6_readsRest_71 : decode cX6_readsRest 71 = .ok (.invokevirtual 130, 3) := by decide +kernel
theorem dX6_readsRest_74 : decode cX6_readsRest 74 = .ok (.ireturn, 1) := by decide +kernel
theorem dX6_readsRest_75 : decode cX6_readsRest 75 = .ok (.aload_n 0, 1) := by decide +kernel
theorem dX6_readsRest_76 : decode cX6_readsRest 76 = .ok (.aload_n 0, 1) := by decide +kernel
theorem dX6_readsRest_77 : decode cX6_readsRest 77 = .ok (.invokevirtual 99, 3) := by decide +kernel
theorem dX6_readsRest_80 : decode cX6_readsRest 80 = .ok (.invokevirtual 133, 3) := by decide +kernel
theorem dX6_readsRest_83 : decode cX6_readsRest 83 = .ok (.ifCond .eq 18, 3) := by decide +kernel
theorem dX6_readsRest_86 : decode cX6_readsRest 86 = .ok (.aload_n 0, 1) := by decide +kernel
theorem dX6_readsRest_87 : decode cX6_readsRest 87 = .ok (.iconst 0, 1) := by decide +kernel
theorem dX6_readsRest_88 : decode cX6_readsRest 88 = .ok (.iconst 0, 1) := by decide +kernel
theorem dX6_readsRest_89 : decode cX6_readsRest 89 = .ok (.bipush 71, 2) := by decide +kernel
theorem dX6_readsRest_91 : decode cX6_readsRest 91 = .ok (.invokevirtual 119, 3) := by decide +kernel
theorem dX6_readsRest_94 : decode cX6_readsRest 94 = .ok (.ifCond .eq 7, 3) := by decide +kernel
theorem dX6_readsRest_97 : decode cX6_readsRest 97 = .ok (.iconst 1, 1) := by decide +kernel
theorem dX6_readsRest_98 : decode cX6_readsRest 98 = .ok (.goto 4, 3) := by decide +kernel
theorem dX6_readsRest_101 : decode cX6_readsRest 101 = .ok (.iconst 0, 1) := by decide +kernel
theorem dX6_readsRest_102 : decode cX6_readsRest 102 = .ok (.ireturn, 1) := by decide +kernel
theorem dX6_readsRest_103 : decode cX6_readsRest 103 = .ok (.iconst 1, 1) := by decide +kernel
theorem dX6_readsRest_104 : decode cX6_readsRest 104 = .ok (.ireturn, 1) := by decide +kernel
theorem dX6_readsRest_105 : decode cX6_readsRest 105 = .ok (.aload_n 0, 1) := by decide +kernel
theorem dX6_readsRest_106 : decode cX6_readsRest 106 = .ok (.iconst 0, 1) := by decide +kernel
theorem dX6_readsRest_107 : decode cX6_readsRest 107 = .ok (.iconst 0, 1) := by decide +kernel
theorem dX6_readsRest_108 : decode cX6_readsRest 108 = .ok (.aload_n 0, 1) := by decide +kernel
theorem dX6_readsRest_109 : decode cX6_readsRest 109 = .ok (.getfield 108, 3) := by decide +kernel
theorem dX6_readsRest_112 : decode cX6_readsRest 112 = .ok (.iconst 1, 1) := by decide +kernel
theorem dX6_readsRest_113 : decode cX6_readsRest 113 = .ok (.isub, 1) := by decide +kernel
theorem dX6_readsRest_114 : decode cX6_readsRest 114 = .ok (.invokevirtual 119, 3) := by decide +kernel
theorem dX6_readsRest_117 : decode cX6_readsRest 117 = .ok (.ireturn, 1) := by decide +kernel
theorem dX6_goOn_0 : decode cX6_goOn 0 = .ok (.iload_n 1, 1) := by decide +kernel
theorem dX6_goOn_1 : decode cX6_goOn 1 = .ok (.ifCond .ne 51, 3) := by decide +kernel
theorem dX6_goOn_4 : decode cX6_goOn 4 = .ok (.aload_n 0, 1) := by decide +kernel
theorem dX6_goOn_5 : decode cX6_goOn 5 = .ok (.iload_n 2, 1) := by decide +kernel
theorem dX6_goOn_6 : decode cX6_goOn 6 = .ok (.putfield 108, 3) := by decide +kernel
theorem dX6_goOn_9 : decode cX6_goOn 9 = .ok (.aload_n 0, 1) := by decide +kernel
theorem dX6_goOn_10 : decode cX6_goOn 10 = .ok (.iconst 0, 1) := by decide +kernel
theorem dX6_goOn_11 : decode cX6_goOn 11 = .ok (.putfield 116, 3) := by decide +kernel
theorem dX6_goOn_14 : decode cX6_goOn 14 = .ok (.iconst 0, 1) := by decide +kernel
theorem dX6_goOn_15 : decode cX6_goOn 15 = .ok (.istore 4, 2) := by decide +kernel
theorem dX6_goOn_17 : decode cX6_goOn 17 = .ok (.iload 4, 2) := by decide +kernel
theorem dX6_goOn_19 : decode cX6_goOn 19 = .ok (.bipush 8, 2) := by decide +kernel
theorem dX6_goOn_21 : decode cX6_goOn 21 = .ok (.if_icmp .ge 31, 3) := by decide +kernel
theorem dX6_goOn_24 : decode cX6_goOn 24 = .ok (.aload_n 0, 1) := by decide +kernel
theorem dX6_goOn_25 : decode cX6_goOn 25 = .ok (.getfield 36, 3) := by decide +kernel
theorem dX6_goOn_28 : decode cX6_goOn 28 = .ok (.iload 4, 2) := by decide +kernel
theorem dX6_goOn_30 : decode cX6_goOn 30 = .ok (.bipush 72, 2) := by decide +kernel
theorem dX6_goOn_32 : decode cX6_goOn 32 = .ok (.iload 4, 2) := by decide +kernel
theorem dX6_goOn_34 : decode cX6_goOn 34 = .ok (.imul, 1) := by decide +kernel
theorem dX6_goOn_35 : decode cX6_goOn 35 = .ok (.iload_n 2, 1) := by decide +kernel
theorem dX6_goOn_36 : decode cX6_goOn 36 = .ok (.idiv, 1) := by decide +kernel
theorem dX6_goOn_37 : decode cX6_goOn 37 = .ok (.iastore, 1) := by decide +kernel
theorem dX6_goOn_38 : decode cX6_goOn 38 = .ok (.aload_n 0, 1) := by decide +kernel
theorem dX6_goOn_39 : decode cX6_goOn 39 = .ok (.getfield 39, 3) := by decide +kernel
theorem dX6_goOn_42 : decode cX6_goOn 42 = .ok (.iload 4, 2) := by decide +kernel
theorem dX6_goOn_44 : decode cX6_goOn 44 = .ok (.iconst 0, 1) := by decide +kernel
theorem dX6_goOn_45 : decode cX6_goOn 45 = .ok (.iastore, 1) := by decide +kernel
theorem dX6_goOn_46 : decode cX6_goOn 46 = .ok (.iinc 4 1, 3) := by decide +kernel
theorem dX6_goOn_49 : decode cX6_goOn 49 = .ok (.goto (-32), 3) := by decide +kernel
theorem dX6_goOn_52 : decode cX6_goOn 52 = .ok (.iload_n 1, 1) := by decide +kernel
theorem dX6_goOn_53 : decode cX6_goOn 53 = .ok (.iconst 1, 1) := by decide +kernel
theorem dX6_goOn_54 : decode cX6_goOn 54 = .ok (.if_icmp .ne 10, 3) := by decide +kernel
theorem dX6_goOn_57 : decode cX6_goOn 57 = .ok (.aload_n 0, 1) := by decide +kernel
theorem dX6_goOn_58 : decode cX6_goOn 58 = .ok (.getfield 36, 3) := by decide +kernel
theorem dX6_goOn_61 : decode cX6_goOn 61 = .ok (.iload_n 2, 1) := by decide +kernel
theorem dX6_goOn_62 : decode cX6_goOn 62 = .ok (.iload_n 3, 1) := by decide +kernel
theorem dX6_goOn_63 : decode cX6_goOn 63 = .ok (.iastore, 1) := by decide +kernel
theorem dX6_goOn_64 : decode cX6_goOn 64 = .ok (.iload_n 1, 1) := by decide +kernel
theorem dX6_goOn_65 : decode cX6_goOn 65 = .ok (.bipush 6, 2) := by decide +kernel
theorem dX6_goOn_67 : decode cX6_goOn 67 = .ok (.if_icmp .ne 10, 3) := by decide +kernel
theorem dX6_goOn_70 : decode cX6_goOn 70 = .ok (.aload_n 0, 1) := by decide +kernel
theorem dX6_goOn_71 : decode cX6_goOn 71 = .ok (.getfield 39, 3) := by decide +kernel
theorem dX6_goOn_74 : decode cX6_goOn 74 = .ok (.iload_n 2, 1) := by decide +kernel
theorem dX6_goOn_75 : decode cX6_goOn 75 = .ok (.iload_n 3, 1) := by decide +kernel
theorem dX6_goOn_76 : decode cX6_goOn 76 = .ok (.iastore, 1) := by decide +kernel
theorem dX6_goOn_77 : decode cX6_goOn 77 = .ok (.iload_n 1, 1) := by decide +kernel
theorem dX6_goOn_78 : decode cX6_goOn 78 = .ok (.bipush 7, 2) := by decide +kernel
theorem dX6_goOn_80 : decode cX6_goOn 80 = .ok (.if_icmp .ne 23, 3) := by decide +kernel
theorem dX6_goOn_83 : decode cX6_goOn 83 = .ok (.aload_n 0, 1) := by decide +kernel
theorem dX6_goOn_84 : decode cX6_goOn 84 = .ok (.getfield 42, 3) := by decide +kernel
theorem dX6_goOn_87 : decode cX6_goOn 87 = .ok (.aload_n 0, 1) := by decide +kernel
theorem dX6_goOn_88 : decode cX6_goOn 88 = .ok (.getfield 116, 3) := by decide +kernel
theorem dX6_goOn_91 : decode cX6_goOn 91 = .ok (.iload_n 2, 1) := by decide +kernel
theorem dX6_goOn_92 : decode cX6_goOn 92 = .ok (.iastore, 1) := by decide +kernel
theorem dX6_goOn_93 : decode cX6_goOn 93 = .ok (.aload_n 0, 1) := by decide +kernel
theorem dX6_goOn_94 : decode cX6_goOn 94 = .ok (.dup, 1) := by decide +kernel
theorem dX6_goOn_95 : decode cX6_goOn 95 = .ok (.getfield 116, 3) := by decide +kernel
theorem dX6_goOn_98 : decode cX6_goOn 98 = .ok (.iconst 1, 1) := by decide +kernel
theorem dX6_goOn_99 : decode cX6_goOn 99 = .ok (.iadd, 1) := by decide +kernel
theorem dX6_goOn_100 : decode cX6_goOn 100 = .ok (.putfield 116, 3) := by decide +kernel
theorem dX6_goOn_103 : decode cX6_goOn 103 = .ok (.aload_n 0, 1) := by decide +kernel
theorem dX6_goOn_104 : decode cX6_goOn 104 = .ok (.iload_n 1, 1) := by decide +kernel
theorem dX6_goOn_105 : decode cX6_goOn 105 = .ok (.ifCond .eq 9, 3) := by decide +kernel
theorem dX6_goOn_108 : decode cX6_goOn 108 = .ok (.iload_n 1, 1) := by decide +kernel
theorem dX6_goOn_109 : decode cX6_goOn 109 = .ok (.bipush 9, 2) := by decide +kernel
theorem dX6_goOn_111 : decode cX6_goOn 111 = .ok (.if_icmp .ne 7, 3) := by decide +kernel
theorem dX6_goOn_114 : decode cX6_goOn 114 = .ok (.iconst 0, 1) := by decide +kernel
theorem dX6_goOn_115 : decode cX6_goOn 115 = .ok (.goto 22, 3) := by decide +kernel
theorem dX6_goOn_118 : decode cX6_goOn 118 = .ok (.iload_n 1, 1) := by decide +kernel
theorem dX6_goOn_119 : decode cX6_goOn 119 = .ok (.bipush 8, 2) := by decide +kernel
theorem dX6_goOn_121 : decode cX6_goOn 121 = .ok (.if_icmp .ne 12, 3) := by decide +kernel
theorem dX6_goOn_124 : decode cX6_goOn 124 = .ok (.aload_n 0, 1) := by decide +kernel
theorem dX6_goOn_125 : decode cX6_goOn 125 = .ok (.getfield 137, 3) := by decide +kernel
theorem dX6_goOn_128 : decode cX6_goOn 128 = .ok (.iconst 1, 1) := by decide +kernel
theorem dX6_goOn_129 : decode cX6_goOn 129 = .ok (.iadd, 1) := by decide +kernel
theorem dX6_goOn_130 : decode cX6_goOn 130 = .ok (.goto 7, 3) := by decide +kernel
theorem dX6_goOn_133 : decode cX6_goOn 133 = .ok (.aload_n 0, 1) := by decide +kernel
theorem dX6_goOn_134 : decode cX6_goOn 134 = .ok (.getfield 137, 3) := by decide +kernel
theorem dX6_goOn_137 : decode cX6_goOn 137 = .ok (.putfield 137, 3) := by decide +kernel
theorem dX6_goOn_140 : decode cX6_goOn 140 = .ok (.return_, 1) := by decide +kernel
theorem dX6_readsLine_0 : decode cX6_readsLine 0 = .ok (.aload_n 0, 1) := by decide +kernel
theorem dX6_readsLine_1 : decode cX6_readsLine 1 = .ok (.invokevirtual 140, 3) := by decide +kernel
theorem dX6_readsLine_4 : decode cX6_readsLine 4 = .ok (.istore_n 1, 1) := by decide +kernel
theorem dX6_readsLine_5 : decode cX6_readsLine 5 = .ok (.iload_n 1, 1) := by decide +kernel
theorem dX6_readsLine_6 : decode cX6_readsLine 6 = .ok (.iconst (-1), 1) := by decide +kernel
theorem dX6_readsLine_7 : decode cX6_readsLine 7 = .ok (.if_icmp .eq 17, 3) := by decide +kernel
theorem dX6_readsLine_10 : decode cX6_readsLine 10 = .ok (.iload_n 1, 1) := by decide +kernel
theorem dX6_readsLine_11 : decode cX6_readsLine 11 = .ok (.bipush 8, 2) := by decide +kernel
theorem dX6_readsLine_13 : decode cX6_readsLine 13 = .ok (.if_icmp .ne 13, 3) := by decide +kernel
theorem dX6_readsLine_16 : decode cX6_readsLine 16 = .ok (.aload_n 0, 1) := by decide +kernel
theorem dX6_readsLine_17 : decode cX6_readsLine 17 = .ok (.getfield 137, 3) := by decide +kernel
theorem dX6_readsLine_20 : decode cX6_readsLine 20 = .ok (.iconst 5, 1) := by decide +kernel
theorem dX6_readsLine_21 : decode cX6_readsLine 21 = .ok (.if_icmp .ne 5, 3) := by decide +kernel
theorem dX6_readsLine_24 : decode cX6_readsLine 24 = .ok (.iconst 0, 1) := by decide +kernel
theorem dX6_readsLine_25 : decode cX6_readsLine 25 = .ok (.ireturn, 1) := by decide +kernel
theorem dX6_readsLine_26 : decode cX6_readsLine 26 = .ok (.aload_n 0, 1) := by decide +kernel
theorem dX6_readsLine_27 : decode cX6_readsLine 27 = .ok (.invokevirtual 105, 3) := by decide +kernel
theorem dX6_readsLine_30 : decode cX6_readsLine 30 = .ok (.aload_n 0, 1) := by decide +kernel
theorem dX6_readsLine_31 : decode cX6_readsLine 31 = .ok (.getfield 20, 3) := by decide +kernel
theorem dX6_readsLine_34 : decode cX6_readsLine 34 = .ok (.iconst 3, 1) := by decide +kernel
theorem dX6_readsLine_35 : decode cX6_readsLine 35 = .ok (.aload_n 0, 1) := by decide +kernel
theorem dX6_readsLine_36 : decode cX6_readsLine 36 = .ok (.getfield 102, 3) := by decide +kernel
theorem dX6_readsLine_39 : decode cX6_readsLine 39 = .ok (.imul, 1) := by decide +kernel
theorem dX6_readsLine_40 : decode cX6_readsLine 40 = .ok (.iload_n 1, 1) := by decide +kernel
theorem dX6_readsLine_41 : decode cX6_readsLine 41 = .ok (.iastore, 1) := by decide +kernel
theorem dX6_readsLine_42 : decode cX6_readsLine 42 = .ok (.aload_n 0, 1) := by decide +kernel
theorem dX6_readsLine_43 : decode cX6_readsLine 43 = .ok (.iload_n 1, 1) := by decide +kernel
theorem dX6_readsLine_44 : decode cX6_readsLine 44 = .ok (.invokevirtual 143, 3) := by decide +kernel
theorem dX6_readsLine_47 : decode cX6_readsLine 47 = .ok (.ifCond .ne 5, 3) := by decide +kernel
theorem dX6_readsLine_50 : decode cX6_readsLine 50 = .ok (.iconst 0, 1) := by decide +kernel
theorem dX6_readsLine_51 : decode cX6_readsLine 51 = .ok (.ireturn, 1) := by decide +kernel
theorem dX6_readsLine_52 : decode cX6_readsLine 52 = .ok (.aload_n 0, 1) := by decide +kernel
theorem dX6_readsLine_53 : decode cX6_readsLine 53 = .ok (.iload_n 1, 1) := by decide +kernel
theorem dX6_readsLine_54 : decode cX6_readsLine 54 = .ok (.aload_n 0, 1) := by decide +kernel
theorem dX6_readsLine_55 : decode cX6_readsLine 55 = .ok (.getfield 20, 3) := by decide +kernel
theorem dX6_readsLine_58 : decode cX6_readsLine 58 = .ok (.iconst 3, 1) := by decide +kernel
theorem dX6_readsLine_59 : decode cX6_readsLine 59 = .ok (.aload_n 0, 1) := by decide +kernel
theorem dX6_readsLine_60 : decode cX6_readsLine 60 = .ok (.getfield 102, 3) := by decide +kernel
theorem dX6_readsLine_63 : decode cX6_readsLine 63 = .ok (.imul, 1) := by decide +kernel
theorem dX6_readsLine_64 : decode cX6_readsLine 64 = .ok (.iconst 1, 1) := by decide +kernel
theorem dX6_readsLine_65 : decode cX6_readsLine 65 = .ok (.iadd, 1) := by decide +kernel
theorem dX6_readsLine_66 : decode cX6_readsLine 66 = .ok (.iaload, 1) := by decide +kernel
theorem dX6_readsLine_67 : decode cX6_readsLine 67 = .ok (.aload_n 0, 1) := by decide +kernel
theorem dX6_readsLine_68 : decode cX6_readsLine 68 = .ok (.getfield 20, 3) := by decide +kernel
theorem dX6_readsLine_71 : decode cX6_readsLine 71 = .ok (.iconst 3, 1) := by decide +kernel
theorem dX6_readsLine_72 : decode cX6_readsLine 72 = .ok (.aload_n 0, 1) := by decide +kernel
theorem dX6_readsLine_73 : decode cX6_readsLine 73 = .ok (.getfield 102, 3) := by decide +kernel
theorem dX6_readsLine_76 : decode cX6_readsLine 76 = .ok (.imul, 1) := by decide +kernel
theorem dX6_readsLine_77 : decode cX6_readsLine 77 = .ok (.iconst 2, 1) := by decide +kernel
theorem dX6_readsLine_78 : decode cX6_readsLine 78 = .ok (.iadd, 1) := by decide +kernel
theorem dX6_readsLine_79 : decode cX6_readsLine 79 = .ok (.iaload, 1) := by decide +kernel
theorem dX6_readsLine_80 : decode cX6_readsLine 80 = .ok (.invokevirtual 146, 3) := by decide +kernel
theorem dX6_readsLine_83 : decode cX6_readsLine 83 = .ok (.aload_n 0, 1) := by decide +kernel
theorem dX6_readsLine_84 : decode cX6_readsLine 84 = .ok (.dup, 1) := by decide +kernel
theorem dX6_readsLine_85 : decode cX6_readsLine 85 = .ok (.getfield 102, 3) := by decide +kernel
theorem dX6_readsLine_88 : decode cX6_readsLine 88 = .ok (.iconst 1, 1) := by decide +kernel
theorem dX6_readsLine_89 : decode cX6_readsLine 89 = .ok (.iadd, 1) := by decide +kernel
theorem dX6_readsLine_90 : decode cX6_readsLine 90 = .ok (.putfield 102, 3) := by decide +kernel
theorem dX6_readsLine_93 : decode cX6_readsLine 93 = .ok (.iconst 1, 1) := by decide +kernel
theorem dX6_readsLine_94 : decode cX6_readsLine 94 = .ok (.ireturn, 1) := by decide +kernel
theorem dX6_fault_0 : decode cX6_fault 0 = .ok (.aload_n 0, 1) := by decide +kernel
theorem dX6_fault_1 : decode cX6_fault 1 = .ok (.iconst 0, 1) := by decide +kernel
theorem dX6_fault_2 : decode cX6_fault 2 = .ok (.putfield 69, 3) := by decide +kernel
theorem dX6_fault_5 : decode cX6_fault 5 = .ok (.aload_n 0, 1) := by decide +kernel
theorem dX6_fault_6 : decode cX6_fault 6 = .ok (.iconst 0, 1) := by decide +kernel
theorem dX6_fault_7 : decode cX6_fault 7 = .ok (.putfield 102, 3) := by decide +kernel
theorem dX6_fault_10 : decode cX6_fault 10 = .ok (.aload_n 0, 1) := by decide +kernel
theorem dX6_fault_11 : decode cX6_fault 11 = .ok (.aload_n 0, 1) := by decide +kernel
theorem dX6_fault_12 : decode cX6_fault 12 = .ok (.getfield 23, 3) := by decide +kernel
theorem dX6_fault_15 : decode cX6_fault 15 = .ok (.putfield 108, 3) := by decide +kernel
theorem dX6_fault_18 : decode cX6_fault 18 = .ok (.aload_n 0, 1) := by decide +kernel
theorem dX6_fault_19 : decode cX6_fault 19 = .ok (.aload_n 0, 1) := by decide +kernel
theorem dX6_fault_20 : decode cX6_fault 20 = .ok (.getfield 150, 3) := by decide +kernel
theorem dX6_fault_23 : decode cX6_fault 23 = .ok (.putfield 116, 3) := by decide +kernel
theorem dX6_fault_26 : decode cX6_fault 26 = .ok (.aload_n 0, 1) := by decide +kernel
theorem dX6_fault_27 : decode cX6_fault 27 = .ok (.aload_n 0, 1) := by decide +kernel
theorem dX6_fault_28 : decode cX6_fault 28 = .ok (.getfield 153, 3) := by decide +kernel
theorem dX6_fault_31 : decode cX6_fault 31 = .ok (.putfield 137, 3) := by decide +kernel
theorem dX6_fault_34 : decode cX6_fault 34 = .ok (.iconst 0, 1) := by decide +kernel
theorem dX6_fault_35 : decode cX6_fault 35 = .ok (.istore_n 1, 1) := by decide +kernel
theorem dX6_fault_36 : decode cX6_fault 36 = .ok (.iload_n 1, 1) := by decide +kernel
theorem dX6_fault_37 : decode cX6_fault 37 = .ok (.bipush 8, 2) := by decide +kernel
theorem dX6_fault_39 : decode cX6_fault 39 = .ok (.if_icmp .ge 36, 3) := by decide +kernel
theorem dX6_fault_42 : decode cX6_fault 42 = .ok (.aload_n 0, 1) := by decide +kernel
theorem dX6_fault_43 : decode cX6_fault 43 = .ok (.getfield 36, 3) := by decide +kernel
theorem dX6_fault_46 : decode cX6_fault 46 = .ok (.iload_n 1, 1) := by decide +kernel
theorem dX6_fault_47 : decode cX6_fault 47 = .ok (.aload_n 0, 1) := by decide +kernel
theorem dX6_fault_48 : decode cX6_fault 48 = .ok (.getfield 7, 3) := by decide +kernel
theorem dX6_fault_51 : decode cX6_fault 51 = .ok (.bipush 56, 2) := by decide +kernel
theorem dX6_fault_53 : decode cX6_fault 53 = .ok (.iload_n 1, 1) := by decide +kernel
theorem dX6_fault_54 : decode cX6_fault 54 = .ok (.iadd, 1) := by decide +kernel
theorem dX6_fault_55 : decode cX6_fault 55 = .ok (.iaload, 1) := by decide +kernel
theorem dX6_fault_56 : decode cX6_fault 56 = .ok (.iastore, 1) := by decide +kernel
theorem dX6_fault_57 : decode cX6_fault 57 = .ok (.aload_n 0, 1) := by decide +kernel
theorem dX6_fault_58 : decode cX6_fault 58 = .ok (.getfield 39, 3) := by decide +kernel
theorem dX6_fault_61 : decode cX6_fault 61 = .ok (.iload_n 1, 1) := by decide +kernel
theorem dX6_fault_62 : decode cX6_fault 62 = .ok (.aload_n 0, 1) := by decide +kernel
theorem dX6_fault_63 : decode cX6_fault 63 = .ok (.getfield 30, 3) := by decide +kernel
theorem dX6_fault_66 : decode cX6_fault 66 = .ok (.iload_n 1, 1) := by decide +kernel
theorem dX6_fault_67 : decode cX6_fault 67 = .ok (.iaload, 1) := by decide +kernel
theorem dX6_fault_68 : decode cX6_fault 68 = .ok (.iastore, 1) := by decide +kernel
theorem dX6_fault_69 : decode cX6_fault 69 = .ok (.iinc 1 1, 3) := by decide +kernel
theorem dX6_fault_72 : decode cX6_fault 72 = .ok (.goto (-36), 3) := by decide +kernel
theorem dX6_fault_75 : decode cX6_fault 75 = .ok (.iconst 0, 1) := by decide +kernel
theorem dX6_fault_76 : decode cX6_fault 76 = .ok (.istore_n 1, 1) := by decide +kernel
theorem dX6_fault_77 : decode cX6_fault 77 = .ok (.iload_n 1, 1) := by decide +kernel
theorem dX6_fault_78 : decode cX6_fault 78 = .ok (.iconst 3, 1) := by decide +kernel
theorem dX6_fault_79 : decode cX6_fault 79 = .ok (.if_icmp .ge 21, 3) := by decide +kernel
theorem dX6_fault_82 : decode cX6_fault 82 = .ok (.aload_n 0, 1) := by decide +kernel
theorem dX6_fault_83 : decode cX6_fault 83 = .ok (.getfield 42, 3) := by decide +kernel
theorem dX6_fault_86 : decode cX6_fault 86 = .ok (.iload_n 1, 1) := by decide +kernel
theorem dX6_fault_87 : decode cX6_fault 87 = .ok (.aload_n 0, 1) := by decide +kernel
theorem dX6_fault_88 : decode cX6_fault 88 = .ok (.getfield 33, 3) := by decide +kernel
theorem dX6_fault_91 : decode cX6_fault 91 = .ok (.iload_n 1, 1) := by decide +kernel
theorem dX6_fault_92 : decode cX6_fault 92 = .ok (.iaload, 1) := by decide +kernel
theorem dX6_fault_93 : decode cX6_fault 93 = .ok (.iastore, 1) := by decide +kernel
theorem dX6_fault_94 : decode cX6_fault 94 = .ok (.iinc 1 1, 3) := by decide +kernel
theorem dX6_fault_97 : decode cX6_fault 97 = .ok (.goto (-20), 3) := by decide +kernel
theorem dX6_fault_100 : decode cX6_fault 100 = .ok (.aload_n 0, 1) := by decide +kernel
theorem dX6_fault_101 : decode cX6_fault 101 = .ok (.invokevirtual 105, 3) := by decide +kernel
theorem dX6_fault_104 : decode cX6_fault 104 = .ok (.aload_n 0, 1) := by decide +kernel
theorem dX6_fault_105 : decode cX6_fault 105 = .ok (.invokevirtual 156, 3) := by decide +kernel
theorem dX6_fault_108 : decode cX6_fault 108 = .ok (.ifCond .ne 8, 3) := by decide +kernel
theorem dX6_fault_111 : decode cX6_fault 111 = .ok (.aload_n 0, 1) := by decide +kernel
theorem dX6_fault_112 : decode cX6_fault 112 = .ok (.getfield 72, 3) := by decide +kernel
theorem dX6_fault_115 : decode cX6_fault 115 = .ok (.ireturn, 1) := by decide +kernel
theorem dX6_fault_116 : decode cX6_fault 116 = .ok (.aload_n 0, 1) := by decide +kernel
theorem dX6_fault_117 : decode cX6_fault 117 = .ok (.getfield 72, 3) := by decide +kernel
theorem dX6_fault_120 : decode cX6_fault 120 = .ok (.aload_n 0, 1) := by decide +kernel
theorem dX6_fault_121 : decode cX6_fault 121 = .ok (.getfield 64, 3) := by decide +kernel
theorem dX6_fault_124 : decode cX6_fault 124 = .ok (.if_icmp .ge 70, 3) := by decide +kernel
theorem dX6_fault_127 : decode cX6_fault 127 = .ok (.aload_n 0, 1) := by decide +kernel
theorem dX6_fault_128 : decode cX6_fault 128 = .ok (.getfield 79, 3) := by decide +kernel
theorem dX6_fault_131 : decode cX6_fault 131 = .ok (.aload_n 0, 1) := by decide +kernel
theorem dX6_fault_132 : decode cX6_fault 132 = .ok (.getfield 72, 3) := by decide +kernel
theorem dX6_fault_135 : decode cX6_fault 135 = .ok (.isub, 1) := by decide +kernel
theorem dX6_fault_136 : decode cX6_fault 136 = .ok (.iconst 1, 1) := by decide +kernel
theorem dX6_fault_137 : decode cX6_fault 137 = .ok (.if_icmp .ne 30, 3) := by decide +kernel
theorem dX6_fault_140 : decode cX6_fault 140 = .ok (.aload_n 0, 1) := by decide +kernel
theorem dX6_fault_141 : decode cX6_fault 141 = .ok (.getfield 17, 3) := by decide +kernel
theorem dX6_fault_144 : decode cX6_fault 144 = .ok (.aload_n 0, 1) := by decide +kernel
theorem dX6_fault_145 : decode cX6_fault 145 = .ok (.getfield 72, 3) := by decide +kernel
theorem dX6_fault_148 : decode cX6_fault 148 = .ok (.iaload, 1) := by decide +kernel
theorem dX6_fault_149 : decode cX6_fault 149 = .ok (.bipush 59, 2) := by decide +kernel
theorem dX6_fault_151 : decode cX6_fault 151 = .ok (.if_icmp .ne 16, 3) := by decide +kernel
theorem dX6_fault_154 : decode cX6_fault 154 = .ok (.aload_n 0, 1) := by decide +kernel
theorem dX6_fault_155 : decode cX6_fault 155 = .ok (.getfield 102, 3) := by decide +kernel
theorem dX6_fault_158 : decode cX6_fault 158 = .ok (.bipush 12, 2) := by decide +kernel
theorem dX6_fault_160 : decode cX6_fault 160 = .ok (.if_icmp .ge 7, 3) := by decide +kernel
theorem dX6_fault_163 : decode cX6_fault 163 = .ok (.iconst 1, 1) := by decide +kernel
theorem dX6_fault_164 : decode cX6_fault 164 = .ok (.goto 4, 3) := by decide +kernel
theorem dX6_fault_167 : decode cX6_fault 167 = .ok (.iconst 0, 1) := by decide +kernel
theorem dX6_fault_168 : decode cX6_fault 168 = .ok (.istore_n 1, 1) := by decide +kernel
theorem dX6_fault_169 : decode cX6_fault 169 = .ok (.iload_n 1, 1) := by decide +kernel
theorem dX6_fault_170 : decode cX6_fault 170 = .ok (.ifCond .eq 12, 3) := by decide +kernel
theorem dX6_fault_173 : decode cX6_fault 173 = .ok (.aload_n 0, 1) := by decide +kernel
theorem dX6_fault_174 : decode cX6_fault 174 = .ok (.invokevirtual 105, 3) := by decide +kernel
theorem dX6_fault_177 : decode cX6_fault 177 = .ok (.aload_n 0, 1) := by decide +kernel
theorem dX6_fault_178 : decode cX6_fault 178 = .ok (.invokevirtual 156, 3) := by decide +kernel
theorem dX6_fault_181 : decode cX6_fault 181 = .ok (.istore_n 1, 1) := by decide +kernel
theorem dX6_fault_182 : decode cX6_fault 182 = .ok (.iload_n 1, 1) := by decide +kernel
theorem dX6_fault_183 : decode cX6_fault 183 = .ok (.ifCond .ne 8, 3) := by decide +kernel
theorem dX6_fault_186 : decode cX6_fault 186 = .ok (.aload_n 0, 1) := by decide +kernel
theorem dX6_fault_187 : decode cX6_fault 187 = .ok (.getfield 72, 3) := by decide +kernel
theorem dX6_fault_190 : decode cX6_fault 190 = .ok (.ireturn, 1) := by decide +kernel
theorem dX6_fault_191 : decode cX6_fault 191 = .ok (.goto (-75), 3) := by decide +kernel
theorem dX6_fault_194 : decode cX6_fault 194 = .ok (.iconst (-1), 1) := by decide +kernel
theorem dX6_fault_195 : decode cX6_fault 195 = .ok (.ireturn, 1) := by decide +kernel
theorem dX6_tell_0 : decode cX6_tell 0 = .ok (.aload_n 0, 1) := by decide +kernel
theorem dX6_tell_1 : decode cX6_tell 1 = .ok (.getfield 20, 3) := by decide +kernel
theorem dX6_tell_4 : decode cX6_tell 4 = .ok (.iload_n 1, 1) := by decide +kernel
theorem dX6_tell_5 : decode cX6_tell 5 = .ok (.iconst 1, 1) := by decide +kernel
theorem dX6_tell_6 : decode cX6_tell 6 = .ok (.iadd, 1) := by decide +kernel
theorem dX6_tell_7 : decode cX6_tell 7 = .ok (.iaload, 1) := by decide +kernel
theorem dX6_tell_8 : decode cX6_tell 8 = .ok (.istore_n 2, 1) := by decide +kernel
theorem dX6_tell_9 : decode cX6_tell 9 = .ok (.aload_n 0, 1) := by decide +kernel
theorem dX6_tell_10 : decode cX6_tell 10 = .ok (.getfield 20, 3) := by decide +kernel
theorem dX6_tell_13 : decode cX6_tell 13 = .ok (.iload_n 1, 1) := by decide +kernel
theorem dX6_tell_14 : decode cX6_tell 14 = .ok (.iaload, 1) := by decide +kernel
theorem dX6_tell_15 : decode cX6_tell 15 = .ok (.istore_n 3, 1) := by decide +kernel
theorem dX6_tell_16 : decode cX6_tell 16 = .ok (.iload_n 3, 1) := by decide +kernel
theorem dX6_tell_17 : decode cX6_tell 17 = .ok (.ifCond .ne 32, 3) := by decide +kernel
theorem dX6_tell_20 : decode cX6_tell 20 = .ok (.aload_n 0, 1) := by decide +kernel
theorem dX6_tell_21 : decode cX6_tell 21 = .ok (.iconst 0, 1) := by decide +kernel
theorem dX6_tell_22 : decode cX6_tell 22 = .ok (.putfield 153, 3) := by decide +kernel
theorem dX6_tell_25 : decode cX6_tell 25 = .ok (.iconst 0, 1) := by decide +kernel
theorem dX6_tell_26 : decode cX6_tell 26 = .ok (.istore 4, 2) := by decide +kernel
theorem dX6_tell_28 : decode cX6_tell 28 = .ok (.iload 4, 2) := by decide +kernel
theorem dX6_tell_30 : decode cX6_tell 30 = .ok (.bipush 8, 2) := by decide +kernel
theorem dX6_tell_32 : decode cX6_tell 32 = .ok (.if_icmp .ge 17, 3) := by decide +kernel
theorem dX6_tell_35 : decode cX6_tell 35 = .ok (.aload_n 0, 1) := by decide +kernel
theorem dX6_tell_36 : decode cX6_tell 36 = .ok (.getfield 27, 3) := by decide +kernel
theorem dX6_tell_39 : decode cX6_tell 39 = .ok (.iload 4, 2) := by decide +kernel
theorem dX6_tell_41 : decode cX6_tell 41 = .ok (.iconst 0, 1) := by decide +kernel
theorem dX6_tell_42 : decode cX6_tell 42 = .ok (.iastore, 1) := by decide +kernel
theorem dX6_tell_43 : decode cX6_tell 43 = .ok (.iinc 4 1, 3) := by decide +kernel
theorem dX6_tell_46 : decode cX6_tell 46 = .ok (.goto (-18), 3) := by decide +kernel
theorem dX6_tell_49 : decode cX6_tell 49 = .ok (.iload_n 3, 1) := by decide +kernel
theorem dX6_tell_50 : decode cX6_tell 50 = .ok (.i2l, 1) := by decide +kernel
theorem dX6_tell_51 : decode cX6_tell 51 = .ok (.ldc2_w 159, 3) := by decide +kernel
theorem dX6_tell_54 : decode cX6_tell 54 = .ok (.ldc2_w 161, 3) := by decide +kernel
theorem dX6_tell_57 : decode cX6_tell 57 = .ok (.invokestatic 60, 3) := by decide +kernel
theorem dX6_tell_60 : decode cX6_tell 60 = .ok (.ifCond .eq 12, 3) := by decide +kernel
theorem dX6_tell_63 : decode cX6_tell 63 = .ok (.aload_n 0, 1) := by decide +kernel
theorem dX6_tell_64 : decode cX6_tell 64 = .ok (.getfield 27, 3) := by decide +kernel
theorem dX6_tell_67 : decode cX6_tell 67 = .ok (.iload_n 2, 1) := by decide +kernel
theorem dX6_tell_68 : decode cX6_tell 68 = .ok (.iload_n 3, 1) := by decide +kernel
theorem dX6_tell_69 : decode cX6_tell 69 = .ok (.iconst 2, 1) := by decide +kernel
theorem dX6_tell_70 : decode cX6_tell 70 = .ok (.isub, 1) := by decide +kernel
theorem dX6_tell_71 : decode cX6_tell 71 = .ok (.iastore, 1) := by decide +kernel
theorem dX6_tell_72 : decode cX6_tell 72 = .ok (.iload_n 3, 1) := by decide +kernel
theorem dX6_tell_73 : decode cX6_tell 73 = .ok (.bipush 8, 2) := by decide +kernel
theorem dX6_tell_75 : decode cX6_tell 75 = .ok (.if_icmp .ne 26, 3) := by decide +kernel
theorem dX6_tell_78 : decode cX6_tell 78 = .ok (.aload_n 0, 1) := by decide +kernel
theorem dX6_tell_79 : decode cX6_tell 79 = .ok (.getfield 7, 3) := by decide +kernel
theorem dX6_tell_82 : decode cX6_tell 82 = .ok (.bipush 64, 2) := by decide +kernel
theorem dX6_tell_84 : decode cX6_tell 84 = .ok (.aload_n 0, 1) := by decide +kernel
theorem dX6_tell_85 : decode cX6_tell 85 = .ok (.getfield 153, 3) := by decide +kernel
theorem dX6_tell_88 : decode cX6_tell 88 = .ok (.iadd, 1) := by decide +kernel
theorem dX6_tell_89 : decode cX6_tell 89 = .ok (.iload_n 2, 1) := by decide +kernel
theorem dX6_tell_90 : decode cX6_tell 90 = .ok (.iastore, 1) := by decide +kernel
theorem dX6_tell_91 : decode cX6_tell 91 = .ok (.aload_n 0, 1) := by decide +kernel
theorem dX6_tell_92 : decode cX6_tell 92 = .ok (.dup, 1) := by decide +kernel
theorem dX6_tell_93 : decode cX6_tell 93 = .ok (.getfield 153, 3) := by decide +kernel
theorem dX6_tell_96 : decode cX6_tell 96 = .ok (.iconst 1, 1) := by decide +kernel
theorem dX6_tell_97 : decode cX6_tell 97 = .ok (.iadd, 1) := by decide +kernel
theorem dX6_tell_98 : decode cX6_tell 98 = .ok (.putfield 153, 3) := by decide +kernel
theorem dX6_tell_101 : decode cX6_tell 101 = .ok (.aload_n 0, 1) := by decide +kernel
theorem dX6_tell_102 : decode cX6_tell 102 = .ok (.iload_n 3, 1) := by decide +kernel
theorem dX6_tell_103 : decode cX6_tell 103 = .ok (.bipush 9, 2) := by decide +kernel
theorem dX6_tell_105 : decode cX6_tell 105 = .ok (.if_icmp .ne 7, 3) := by decide +kernel
theorem dX6_tell_108 : decode cX6_tell 108 = .ok (.iconst 0, 1) := by decide +kernel
theorem dX6_tell_109 : decode cX6_tell 109 = .ok (.goto 7, 3) := by decide +kernel
theorem dX6_tell_112 : decode cX6_tell 112 = .ok (.aload_n 0, 1) := by decide +kernel
theorem dX6_tell_113 : decode cX6_tell 113 = .ok (.getfield 153, 3) := by decide +kernel
theorem dX6_tell_116 : decode cX6_tell 116 = .ok (.putfield 153, 3) := by decide +kernel
theorem dX6_tell_119 : decode cX6_tell 119 = .ok (.return_, 1) := by decide +kernel
theorem dX6_house_0 : decode cX6_house 0 = .ok (.aload_n 0, 1) := by decide +kernel
theorem dX6_house_1 : decode cX6_house 1 = .ok (.invokevirtual 163, 3) := by decide +kernel
theorem dX6_house_4 : decode cX6_house 4 = .ok (.iconst (-1), 1) := by decide +kernel
theorem dX6_house_5 : decode cX6_house 5 = .ok (.if_icmp .eq 6, 3) := by decide +kernel
theorem dX6_house_8 : decode cX6_house 8 = .ok (.bipush (-4), 2) := by decide +kernel
theorem dX6_house_10 : decode cX6_house 10 = .ok (.ireturn, 1) := by decide +kernel
theorem dX6_house_11 : decode cX6_house 11 = .ok (.iconst 0, 1) := by decide +kernel
theorem dX6_house_12 : decode cX6_house 12 = .ok (.istore_n 1, 1) := by decide +kernel
theorem dX6_house_13 : decode cX6_house 13 = .ok (.iload_n 1, 1) := by decide +kernel
theorem dX6_house_14 : decode cX6_house 14 = .ok (.aload_n 0, 1) := by decide +kernel
theorem dX6_house_15 : decode cX6_house 15 = .ok (.getfield 102, 3) := by decide +kernel
theorem dX6_house_18 : decode cX6_house 18 = .ok (.if_icmp .ge 16, 3) := by decide +kernel
theorem dX6_house_21 : decode cX6_house 21 = .ok (.aload_n 0, 1) := by decide +kernel
theorem dX6_house_22 : decode cX6_house 22 = .ok (.iconst 3, 1) := by decide +kernel
theorem dX6_house_23 : decode cX6_house 23 = .ok (.iload_n 1, 1) := by decide +kernel
theorem dX6_house_24 : decode cX6_house 24 = .ok (.imul, 1) := by decide +kernel
theorem dX6_house_25 : decode cX6_house 25 = .ok (.invokevirtual 166, 3) := by decide +kernel
theorem dX6_house_28 : decode cX6_house 28 = .ok (.iinc 1 1, 3) := by decide +kernel
theorem dX6_house_31 : decode cX6_house 31 = .ok (.goto (-18), 3) := by decide +kernel
theorem dX6_house_34 : decode cX6_house 34 = .ok (.aload_n 0, 1) := by decide +kernel
theorem dX6_house_35 : decode cX6_house 35 = .ok (.aload_n 0, 1) := by decide +kernel
theorem dX6_house_36 : decode cX6_house 36 = .ok (.getfield 108, 3) := by decide +kernel
theorem dX6_house_39 : decode cX6_house 39 = .ok (.putfield 23, 3) := by decide +kernel
theorem dX6_house_42 : decode cX6_house 42 = .ok (.aload_n 0, 1) := by decide +kernel
theorem dX6_house_43 : decode cX6_house 43 = .ok (.aload_n 0, 1) := by decide +kernel
theorem dX6_house_44 : decode cX6_house 44 = .ok (.getfield 116, 3) := by decide +kernel
theorem dX6_house_47 : decode cX6_house 47 = .ok (.putfield 150, 3) := by decide +kernel
theorem dX6_house_50 : decode cX6_house 50 = .ok (.iconst 0, 1) := by decide +kernel
theorem dX6_house_51 : decode cX6_house 51 = .ok (.istore_n 1, 1) := by decide +kernel
theorem dX6_house_52 : decode cX6_house 52 = .ok (.iload_n 1, 1) := by decide +kernel
theorem dX6_house_53 : decode cX6_house 53 = .ok (.bipush 8, 2) := by decide +kernel
theorem dX6_house_55 : decode cX6_house 55 = .ok (.if_icmp .ge 36, 3) := by decide +kernel
theorem dX6_house_58 : decode cX6_house 58 = .ok (.aload_n 0, 1) := by decide +kernel
theorem dX6_house_59 : decode cX6_house 59 = .ok (.getfield 7, 3) := by decide +kernel
theorem dX6_house_62 : decode cX6_house 62 = .ok (.bipush 56, 2) := by decide +kernel
theorem dX6_house_64 : decode cX6_house 64 = .ok (.iload_n 1, 1) := by decide +kernel
theorem dX6_house_65 : decode cX6_house 65 = .ok (.iadd, 1) := by decide +kernel
theorem dX6_house_66 : decode cX6_house 66 = .ok (.aload_n 0, 1) := by decide +kernel
theorem dX6_house_67 : decode cX6_house 67 = .ok (.getfield 36, 3) := by decide +kernel
theorem dX6_house_70 : decode cX6_house 70 = .ok (.iload_n 1, 1) := by decide +kernel
theorem dX6_house_71 : decode cX6_house 71 = .ok (.iaload, 1) := by decide +kernel
theorem dX6_house_72 : decode cX6_house 72 = .ok (.iastore, 1) := by decide +kernel
theorem dX6_house_73 : decode cX6_house 73 = .ok (.aload_n 0, 1) := by decide +kernel
theorem dX6_house_74 : decode cX6_house 74 = .ok (.getfield 30, 3) := by decide +kernel
theorem dX6_house_77 : decode cX6_house 77 = .ok (.iload_n 1, 1) := by decide +kernel
theorem dX6_house_78 : decode cX6_house 78 = .ok (.aload_n 0, 1) := by decide +kernel
theorem dX6_house_79 : decode cX6_house 79 = .ok (.getfield 39, 3) := by decide +kernel
theorem dX6_house_82 : decode cX6_house 82 = .ok (.iload_n 1, 1) := by decide +kernel
theorem dX6_house_83 : decode cX6_house 83 = .ok (.iaload, 1) := by decide +kernel
theorem dX6_house_84 : decode cX6_house 84 = .ok (.iastore, 1) := by decide +kernel
theorem dX6_house_85 : decode cX6_house 85 = .ok (.iinc 1 1, 3) := by decide +kernel
theorem dX6_house_88 : decode cX6_house 88 = .ok (.goto (-36), 3) := by decide +kernel
theorem dX6_house_91 : decode cX6_house 91 = .ok (.iconst 0, 1) := by decide +kernel
theorem dX6_house_92 : decode cX6_house 92 = .ok (.istore_n 1, 1) := by decide +kernel
theorem dX6_house_93 : decode cX6_house 93 = .ok (.iload_n 1, 1) := by decide +kernel
theorem dX6_house_94 : decode cX6_house 94 = .ok (.iconst 3, 1) := by decide +kernel
theorem dX6_house_95 : decode cX6_house 95 = .ok (.if_icmp .ge 21, 3) := by decide +kernel
theorem dX6_house_98 : decode cX6_house 98 = .ok (.aload_n 0, 1) := by decide +kernel
theorem dX6_house_99 : decode cX6_house 99 = .ok (.getfield 33, 3) := by decide +kernel
theorem dX6_house_102 : decode cX6_house 102 = .ok (.iload_n 1, 1) := by decide +kernel
theorem dX6_house_103 : decode cX6_house 103 = .ok (.aload_n 0, 1) := by decide +kernel
theorem dX6_house_104 : decode cX6_house 104 = .ok (.getfield 42, 3) := by decide +kernel
theorem dX6_house_107 : decode cX6_house 107 = .ok (.iload_n 1, 1) := by decide +kernel
theorem dX6_house_108 : decode cX6_house 108 = .ok (.iaload, 1) := by decide +kernel
theorem dX6_house_109 : decode cX6_house 109 = .ok (.iastore, 1) := by decide +kernel
theorem dX6_house_110 : decode cX6_house 110 = .ok (.iinc 1 1, 3) := by decide +kernel
theorem dX6_house_113 : decode cX6_house 113 = .ok (.goto (-20), 3) := by decide +kernel
theorem dX6_house_116 : decode cX6_house 116 = .ok (.aload_n 0, 1) := by decide +kernel
theorem dX6_house_117 : decode cX6_house 117 = .ok (.bipush 56, 2) := by decide +kernel
theorem dX6_house_119 : decode cX6_house 119 = .ok (.iconst 0, 1) := by decide +kernel
theorem dX6_house_120 : decode cX6_house 120 = .ok (.invokevirtual 170, 3) := by decide +kernel
theorem dX6_house_123 : decode cX6_house 123 = .ok (.aload_n 0, 1) := by decide +kernel
theorem dX6_house_124 : decode cX6_house 124 = .ok (.iconst 0, 1) := by decide +kernel
theorem dX6_house_125 : decode cX6_house 125 = .ok (.putfield 174, 3) := by decide +kernel
theorem dX6_house_128 : decode cX6_house 128 = .ok (.aload_n 0, 1) := by decide +kernel
theorem dX6_house_129 : decode cX6_house 129 = .ok (.getfield 13, 3) := by decide +kernel
theorem dX6_house_132 : decode cX6_house 132 = .ok (.iconst 0, 1) := by decide +kernel
theorem dX6_house_133 : decode cX6_house 133 = .ok (.iconst 0, 1) := by decide +kernel
theorem dX6_house_134 : decode cX6_house 134 = .ok (.bastore, 1) := by decide +kernel
theorem dX6_house_135 : decode cX6_house 135 = .ok (.aload_n 0, 1) := by decide +kernel
theorem dX6_house_136 : decode cX6_house 136 = .ok (.getfield 13, 3) := by decide +kernel
theorem dX6_house_139 : decode cX6_house 139 = .ok (.iconst 1, 1) := by decide +kernel
theorem dX6_house_140 : decode cX6_house 140 = .ok (.iconst 0, 1) := by decide +kernel
theorem dX6_house_141 : decode cX6_house 141 = .ok (.bastore, 1) := by decide +kernel
theorem dX6_house_142 : decode cX6_house 142 = .ok (.aload_n 0, 1) := by decide +kernel
theorem dX6_house_143 : decode cX6_house 143 = .ok (.iconst 0, 1) := by decide +kernel
theorem dX6_house_144 : decode cX6_house 144 = .ok (.putfield 64, 3) := by decide +kernel
theorem dX6_house_147 : decode cX6_house 147 = .ok (.aload_n 0, 1) := by decide +kernel
theorem dX6_house_148 : decode cX6_house 148 = .ok (.getfield 102, 3) := by decide +kernel
theorem dX6_house_151 : decode cX6_house 151 = .ok (.ireturn, 1) := by decide +kernel
theorem dX6_isLeaf_0 : decode cX6_isLeaf 0 = .ok (.iload_n 1, 1) := by decide +kernel
theorem dX6_isLeaf_1 : decode cX6_isLeaf 1 = .ok (.i2l, 1) := by decide +kernel
theorem dX6_isLeaf_2 : decode cX6_isLeaf 2 = .ok (.lconst 0, 1) := by decide +kernel
theorem dX6_isLeaf_3 : decode cX6_isLeaf 3 = .ok (.aload_n 0, 1) := by decide +kernel
theorem dX6_isLeaf_4 : decode cX6_isLeaf 4 = .ok (.getfield 23, 3) := by decide +kernel
theorem dX6_isLeaf_7 : decode cX6_isLeaf 7 = .ok (.iconst 1, 1) := by decide +kernel
theorem dX6_isLeaf_8 : decode cX6_isLeaf 8 = .ok (.isub, 1) := by decide +kernel
theorem dX6_isLeaf_9 : decode cX6_isLeaf 9 = .ok (.i2l, 1) := by decide +kernel
theorem dX6_isLeaf_10 : decode cX6_isLeaf 10 = .ok (.invokestatic 60, 3) := by decide +kernel
theorem dX6_isLeaf_13 : decode cX6_isLeaf 13 = .ok (.ireturn, 1) := by decide +kernel
theorem dX6_isPerson_0 : decode cX6_isPerson 0 = .ok (.iload_n 1, 1) := by decide +kernel
theorem dX6_isPerson_1 : decode cX6_isPerson 1 = .ok (.i2l, 1) := by decide +kernel
theorem dX6_isPerson_2 : decode cX6_isPerson 2 = .ok (.lconst 0, 1) := by decide +kernel
theorem dX6_isPerson_3 : decode cX6_isPerson 3 = .ok (.aload_n 0, 1) := by decide +kernel
theorem dX6_isPerson_4 : decode cX6_isPerson 4 = .ok (.getfield 153, 3) := by decide +kernel
theorem dX6_isPerson_7 : decode cX6_isPerson 7 = .ok (.iconst 1, 1) := by decide +kernel
theorem dX6_isPerson_8 : decode cX6_isPerson 8 = .ok (.isub, 1) := by decide +kernel
theorem dX6_isPerson_9 : decode cX6_isPerson 9 = .ok (.i2l, 1) := by decide +kernel
theorem dX6_isPerson_10 : decode cX6_isPerson 10 = .ok (.invokestatic 60, 3) := by decide +kernel
theorem dX6_isPerson_13 : decode cX6_isPerson 13 = .ok (.ireturn, 1) := by decide +kernel
theorem dX6_isSide_0 : decode cX6_isSide 0 = .ok (.iload_n 0, 1) := by decide +kernel
theorem dX6_isSide_1 : decode cX6_isSide 1 = .ok (.i2l, 1) := by decide +kernel
theorem dX6_isSide_2 : decode cX6_isSide 2 = .ok (.lconst 0, 1) := by decide +kernel
theorem dX6_isSide_3 : decode cX6_isSide 3 = .ok (.lconst 1, 1) := by decide +kernel
theorem dX6_isSide_4 : decode cX6_isSide 4 = .ok (.invokestatic 60, 3) := by decide +kernel
theorem dX6_isSide_7 : decode cX6_isSide 7 = .ok (.ireturn, 1) := by decide +kernel
theorem dX6_next_0 : decode cX6_next 0 = .ok (.iload_n 1, 1) := by decide +kernel
theorem dX6_next_1 : decode cX6_next 1 = .ok (.iconst 1, 1) := by decide +kernel
theorem dX6_next_2 : decode cX6_next 2 = .ok (.iadd, 1) := by decide +kernel
theorem dX6_next_3 : decode cX6_next 3 = .ok (.aload_n 0, 1) := by decide +kernel
theorem dX6_next_4 : decode cX6_next 4 = .ok (.getfield 23, 3) := by decide +kernel
theorem dX6_next_7 : decode cX6_next 7 = .ok (.irem, 1) := by decide +kernel
theorem dX6_next_8 : decode cX6_next 8 = .ok (.ireturn, 1) := by decide +kernel
theorem dX6_ahead_0 : decode cX6_ahead 0 = .ok (.iload_n 1, 1) := by decide +kernel
theorem dX6_ahead_1 : decode cX6_ahead 1 = .ok (.aload_n 0, 1) := by decide +kernel
theorem dX6_ahead_2 : decode cX6_ahead 2 = .ok (.getfield 23, 3) := by decide +kernel
theorem dX6_ahead_5 : decode cX6_ahead 5 = .ok (.iadd, 1) := by decide +kernel
theorem dX6_ahead_6 : decode cX6_ahead 6 = .ok (.iconst 1, 1) := by decide +kernel
theorem dX6_ahead_7 : decode cX6_ahead 7 = .ok (.isub, 1) := by decide +kernel
theorem dX6_ahead_8 : decode cX6_ahead 8 = .ok (.aload_n 0, 1) := by decide +kernel
theorem dX6_ahead_9 : decode cX6_ahead 9 = .ok (.getfield 23, 3) := by decide +kernel
theorem dX6_ahead_12 : decode cX6_ahead 12 = .ok (.irem, 1) := by decide +kernel
theorem dX6_ahead_13 : decode cX6_ahead 13 = .ok (.ireturn, 1) := by decide +kernel
theorem dX6_width_0 : decode cX6_width 0 = .ok (.aload_n 0, 1) := by decide +kernel
theorem dX6_width_1 : decode cX6_width 1 = .ok (.getfield 7, 3) := by decide +kernel
theorem dX6_width_4 : decode cX6_width 4 = .ok (.iload_n 1, 1) := by decide +kernel
theorem dX6_width_5 : decode cX6_width 5 = .ok (.iload_n 2, 1) := by decide +kernel
theorem dX6_width_6 : decode cX6_width 6 = .ok (.iadd, 1) := by decide +kernel
theorem dX6_width_7 : decode cX6_width 7 = .ok (.iaload, 1) := by decide +kernel
theorem dX6_width_8 : decode cX6_width 8 = .ok (.aload_n 0, 1) := by decide +kernel
theorem dX6_width_9 : decode cX6_width 9 = .ok (.getfield 7, 3) := by decide +kernel
theorem dX6_width_12 : decode cX6_width 12 = .ok (.iload_n 1, 1) := by decide +kernel
theorem dX6_width_13 : decode cX6_width 13 = .ok (.aload_n 0, 1) := by decide +kernel
theorem dX6_width_14 : decode cX6_width 14 = .ok (.iload_n 2, 1) := by decide +kernel
theorem dX6_width_15 : decode cX6_width 15 = .ok (.invokevirtual 177, 3) := by decide +kernel
theorem dX6_width_18 : decode cX6_width 18 = .ok (.iadd, 1) := by decide +kernel
theorem dX6_width_19 : decode cX6_width 19 = .ok (.iaload, 1) := by decide +kernel
theorem dX6_width_20 : decode cX6_width 20 = .ok (.invokestatic 54, 3) := by decide +kernel
theorem dX6_width_23 : decode cX6_width 23 = .ok (.ireturn, 1) := by decide +kernel
theorem dX6_isOpen_0 : decode cX6_isOpen 0 = .ok (.iconst 0, 1) := by decide +kernel
theorem dX6_isOpen_1 : decode cX6_isOpen 1 = .ok (.istore_n 3, 1) := by decide +kernel
theorem dX6_isOpen_2 : decode cX6_isOpen 2 = .ok (.iconst 0, 1) := by decide +kernel
theorem dX6_isOpen_3 : decode cX6_isOpen 3 = .ok (.istore 4, 2) := by decide +kernel
theorem dX6_isOpen_5 : decode cX6_isOpen 5 = .ok (.iload 4, 2) := by decide +kernel
theorem dX6_isOpen_7 : decode cX6_isOpen 7 = .ok (.aload_n 0, 1) := by decide +kernel
theorem dX6_isOpen_8 : decode cX6_isOpen 8 = .ok (.getfield 150, 3) := by decide +kernel
theorem dX6_isOpen_11 : decode cX6_isOpen 11 = .ok (.if_icmp .ge 55, 3) := by decide +kernel
theorem dX6_isOpen_14 : decode cX6_isOpen 14 = .ok (.aload_n 0, 1) := by decide +kernel
theorem dX6_isOpen_15 : decode cX6_isOpen 15 = .ok (.getfield 7, 3) := by decide +kernel
theorem dX6_isOpen_18 : decode cX6_isOpen 18 = .ok (.iload_n 1, 1) := by decide +kernel
theorem dX6_isOpen_19 : decode cX6_isOpen 19 = .ok (.iload_n 2, 1) := by decide +kernel
theorem dX6_isOpen_20 : decode cX6_isOpen 20 = .ok (.iadd, 1) := by decide +kernel
theorem dX6_isOpen_21 : decode cX6_isOpen 21 = .ok (.iaload, 1) := by decide +kernel
theorem dX6_isOpen_22 : decode cX6_isOpen 22 = .ok (.aload_n 0, 1) := by decide +kernel
theorem dX6_isOpen_23 : decode cX6_isOpen 23 = .ok (.getfield 33, 3) := by decide +kernel
theorem dX6_isOpen_26 : decode cX6_isOpen 26 = .ok (.iload 4, 2) := by decide +kernel
theorem dX6_isOpen_28 : decode cX6_isOpen 28 = .ok (.iaload, 1) := by decide +kernel
theorem dX6_isOpen_29 : decode cX6_isOpen 29 = .ok (.invokestatic 54, 3) := by decide +kernel
theorem dX6_isOpen_32 : decode cX6_isOpen 32 = .ok (.istore 5, 2) := by decide +kernel
theorem dX6_isOpen_34 : decode cX6_isOpen 34 = .ok (.iload_n 3, 1) := by decide +kernel
theorem dX6_isOpen_35 : decode cX6_isOpen 35 = .ok (.ifCond .ne 19, 3) := by decide +kernel
theorem dX6_isOpen_38 : decode cX6_isOpen 38 = .ok (.iload 5, 2) := by decide +kernel
theorem dX6_isOpen_40 : decode cX6_isOpen 40 = .ok (.ifCond .le 18, 3) := by decide +kernel
theorem dX6_isOpen_43 : decode cX6_isOpen 43 = .ok (.iload 5, 2) := by decide +kernel
theorem dX6_isOpen_45 : decode cX6_isOpen 45 = .ok (.aload_n 0, 1) := by decide +kernel
theorem dX6_isOpen_46 : decode cX6_isOpen 46 = .ok (.iload_n 1, 1) := by decide +kernel
theorem dX6_isOpen_47 : decode cX6_isOpen 47 = .ok (.iload_n 2, 1) := by decide +kernel
theorem dX6_isOpen_48 : decode cX6_isOpen 48 = .ok (.invokevirtual 180, 3) := by decide +kernel
theorem dX6_isOpen_51 : decode cX6_isOpen 51 = .ok (.if_icmp .ge 7, 3) := by decide +kernel
theorem dX6_isOpen_54 : decode cX6_isOpen 54 = .ok (.iconst 1, 1) := by decide +kernel
theorem dX6_isOpen_55 : decode cX6_isOpen 55 = .ok (.goto 4, 3) := by decide +kernel
theorem dX6_isOpen_58 : decode cX6_isOpen 58 = .ok (.iconst 0, 1) := by decide +kernel
theorem dX6_isOpen_59 : decode cX6_isOpen 59 = .ok (.istore_n 3, 1) := by decide +kernel
theorem dX6_isOpen_60 : decode cX6_isOpen 60 = .ok (.iinc 4 1, 3) := by decide +kernel
theorem dX6_isOpen_63 : decode cX6_isOpen 63 = .ok (.goto (-58), 3) := by decide +kernel
theorem dX6_isOpen_66 : decode cX6_isOpen 66 = .ok (.iload_n 3, 1) := by decide +kernel
theorem dX6_isOpen_67 : decode cX6_isOpen 67 = .ok (.ireturn, 1) := by decide +kernel
theorem dX6_leaf_0 : decode cX6_leaf 0 = .ok (.aload_n 0, 1) := by decide +kernel
theorem dX6_leaf_1 : decode cX6_leaf 1 = .ok (.iload_n 1, 1) := by decide +kernel
theorem dX6_leaf_2 : decode cX6_leaf 2 = .ok (.invokevirtual 183, 3) := by decide +kernel
theorem dX6_leaf_5 : decode cX6_leaf 5 = .ok (.ifCond .ne 6, 3) := by decide +kernel
theorem dX6_leaf_8 : decode cX6_leaf 8 = .ok (.bipush (-2), 2) := by decide +kernel
theorem dX6_leaf_10 : decode cX6_leaf 10 = .ok (.ireturn, 1) := by decide +kernel
theorem dX6_leaf_11 : decode cX6_leaf 11 = .ok (.iload_n 2, 1) := by decide +kernel
theorem dX6_leaf_12 : decode cX6_leaf 12 = .ok (.ifCond .ne 12, 3) := by decide +kernel
theorem dX6_leaf_15 : decode cX6_leaf 15 = .ok (.aload_n 0, 1) := by decide +kernel
theorem dX6_leaf_16 : decode cX6_leaf 16 = .ok (.getfield 27, 3) := by decide +kernel
theorem dX6_leaf_19 : decode cX6_leaf 19 = .ok (.iload_n 1, 1) := by decide +kernel
theorem dX6_leaf_20 : decode cX6_leaf 20 = .ok (.iaload, 1) := by decide +kernel
theorem dX6_leaf_21 : decode cX6_leaf 21 = .ok (.goto 36, 3) := by decide +kernel
theorem dX6_leaf_24 : decode cX6_leaf 24 = .ok (.iload_n 2, 1) := by decide +kernel
theorem dX6_leaf_25 : decode cX6_leaf 25 = .ok (.iconst 1, 1) := by decide +kernel
theorem dX6_leaf_26 : decode cX6_leaf 26 = .ok (.if_icmp .ne 12, 3) := by decide +kernel
theorem dX6_leaf_29 : decode cX6_leaf 29 = .ok (.aload_n 0, 1) := by decide +kernel
theorem dX6_leaf_30 : decode cX6_leaf 30 = .ok (.getfield 7, 3) := by decide +kernel
theorem dX6_leaf_33 : decode cX6_leaf 33 = .ok (.iload_n 1, 1) := by decide +kernel
theorem dX6_leaf_34 : decode cX6_leaf 34 = .ok (.iaload, 1) := by decide +kernel
theorem dX6_leaf_35 : decode cX6_leaf 35 = .ok (.goto 22, 3) := by decide +kernel
theorem dX6_leaf_38 : decode cX6_leaf 38 = .ok (.iload_n 2, 1) := by decide +kernel
theorem dX6_leaf_39 : decode cX6_leaf 39 = .ok (.iconst 2, 1) := by decide +kernel
theorem dX6_leaf_40 : decode cX6_leaf 40 = .ok (.if_icmp .ne 15, 3) := by decide +kernel
theorem dX6_leaf_43 : decode cX6_leaf 43 = .ok (.aload_n 0, 1) := by decide +kernel
theorem dX6_leaf_44 : decode cX6_leaf 44 = .ok (.getfield 7, 3) := by decide +kernel
theorem dX6_leaf_47 : decode cX6_leaf 47 = .ok (.bipush 56, 2) := by decide +kernel
theorem dX6_leaf_49 : decode cX6_leaf 49 = .ok (.iload_n 1, 1) := by decide +kernel
theorem dX6_leaf_50 : decode cX6_leaf 50 = .ok (.iadd, 1) := by decide +kernel
theorem dX6_leaf_51 : decode cX6_leaf 51 = .ok (.iaload, 1) := by decide +kernel
theorem dX6_leaf_52 : decode cX6_leaf 52 = .ok (.goto 5, 3) := by decide +kernel
theorem dX6_leaf_55 : decode cX6_leaf 55 = .ok (.bipush (-3), 2) := by decide +kernel
theorem dX6_leaf_57 : decode cX6_leaf 57 = .ok (.ireturn, 1) := by decide +kernel
theorem dX6_inRoom_0 : decode cX6_inRoom 0 = .ok (.iconst 0, 1) := by decide +kernel
theorem dX6_inRoom_1 : decode cX6_inRoom 1 = .ok (.istore_n 3, 1) := by decide +kernel
theorem dX6_inRoom_2 : decode cX6_inRoom 2 = .ok (.iconst 0, 1) := by decide +kernel
theorem dX6_inRoom_3 : decode cX6_inRoom 3 = .ok (.istore 4, 2) := by decide +kernel
theorem dX6_inRoom_5 : decode cX6_inRoom 5 = .ok (.iload 4, 2) := by decide +kernel
theorem dX6_inRoom_7 : decode cX6_inRoom 7 = .ok (.aload_n 0, 1) := by decide +kernel
theorem dX6_inRoom_8 : decode cX6_inRoom 8 = .ok (.getfield 153, 3) := by decide +kernel
theorem dX6_inRoom_11 : decode cX6_inRoom 11 = .ok (.if_icmp .ge 36, 3) := by decide +kernel
theorem dX6_inRoom_14 : decode cX6_inRoom 14 = .ok (.iload_n 3, 1) := by decide +kernel
theorem dX6_inRoom_15 : decode cX6_inRoom 15 = .ok (.aload_n 0, 1) := by decide +kernel
theorem dX6_inRoom_16 : decode cX6_inRoom 16 = .ok (.getfield 7, 3) := by decide +kernel
theorem dX6_inRoom_19 : decode cX6_inRoom 19 = .ok (.iload_n 1, 1) := by decide +kernel
theorem dX6_inRoom_20 : decode cX6_inRoom 20 = .ok (.bipush 8, 2) := by decide +kernel
theorem dX6_inRoom_22 : decode cX6_inRoom 22 = .ok (.iadd, 1) := by decide +kernel
theorem dX6_inRoom_23 : decode cX6_inRoom 23 = .ok (.iload 4, 2) := by decide +kernel
theorem dX6_inRoom_25 : decode cX6_inRoom 25 = .ok (.iadd, 1) := by decide +kernel
theorem dX6_inRoom_26 : decode cX6_inRoom 26 = .ok (.iaload, 1) := by decide +kernel
theorem dX6_inRoom_27 : decode cX6_inRoom 27 = .ok (.iload_n 2, 1) := by decide +kernel
theorem dX6_inRoom_28 : decode cX6_inRoom 28 = .ok (.if_icmp .ne 10, 3) := by decide +kernel
theorem dX6_inRoom_31 : decode cX6_inRoom 31 = .ok (.iconst 1, 1) := by decide +kernel
theorem dX6_inRoom_32 : decode cX6_inRoom 32 = .ok (.iload 4, 2) := by decide +kernel
theorem dX6_inRoom_34 : decode cX6_inRoom 34 = .ok (.ishl, 1) := by decide +kernel
theorem dX6_inRoom_35 : decode cX6_inRoom 35 = .ok (.goto 4, 3) := by decide +kernel
theorem dX6_inRoom_38 : decode cX6_inRoom 38 = .ok (.iconst 0, 1) := by decide +kernel
theorem dX6_inRoom_39 : decode cX6_inRoom 39 = .ok (.ior, 1) := by decide +kernel
theorem dX6_inRoom_40 : decode cX6_inRoom 40 = .ok (.istore_n 3, 1) := by decide +kernel
theorem dX6_inRoom_41 : decode cX6_inRoom 41 = .ok (.iinc 4 1, 3) := by decide +kernel
theorem dX6_inRoom_44 : decode cX6_inRoom 44 = .ok (.goto (-39), 3) := by decide +kernel
theorem dX6_inRoom_47 : decode cX6_inRoom 47 = .ok (.iload_n 3, 1) := by decide +kernel
theorem dX6_inRoom_48 : decode cX6_inRoom 48 = .ok (.ireturn, 1) := by decide +kernel
theorem dX6_room_0 : decode cX6_room 0 = .ok (.aload_n 0, 1) := by decide +kernel
theorem dX6_room_1 : decode cX6_room 1 = .ok (.iload_n 1, 1) := by decide +kernel
theorem dX6_room_2 : decode cX6_room 2 = .ok (.invokevirtual 183, 3) := by decide +kernel
theorem dX6_room_5 : decode cX6_room 5 = .ok (.ifCond .ne 6, 3) := by decide +kernel
theorem dX6_room_8 : decode cX6_room 8 = .ok (.bipush (-2), 2) := by decide +kernel
theorem dX6_room_10 : decode cX6_room 10 = .ok (.ireturn, 1) := by decide +kernel
theorem dX6_room_11 : decode cX6_room 11 = .ok (.iload_n 2, 1) := by decide +kernel
theorem dX6_room_12 : decode cX6_room 12 = .ok (.ifCond .ne 12, 3) := by decide +kernel
theorem dX6_room_15 : decode cX6_room 15 = .ok (.aload_n 0, 1) := by decide +kernel
theorem dX6_room_16 : decode cX6_room 16 = .ok (.iconst 0, 1) := by decide +kernel
theorem dX6_room_17 : decode cX6_room 17 = .ok (.iload_n 1, 1) := by decide +kernel
theorem dX6_room_18 : decode cX6_room 18 = .ok (.invokevirtual 180, 3) := by decide +kernel
theorem dX6_room_21 : decode cX6_room 21 = .ok (.goto 55, 3) := by decide +kernel
theorem dX6_room_24 : decode cX6_room 24 = .ok (.iload_n 2, 1) := by decide +kernel
theorem dX6_room_25 : decode cX6_room 25 = .ok (.iconst 1, 1) := by decide +kernel
theorem dX6_room_26 : decode cX6_room 26 = .ok (.if_icmp .ne 12, 3) := by decide +kernel
theorem dX6_room_29 : decode cX6_room 29 = .ok (.aload_n 0, 1) := by decide +kernel
theorem dX6_room_30 : decode cX6_room 30 = .ok (.getfield 30, 3) := by decide +kernel
theorem dX6_room_33 : decode cX6_room 33 = .ok (.iload_n 1, 1) := by decide +kernel
theorem dX6_room_34 : decode cX6_room 34 = .ok (.iaload, 1) := by decide +kernel
theorem dX6_room_35 : decode cX6_room 35 = .ok (.goto 41, 3) := by decide +kernel
theorem dX6_room_38 : decode cX6_room 38 = .ok (.iload_n 2, 1) := by decide +kernel
theorem dX6_room_39 : decode cX6_room 39 = .ok (.iconst 2, 1) := by decide +kernel
theorem dX6_room_40 : decode cX6_room 40 = .ok (.if_icmp .ne 20, 3) := by decide +kernel
theorem dX6_room_43 : decode cX6_room 43 = .ok (.aload_n 0, 1) := by decide +kernel
theorem dX6_room_44 : decode cX6_room 44 = .ok (.iconst 0, 1) := by decide +kernel
theorem dX6_room_45 : decode cX6_room 45 = .ok (.iload_n 1, 1) := by decide +kernel
theorem dX6_room_46 : decode cX6_room 46 = .ok (.invokevirtual 186, 3) := by decide +kernel
theorem dX6_room_49 : decode cX6_room 49 = .ok (.ifCond .eq 7, 3) := by decide +kernel
theorem dX6_room_52 : decode cX6_room 52 = .ok (.iconst 1, 1) := by decide +kernel
theorem dX6_room_53 : decode cX6_room 53 = .ok (.goto 23, 3) := by decide +kernel
theorem dX6_room_56 : decode cX6_room 56 = .ok (.iconst 0, 1) := by decide +kernel
theorem dX6_room_57 : decode cX6_room 57 = .ok (.goto 19, 3) := by decide +kernel
theorem dX6_room_60 : decode cX6_room 60 = .ok (.iload_n 2, 1) := by decide +kernel
theorem dX6_room_61 : decode cX6_room 61 = .ok (.iconst 3, 1) := by decide +kernel
theorem dX6_room_62 : decode cX6_room 62 = .ok (.if_icmp .ne 12, 3) := by decide +kernel
theorem dX6_room_65 : decode cX6_room 65 = .ok (.aload_n 0, 1) := by decide +kernel
theorem dX6_room_66 : decode cX6_room 66 = .ok (.iconst 0, 1) := by decide +kernel
theorem dX6_room_67 : decode cX6_room 67 = .ok (.iload_n 1, 1) := by decide +kernel
theorem dX6_room_68 : decode cX6_room 68 = .ok (.invokevirtual 189, 3) := by decide +kernel
theorem dX6_room_71 : decode cX6_room 71 = .ok (.goto 5, 3) := by decide +kernel
theorem dX6_room_74 : decode cX6_room 74 = .ok (.bipush (-3), 2) := by decide +kernel
theorem dX6_room_76 : decode cX6_room 76 = .ok (.ireturn, 1) := by decide +kernel
theorem dX6_chain_0 : decode cX6_chain 0 = .ok (.aload_n 0, 1) := by decide +kernel
theorem dX6_chain_1 : decode cX6_chain 1 = .ok (.getfield 27, 3) := by decide +kernel
theorem dX6_chain_4 : decode cX6_chain 4 = .ok (.iload_n 2, 1) := by decide +kernel
theorem dX6_chain_5 : decode cX6_chain 5 = .ok (.iaload, 1) := by decide +kernel
theorem dX6_chain_6 : decode cX6_chain 6 = .ok (.iconst 3, 1) := by decide +kernel
theorem dX6_chain_7 : decode cX6_chain 7 = .ok (.if_icmp .ne 5, 3) := by decide +kernel
theorem dX6_chain_10 : decode cX6_chain 10 = .ok (.iconst 0, 1) := by decide +kernel
theorem dX6_chain_11 : decode cX6_chain 11 = .ok (.ireturn, 1) := by decide +kernel
theorem dX6_chain_12 : decode cX6_chain 12 = .ok (.iconst 1, 1) := by decide +kernel
theorem dX6_chain_13 : decode cX6_chain 13 = .ok (.iload_n 2, 1) := by decide +kernel
theorem dX6_chain_14 : decode cX6_chain 14 = .ok (.ishl, 1) := by decide +kernel
theorem dX6_chain_15 : decode cX6_chain 15 = .ok (.istore 4, 2) := by decide +kernel
theorem dX6_chain_17 : decode cX6_chain 17 = .ok (.iload_n 2, 1) := by decide +kernel
theorem dX6_chain_18 : decode cX6_chain 18 = .ok (.istore 5, 2) := by decide +kernel
theorem dX6_chain_20 : decode cX6_chain 20 = .ok (.iconst 0, 1) := by decide +kernel
theorem dX6_chain_21 : decode cX6_chain 21 = .ok (.istore 6, 2) := by decide +kernel
theorem dX6_chain_23 : decode cX6_chain 23 = .ok (.iload 6, 2) := by decide +kernel
theorem dX6_chain_25 : decode cX6_chain 25 = .ok (.aload_n 0, 1) := by decide +kernel
theorem dX6_chain_26 : decode cX6_chain 26 = .ok (.getfield 23, 3) := by decide +kernel
theorem dX6_chain_29 : decode cX6_chain 29 = .ok (.if_icmp .ge 100, 3) := by decide +kernel
theorem dX6_chain_32 : decode cX6_chain 32 = .ok (.iload_n 3, 1) := by decide +kernel
theorem dX6_chain_33 : decode cX6_chain 33 = .ok (.ifCond .ne 8, 3) := by decide +kernel
theorem dX6_chain_36 : decode cX6_chain 36 = .ok (.iload 5, 2) := by decide +kernel
theorem dX6_chain_38 : decode cX6_chain 38 = .ok (.goto 9, 3) := by decide +kernel
theorem dX6_chain_41 : decode cX6_chain 41 = .ok (.aload_n 0, 1) := by decide +kernel
theorem dX6_chain_42 : decode cX6_chain 42 = .ok (.iload 5, 2) := by decide +kernel
theorem dX6_chain_44 : decode cX6_chain 44 = .ok (.invokevirtual 192, 3) := by decide +kernel
theorem dX6_chain_47 : decode cX6_chain 47 = .ok (.istore 7, 2) := by decide +kernel
theorem dX6_chain_49 : decode cX6_chain 49 = .ok (.aload_n 0, 1) := by decide +kernel
theorem dX6_chain_50 : decode cX6_chain 50 = .ok (.iload_n 1, 1) := by decide +kernel
theorem dX6_chain_51 : decode cX6_chain 51 = .ok (.iload 7, 2) := by decide +kernel
theorem dX6_chain_53 : decode cX6_chain 53 = .ok (.invokevirtual 180, 3) := by decide +kernel
theorem dX6_chain_56 : decode cX6_chain 56 = .ok (.aload_n 0, 1) := by decide +kernel
theorem dX6_chain_57 : decode cX6_chain 57 = .ok (.getfield 30, 3) := by decide +kernel
theorem dX6_chain_60 : decode cX6_chain 60 = .ok (.iload 7, 2) := by decide +kernel
theorem dX6_chain_62 : decode cX6_chain 62 = .ok (.iaload, 1) := by decide +kernel
theorem dX6_chain_63 : decode cX6_chain 63 = .ok (.iconst 1, 1) := by decide +kernel
theorem dX6_chain_64 : decode cX6_chain 64 = .ok (.iadd, 1) := by decide +kernel
theorem dX6_chain_65 : decode cX6_chain 65 = .ok (.if_icmp .le 6, 3) := by decide +kernel
theorem dX6_chain_68 : decode cX6_chain 68 = .ok (.iload 4, 2) := by decide +kernel
theorem dX6_chain_70 : decode cX6_chain 70 = .ok (.ireturn, 1) := by decide +kernel
theorem dX6_chain_71 : decode cX6_chain 71 = .ok (.iload_n 3, 1) := by decide +kernel
theorem dX6_chain_72 : decode cX6_chain 72 = .ok (.ifCond .ne 12, 3) := by decide +kernel
theorem dX6_chain_75 : decode cX6_chain 75 = .ok (.aload_n 0, 1) := by decide +kernel
theorem dX6_chain_76 : decode cX6_chain 76 = .ok (.iload 5, 2) := by decide +kernel
theorem dX6_chain_78 : decode cX6_chain 78 = .ok (.invokevirtual 177, 3) := by decide +kernel
theorem dX6_chain_81 : decode cX6_chain 81 = .ok (.goto 9, 3) := by decide +kernel
theorem dX6_chain_84 : decode cX6_chain 84 = .ok (.aload_n 0, 1) := by decide +kernel
theorem dX6_chain_85 : decode cX6_chain 85 = .ok (.iload 5, 2) := by decide +kernel
theorem dX6_chain_87 : decode cX6_chain 87 = .ok (.invokevirtual 192, 3) := by decide +kernel
theorem dX6_chain_90 : decode cX6_chain 90 = .ok (.istore 5, 2) := by decide +kernel
theorem dX6_chain_92 : decode cX6_chain 92 = .ok (.iload 5, 2) := by decide +kernel
theorem dX6_chain_94 : decode cX6_chain 94 = .ok (.iload_n 2, 1) := by decide +kernel
theorem dX6_chain_95 : decode cX6_chain 95 = .ok (.if_icmp .ne 6, 3) := by decide +kernel
theorem dX6_chain_98 : decode cX6_chain 98 = .ok (.iload 4, 2) := by decide +kernel
theorem dX6_chain_100 : decode cX6_chain 100 = .ok (.ireturn, 1) := by decide +kernel
theorem dX6_chain_101 : decode cX6_chain 101 = .ok (.aload_n 0, 1) := by decide +kernel
theorem dX6_chain_102 : decode cX6_chain 102 = .ok (.getfield 27, 3) := by decide +kernel
theorem dX6_chain_105 : decode cX6_chain 105 = .ok (.iload 5, 2) := by decide +kernel
theorem dX6_chain_107 : decode cX6_chain 107 = .ok (.iaload, 1) := by decide +kernel
theorem dX6_chain_108 : decode cX6_chain 108 = .ok (.iconst 1, 1) := by decide +kernel
theorem dX6_chain_109 : decode cX6_chain 109 = .ok (.if_icmp .le 5, 3) := by decide +kernel
theorem dX6_chain_112 : decode cX6_chain 112 = .ok (.iconst 0, 1) := by decide +kernel
theorem dX6_chain_113 : decode cX6_chain 113 = .ok (.ireturn, 1) := by decide +kernel
theorem dX6_chain_114 : decode cX6_chain 114 = .ok (.iload 4, 2) := by decide +kernel
theorem dX6_chain_116 : decode cX6_chain 116 = .ok (.iconst 1, 1) := by decide +kernel
theorem dX6_chain_117 : decode cX6_chain 117 = .ok (.iload 5, 2) := by decide +kernel
theorem dX6_chain_119 : decode cX6_chain 119 = .ok (.ishl, 1) := by decide +kernel
theorem dX6_chain_120 : decode cX6_chain 120 = .ok (.ior, 1) := by decide +kernel
theorem dX6_chain_121 : decode cX6_chain 121 = .ok (.istore 4, 2) := by decide +kernel
theorem dX6_chain_123 : decode cX6_chain 123 = .ok (.iinc 6 1, 3) := by decide +kernel
theorem dX6_chain_126 : decode cX6_chain 126 = .ok (.goto (-103), 3) := by decide +kernel
theorem dX6_chain_129 : decode cX6_chain 129 = .ok (.iconst 0, 1) := by decide +kernel
theorem dX6_chain_130 : decode cX6_chain 130 = .ok (.ireturn, 1) := by decide +kernel
theorem dX6_step_0 : decode cX6_step 0 = .ok (.aload_n 0, 1) := by decide +kernel
theorem dX6_step_1 : decode cX6_step 1 = .ok (.iload_n 1, 1) := by decide +kernel
theorem dX6_step_2 : decode cX6_step 2 = .ok (.iload_n 2, 1) := by decide +kernel
theorem dX6_step_3 : decode cX6_step 3 = .ok (.iload_n 3, 1) := by decide +kernel
theorem dX6_step_4 : decode cX6_step 4 = .ok (.invokevirtual 195, 3) := by decide +kernel
theorem dX6_step_7 : decode cX6_step 7 = .ok (.istore 4, 2) := by decide +kernel
theorem dX6_step_9 : decode cX6_step 9 = .ok (.iconst 0, 1) := by decide +kernel
theorem dX6_step_10 : decode cX6_step 10 = .ok (.istore 5, 2) := by decide +kernel
theorem dX6_step_12 : decode cX6_step 12 = .ok (.iload 5, 2) := by decide +kernel
theorem dX6_step_14 : decode cX6_step 14 = .ok (.aload_n 0, 1) := by decide +kernel
theorem dX6_step_15 : decode cX6_step 15 = .ok (.getfield 23, 3) := by decide +kernel
theorem dX6_step_18 : decode cX6_step 18 = .ok (.if_icmp .ge 63, 3) := by decide +kernel
theorem dX6_step_21 : decode cX6_step 21 = .ok (.aload_n 0, 1) := by decide +kernel
theorem dX6_step_22 : decode cX6_step 22 = .ok (.getfield 7, 3) := by decide +kernel
theorem dX6_step_25 : decode cX6_step 25 = .ok (.iload_n 1, 1) := by decide +kernel
theorem dX6_step_26 : decode cX6_step 26 = .ok (.iload 5, 2) := by decide +kernel
theorem dX6_step_28 : decode cX6_step 28 = .ok (.iadd, 1) := by decide +kernel
theorem dX6_step_29 : decode cX6_step 29 = .ok (.iload 4, 2) := by decide +kernel
theorem dX6_step_31 : decode cX6_step 31 = .ok (.iload 5, 2) := by decide +kernel
theorem dX6_step_33 : decode cX6_step 33 = .ok (.invokestatic 199, 3) := by decide +kernel
theorem dX6_step_36 : decode cX6_step 36 = .ok (.ifCond .eq 29, 3) := by decide +kernel
theorem dX6_step_39 : decode cX6_step 39 = .ok (.aload_n 0, 1) := by decide +kernel
theorem dX6_step_40 : decode cX6_step 40 = .ok (.getfield 7, 3) := by decide +kernel
theorem dX6_step_43 : decode cX6_step 43 = .ok (.iload_n 1, 1) := by decide +kernel
theorem dX6_step_44 : decode cX6_step 44 = .ok (.iload 5, 2) := by decide +kernel
theorem dX6_step_46 : decode cX6_step 46 = .ok (.iadd, 1) := by decide +kernel
theorem dX6_step_47 : decode cX6_step 47 = .ok (.iaload, 1) := by decide +kernel
theorem dX6_step_48 : decode cX6_step 48 = .ok (.iload_n 3, 1) := by decide +kernel
theorem dX6_step_49 : decode cX6_step 49 = .ok (.ifCond .ne 7, 3) := by decide +kernel
theorem dX6_step_52 : decode cX6_step 52 = .ok (.iconst 1, 1) := by decide +kernel
theorem dX6_step_53 : decode cX6_step 53 = .ok (.goto 5, 3) := by decide +kernel
theorem dX6_step_56 : decode cX6_step 56 = .ok (.bipush 71, 2) := by decide +kernel
theorem dX6_step_58 : decode cX6_step 58 = .ok (.iadd, 1) := by decide +kernel
theorem dX6_step_59 : decode cX6_step 59 = .ok (.bipush 72, 2) := by decide +kernel
theorem dX6_step_61 : decode cX6_step 61 = .ok (.irem, 1) := by decide +kernel
theorem dX6_step_62 : decode cX6_step 62 = .ok (.goto 12, 3) := by decide +kernel
theorem dX6_step_65 : decode cX6_step 65 = .ok (.aload_n 0, 1) := by decide +kernel
theorem dX6_step_66 : decode cX6_step 66 = .ok (.getfield 7, 3) := by decide +kernel
theorem dX6_step_69 : decode cX6_step 69 = .ok (.iload_n 1, 1) := by decide +kernel
theorem dX6_step_70 : decode cX6_step 70 = .ok (.iload 5, 2) := by decide +kernel
theorem dX6_step_72 : decode cX6_step 72 = .ok (.iadd, 1) := by decide +kernel
theorem dX6_step_73 : decode cX6_step 73 = .ok (.iaload, 1) := by decide +kernel
theorem dX6_step_74 : decode cX6_step 74 = .ok (.iastore, 1) := by decide +kernel
theorem dX6_step_75 : decode cX6_step 75 = .ok (.iinc 5 1, 3) := by decide +kernel
theorem dX6_step_78 : decode cX6_step 78 = .ok (.goto (-66), 3) := by decide +kernel
theorem dX6_step_81 : decode cX6_step 81 = .ok (.iload 4, 2) := by decide +kernel
theorem dX6_step_83 : decode cX6_step 83 = .ok (.ifCond .eq 7, 3) := by decide +kernel
theorem dX6_step_86 : decode cX6_step 86 = .ok (.iconst 1, 1) := by decide +kernel
theorem dX6_step_87 : decode cX6_step 87 = .ok (.goto 4, 3) := by decide +kernel
theorem dX6_step_90 : decode cX6_step 90 = .ok (.iconst 0, 1) := by decide +kernel
theorem dX6_step_91 : decode cX6_step 91 = .ok (.ireturn, 1) := by decide +kernel
theorem dX6_as_0 : decode cX6_as 0 = .ok (.aload_n 0, 1) := by decide +kernel
theorem dX6_as_1 : decode cX6_as 1 = .ok (.iload_n 1, 1) := by decide +kernel
theorem dX6_as_2 : decode cX6_as 2 = .ok (.invokevirtual 183, 3) := by decide +kernel
theorem dX6_as_5 : decode cX6_as 5 = .ok (.ifCond .ne 6, 3) := by decide +kernel
theorem dX6_as_8 : decode cX6_as 8 = .ok (.bipush (-2), 2) := by decide +kernel
theorem dX6_as_10 : decode cX6_as 10 = .ok (.ireturn, 1) := by decide +kernel
theorem dX6_as_11 : decode cX6_as 11 = .ok (.iload_n 2, 1) := by decide +kernel
theorem dX6_as_12 : decode cX6_as 12 = .ok (.i2l, 1) := by decide +kernel
theorem dX6_as_13 : decode cX6_as 13 = .ok (.lconst 0, 1) := by decide +kernel
theorem dX6_as_14 : decode cX6_as 14 = .ok (.ldc2_w 202, 3) := by decide +kernel
theorem dX6_as_17 : decode cX6_as 17 = .ok (.invokestatic 60, 3) := by decide +kernel
theorem dX6_as_20 : decode cX6_as 20 = .ok (.ifCond .ne 6, 3) := by decide +kernel
theorem dX6_as_23 : decode cX6_as 23 = .ok (.bipush (-3), 2) := by decide +kernel
theorem dX6_as_25 : decode cX6_as 25 = .ok (.ireturn, 1) := by decide +kernel
theorem dX6_as_26 : decode cX6_as 26 = .ok (.aload_n 0, 1) := by decide +kernel
theorem dX6_as_27 : decode cX6_as 27 = .ok (.getfield 27, 3) := by decide +kernel
theorem dX6_as_30 : decode cX6_as 30 = .ok (.iload_n 1, 1) := by decide +kernel
theorem dX6_as_31 : decode cX6_as 31 = .ok (.iaload, 1) := by decide +kernel
theorem dX6_as_32 : decode cX6_as 32 = .ok (.istore_n 3, 1) := by decide +kernel
theorem dX6_as_33 : decode cX6_as 33 = .ok (.iload_n 2, 1) := by decide +kernel
theorem dX6_as_34 : decode cX6_as 34 = .ok (.ifCond .eq 43, 3) := by decide +kernel
theorem dX6_as_37 : decode cX6_as 37 = .ok (.iload_n 2, 1) := by decide +kernel
theorem dX6_as_38 : decode cX6_as 38 = .ok (.iconst 1, 1) := by decide +kernel
theorem dX6_as_39 : decode cX6_as 39 = .ok (.if_icmp .ne 8, 3) := by decide +kernel
theorem dX6_as_42 : decode cX6_as 42 = .ok (.iload_n 3, 1) := by decide +kernel
theorem dX6_as_43 : decode cX6_as 43 = .ok (.iconst 2, 1) := by decide +kernel
theorem dX6_as_44 : decode cX6_as 44 = .ok (.if_icmp .lt 33, 3) := by decide +kernel
theorem dX6_as_47 : decode cX6_as 47 = .ok (.iload_n 2, 1) := by decide +kernel
theorem dX6_as_48 : decode cX6_as 48 = .ok (.iconst 2, 1) := by decide +kernel
theorem dX6_as_49 : decode cX6_as 49 = .ok (.if_icmp .ne 8, 3) := by decide +kernel
theorem dX6_as_52 : decode cX6_as 52 = .ok (.iload_n 3, 1) := by decide +kernel
theorem dX6_as_53 : decode cX6_as 53 = .ok (.iconst 1, 1) := by decide +kernel
theorem dX6_as_54 : decode cX6_as 54 = .ok (.if_icmp .eq 23, 3) := by decide +kernel
theorem dX6_as_57 : decode cX6_as 57 = .ok (.iload_n 2, 1) := by decide +kernel
theorem dX6_as_58 : decode cX6_as 58 = .ok (.iconst 3, 1) := by decide +kernel
theorem dX6_as_59 : decode cX6_as 59 = .ok (.if_icmp .ne 8, 3) := by decide +kernel
theorem dX6_as_62 : decode cX6_as 62 = .ok (.iload_n 3, 1) := by decide +kernel
theorem dX6_as_63 : decode cX6_as 63 = .ok (.iconst 2, 1) := by decide +kernel
theorem dX6_as_64 : decode cX6_as 64 = .ok (.if_icmp .ge 13, 3) := by decide +kernel
theorem dX6_as_67 : decode cX6_as 67 = .ok (.iload_n 2, 1) := by decide +kernel
theorem dX6_as_68 : decode cX6_as 68 = .ok (.iconst 4, 1) := by decide +kernel
theorem dX6_as_69 : decode cX6_as 69 = .ok (.if_icmp .ne 12, 3) := by decide +kernel
theorem dX6_as_72 : decode cX6_as 72 = .ok (.iload_n 3, 1) := by decide +kernel
theorem dX6_as_73 : decode cX6_as 73 = .ok (.iconst 3, 1) := by decide +kernel
theorem dX6_as_74 : decode cX6_as 74 = .ok (.if_icmp .ne 7, 3) := by decide +kernel
theorem dX6_as_77 : decode cX6_as 77 = .ok (.iconst 1, 1) := by decide +kernel
theorem dX6_as_78 : decode cX6_as 78 = .ok (.goto 4, 3) := by decide +kernel
theorem dX6_as_81 : decode cX6_as 81 = .ok (.iconst 0, 1) := by decide +kernel
theorem dX6_as_82 : decode cX6_as 82 = .ok (.istore 4, 2) := by decide +kernel
theorem dX6_as_84 : decode cX6_as 84 = .ok (.iload 4, 2) := by decide +kernel
theorem dX6_as_86 : decode cX6_as 86 = .ok (.ifCond .eq 37, 3) := by decide +kernel
theorem dX6_as_89 : decode cX6_as 89 = .ok (.aload_n 0, 1) := by decide +kernel
theorem dX6_as_90 : decode cX6_as 90 = .ok (.iconst 0, 1) := by decide +kernel
theorem dX6_as_91 : decode cX6_as 91 = .ok (.iload_n 1, 1) := by decide +kernel
theorem dX6_as_92 : decode cX6_as 92 = .ok (.iconst 0, 1) := by decide +kernel
theorem dX6_as_93 : decode cX6_as 93 = .ok (.invokevirtual 195, 3) := by decide +kernel
theorem dX6_as_96 : decode cX6_as 96 = .ok (.ifCond .eq 7, 3) := by decide +kernel
theorem dX6_as_99 : decode cX6_as 99 = .ok (.iconst 1, 1) := by decide +kernel
theorem dX6_as_100 : decode cX6_as 100 = .ok (.goto 4, 3) := by decide +kernel
theorem dX6_as_103 : decode cX6_as 103 = .ok (.iconst 0, 1) := by decide +kernel
theorem dX6_as_104 : decode cX6_as 104 = .ok (.aload_n 0, 1) := by decide +kernel
theorem dX6_as_105 : decode cX6_as 105 = .ok (.iconst 0, 1) := by decide +kernel
theorem dX6_as_106 : decode cX6_as 106 = .ok (.iload_n 1, 1) := by decide +kernel
theorem dX6_as_107 : decode cX6_as 107 = .ok (.iconst 1, 1) := by decide +kernel
theorem dX6_as_108 : decode cX6_as 108 = .ok (.invokevirtual 195, 3) := by decide +kernel
theorem dX6_as_111 : decode cX6_as 111 = .ok (.ifCond .eq 7, 3) := by decide +kernel
theorem dX6_as_114 : decode cX6_as 114 = .ok (.iconst 2, 1) := by decide +kernel
theorem dX6_as_115 : decode cX6_as 115 = .ok (.goto 4, 3) := by decide +kernel
theorem dX6_as_118 : decode cX6_as 118 = .ok (.iconst 0, 1) := by decide +kernel
theorem dX6_as_119 : decode cX6_as 119 = .ok (.iadd, 1) := by decide +kernel
theorem dX6_as_120 : decode cX6_as 120 = .ok (.goto 5, 3) := by decide +kernel
theorem dX6_as_123 : decode cX6_as 123 = .ok (.bipush (-4), 2) := by decide +kernel
theorem dX6_as_125 : decode cX6_as 125 = .ok (.ireturn, 1) := by decide +kernel
theorem dX6_person_0 : decode cX6_person 0 = .ok (.aload_n 0, 1) := by decide +kernel
theorem dX6_person_1 : decode cX6_person 1 = .ok (.iload_n 1, 1) := by decide +kernel
theorem dX6_person_2 : decode cX6_person 2 = .ok (.invokevirtual 204, 3) := by decide +kernel
theorem dX6_person_5 : decode cX6_person 5 = .ok (.ifCond .eq 15, 3) := by decide +kernel
theorem dX6_person_8 : decode cX6_person 8 = .ok (.aload_n 0, 1) := by decide +kernel
theorem dX6_person_9 : decode cX6_person 9 = .ok (.getfield 7, 3) := by decide +kernel
theorem dX6_person_12 : decode cX6_person 12 = .ok (.bipush 8, 2) := by decide +kernel
theorem dX6_person_14 : decode cX6_person 14 = .ok (.iload_n 1, 1) := by decide +kernel
theorem dX6_person_15 : decode cX6_person 15 = .ok (.iadd, 1) := by decide +kernel
theorem dX6_person_16 : decode cX6_person 16 = .ok (.iaload, 1) := by decide +kernel
theorem dX6_person_17 : decode cX6_person 17 = .ok (.goto 5, 3) := by decide +kernel
theorem dX6_person_20 : decode cX6_person 20 = .ok (.bipush (-2), 2) := by decide +kernel
theorem dX6_person_22 : decode cX6_person 22 = .ok (.ireturn, 1) := by decide +kernel
theorem dX6_pushBy_0 : decode cX6_pushBy 0 = .ok (.iconst 0, 1) := by decide +kernel
theorem dX6_pushBy_1 : decode cX6_pushBy 1 = .ok (.istore 5, 2) := by decide +kernel
theorem dX6_pushBy_3 : decode cX6_pushBy 3 = .ok (.iload 5, 2) := by decide +kernel
theorem dX6_pushBy_5 : decode cX6_pushBy 5 = .ok (.iload 4, 2) := by decide +kernel
theorem dX6_pushBy_7 : decode cX6_pushBy 7 = .ok (.if_icmp .ge 19, 3) := by decide +kernel
theorem dX6_pushBy_10 : decode cX6_pushBy 10 = .ok (.aload_n 0, 1) := by decide +kernel
theorem dX6_pushBy_11 : decode cX6_pushBy 11 = .ok (.iload_n 1, 1) := by decide +kernel
theorem dX6_pushBy_12 : decode cX6_pushBy 12 = .ok (.iload_n 2, 1) := by decide +kernel
theorem dX6_pushBy_13 : decode cX6_pushBy 13 = .ok (.iload_n 3, 1) := by decide +kernel
theorem dX6_pushBy_14 : decode cX6_pushBy 14 = .ok (.invokevirtual 207, 3) := by decide +kernel
theorem dX6_pushBy_17 : decode cX6_pushBy 17 = .ok (.ifCond .eq 9, 3) := by decide +kernel
theorem dX6_pushBy_20 : decode cX6_pushBy 20 = .ok (.iinc 5 1, 3) := by decide +kernel
theorem dX6_pushBy_23 : decode cX6_pushBy 23 = .ok (.goto (-20), 3) := by decide +kernel
theorem dX6_pushBy_26 : decode cX6_pushBy 26 = .ok (.iload 5, 2) := by decide +kernel
theorem dX6_pushBy_28 : decode cX6_pushBy 28 = .ok (.ireturn, 1) := by decide +kernel
theorem dX6_push_0 : decode cX6_push 0 = .ok (.aload_n 0, 1) := by decide +kernel
theorem dX6_push_1 : decode cX6_push 1 = .ok (.iload_n 1, 1) := by decide +kernel
theorem dX6_push_2 : decode cX6_push 2 = .ok (.invokevirtual 183, 3) := by decide +kernel
theorem dX6_push_5 : decode cX6_push 5 = .ok (.ifCond .ne 6, 3) := by decide +kernel
theorem dX6_push_8 : decode cX6_push 8 = .ok (.bipush (-2), 2) := by decide +kernel
theorem dX6_push_10 : decode cX6_push 10 = .ok (.ireturn, 1) := by decide +kernel
theorem dX6_push_11 : decode cX6_push 11 = .ok (.iload_n 2, 1) := by decide +kernel
theorem dX6_push_12 : decode cX6_push 12 = .ok (.invokestatic 210, 3) := by decide +kernel
theorem dX6_push_15 : decode cX6_push 15 = .ok (.ifCond .eq 26, 3) := by decide +kernel
theorem dX6_push_18 : decode cX6_push 18 = .ok (.iload_n 3, 1) := by decide +kernel
theorem dX6_push_19 : decode cX6_push 19 = .ok (.i2l, 1) := by decide +kernel
theorem dX6_push_20 : decode cX6_push 20 = .ok (.lconst 1, 1) := by decide +kernel
theorem dX6_push_21 : decode cX6_push 21 = .ok (.ldc2_w 213, 3) := by decide +kernel
theorem dX6_push_24 : decode cX6_push 24 = .ok (.invokestatic 60, 3) := by decide +kernel
theorem dX6_push_27 : decode cX6_push 27 = .ok (.ifCond .eq 14, 3) := by decide +kernel
theorem dX6_push_30 : decode cX6_push 30 = .ok (.aload_n 0, 1) := by decide +kernel
theorem dX6_push_31 : decode cX6_push 31 = .ok (.iconst 0, 1) := by decide +kernel
theorem dX6_push_32 : decode cX6_push 32 = .ok (.iload_n 1, 1) := by decide +kernel
theorem dX6_push_33 : decode cX6_push 33 = .ok (.iload_n 2, 1) := by decide +kernel
theorem dX6_push_34 : decode cX6_push 34 = .ok (.iload_n 3, 1) := by decide +kernel
theorem dX6_push_35 : decode cX6_push 35 = .ok (.invokevirtual 215, 3) := by decide +kernel
theorem dX6_push_38 : decode cX6_push 38 = .ok (.goto 5, 3) := by decide +kernel
theorem dX6_push_41 : decode cX6_push 41 = .ok (.bipush (-3), 2) := by decide +kernel
theorem dX6_push_43 : decode cX6_push 43 = .ok (.ireturn, 1) := by decide +kernel
theorem dX6_hour_0 : decode cX6_hour 0 = .ok (.iconst 0, 1) := by decide +kernel
theorem dX6_hour_1 : decode cX6_hour 1 = .ok (.istore_n 1, 1) := by decide +kernel
theorem dX6_hour_2 : decode cX6_hour 2 = .ok (.iload_n 1, 1) := by decide +kernel
theorem dX6_hour_3 : decode cX6_hour 3 = .ok (.aload_n 0, 1) := by decide +kernel
theorem dX6_hour_4 : decode cX6_hour 4 = .ok (.getfield 23, 3) := by decide +kernel
theorem dX6_hour_7 : decode cX6_hour 7 = .ok (.if_icmp .ge 62, 3) := by decide +kernel
theorem dX6_hour_10 : decode cX6_hour 10 = .ok (.aload_n 0, 1) := by decide +kernel
theorem dX6_hour_11 : decode cX6_hour 11 = .ok (.getfield 7, 3) := by decide +kernel
theorem dX6_hour_14 : decode cX6_hour 14 = .ok (.iload_n 1, 1) := by decide +kernel
theorem dX6_hour_15 : decode cX6_hour 15 = .ok (.iaload, 1) := by decide +kernel
theorem dX6_hour_16 : decode cX6_hour 16 = .ok (.aload_n 0, 1) := by decide +kernel
theorem dX6_hour_17 : decode cX6_hour 17 = .ok (.getfield 7, 3) := by decide +kernel
theorem dX6_hour_20 : decode cX6_hour 20 = .ok (.bipush 56, 2) := by decide +kernel
theorem dX6_hour_22 : decode cX6_hour 22 = .ok (.iload_n 1, 1) := by decide +kernel
theorem dX6_hour_23 : decode cX6_hour 23 = .ok (.iadd, 1) := by decide +kernel
theorem dX6_hour_24 : decode cX6_hour 24 = .ok (.iaload, 1) := by decide +kernel
theorem dX6_hour_25 : decode cX6_hour 25 = .ok (.invokestatic 54, 3) := by decide +kernel
theorem dX6_hour_28 : decode cX6_hour 28 = .ok (.istore_n 2, 1) := by decide +kernel
theorem dX6_hour_29 : decode cX6_hour 29 = .ok (.aload_n 0, 1) := by decide +kernel
theorem dX6_hour_30 : decode cX6_hour 30 = .ok (.getfield 27, 3) := by decide +kernel
theorem dX6_hour_33 : decode cX6_hour 33 = .ok (.iload_n 1, 1) := by decide +kernel
theorem dX6_hour_34 : decode cX6_hour 34 = .ok (.iaload, 1) := by decide +kernel
theorem dX6_hour_35 : decode cX6_hour 35 = .ok (.iconst 1, 1) := by decide +kernel
theorem dX6_hour_36 : decode cX6_hour 36 = .ok (.if_icmp .ne 27, 3) := by decide +kernel
theorem dX6_hour_39 : decode cX6_hour 39 = .ok (.iload_n 2, 1) := by decide +kernel
theorem dX6_hour_40 : decode cX6_hour 40 = .ok (.ifCond .eq 23, 3) := by decide +kernel
theorem dX6_hour_43 : decode cX6_hour 43 = .ok (.aload_n 0, 1) := by decide +kernel
theorem dX6_hour_44 : decode cX6_hour 44 = .ok (.iconst 0, 1) := by decide +kernel
theorem dX6_hour_45 : decode cX6_hour 45 = .ok (.iload_n 1, 1) := by decide +kernel
theorem dX6_hour_46 : decode cX6_hour 46 = .ok (.iload_n 2, 1) := by decide +kernel
theorem dX6_hour_47 : decode cX6_hour 47 = .ok (.bipush 72, 2) := by decide +kernel
theorem dX6_hour_49 : decode cX6_hour 49 = .ok (.iload_n 2, 1) := by decide +kernel
theorem dX6_hour_50 : decode cX6_hour 50 = .ok (.isub, 1) := by decide +kernel
theorem dX6_hour_51 : decode cX6_hour 51 = .ok (.if_icmp .gt 7, 3) := by decide +kernel
theorem dX6_hour_54 : decode cX6_hour 54 = .ok (.iconst 0, 1) := by decide +kernel
theorem dX6_hour_55 : decode cX6_hour 55 = .ok (.goto 4, 3) := by decide +kernel
theorem dX6_hour_58 : decode cX6_hour 58 = .ok (.iconst 1, 1) := by decide +kernel
theorem dX6_hour_59 : decode cX6_hour 59 = .ok (.invokevirtual 207, 3) := by decide +kernel
theorem dX6_hour_62 : decode cX6_hour 62 = .ok (.pop, 1) := by decide +kernel
theorem dX6_hour_63 : decode cX6_hour 63 = .ok (.iinc 1 1, 3) := by decide +kernel
theorem dX6_hour_66 : decode cX6_hour 66 = .ok (.goto (-64), 3) := by decide +kernel
theorem dX6_hour_69 : decode cX6_hour 69 = .ok (.aload_n 0, 1) := by decide +kernel
theorem dX6_hour_70 : decode cX6_hour 70 = .ok (.getfield 7, 3) := by decide +kernel
theorem dX6_hour_73 : decode cX6_hour 73 = .ok (.bipush 13, 2) := by decide +kernel
theorem dX6_hour_75 : decode cX6_hour 75 = .ok (.dup2, 1) := by decide +kernel
theorem dX6_hour_76 : decode cX6_hour 76 = .ok (.iaload, 1) := by decide +kernel
theorem dX6_hour_77 : decode cX6_hour 77 = .ok (.iconst 1, 1) := by decide +kernel
theorem dX6_hour_78 : decode cX6_hour 78 = .ok (.iadd, 1) := by decide +kernel
theorem dX6_hour_79 : decode cX6_hour 79 = .ok (.iastore, 1) := by decide +kernel
theorem dX6_hour_80 : decode cX6_hour 80 = .ok (.return_, 1) := by decide +kernel
theorem dX6_hours_0 : decode cX6_hours 0 = .ok (.iload_n 1, 1) := by decide +kernel
theorem dX6_hours_1 : decode cX6_hours 1 = .ok (.i2l, 1) := by decide +kernel
theorem dX6_hours_2 : decode cX6_hours 2 = .ok (.lconst 1, 1) := by decide +kernel
theorem dX6_hours_3 : decode cX6_hours 3 = .ok (.ldc2_w 219, 3) := by decide +kernel
theorem dX6_hours_6 : decode cX6_hours 6 = .ok (.invokestatic 60, 3) := by decide +kernel
theorem dX6_hours_9 : decode cX6_hours 9 = .ok (.ifCond .ne 6, 3) := by decide +kernel
theorem dX6_hours_12 : decode cX6_hours 12 = .ok (.bipush (-3), 2) := by decide +kernel
theorem dX6_hours_14 : decode cX6_hours 14 = .ok (.ireturn, 1) := by decide +kernel
theorem dX6_hours_15 : decode cX6_hours 15 = .ok (.aload_n 0, 1) := by decide +kernel
theorem dX6_hours_16 : decode cX6_hours 16 = .ok (.getfield 7, 3) := by decide +kernel
theorem dX6_hours_19 : decode cX6_hours 19 = .ok (.bipush 13, 2) := by decide +kernel
theorem dX6_hours_21 : decode cX6_hours 21 = .ok (.iaload, 1) := by decide +kernel
theorem dX6_hours_22 : decode cX6_hours 22 = .ok (.iload_n 1, 1) := by decide +kernel
theorem dX6_hours_23 : decode cX6_hours 23 = .ok (.iadd, 1) := by decide +kernel
theorem dX6_hours_24 : decode cX6_hours 24 = .ok (.sipush 9999, 3) := by decide +kernel
theorem dX6_hours_27 : decode cX6_hours 27 = .ok (.if_icmp .le 6, 3) := by decide +kernel
theorem dX6_hours_30 : decode cX6_hours 30 = .ok (.bipush (-5), 2) := by decide +kernel
theorem dX6_hours_32 : decode cX6_hours 32 = .ok (.ireturn, 1) := by decide +kernel
theorem dX6_hours_33 : decode cX6_hours 33 = .ok (.iconst 0, 1) := by decide +kernel
theorem dX6_hours_34 : decode cX6_hours 34 = .ok (.istore_n 2, 1) := by decide +kernel
theorem dX6_hours_35 : decode cX6_hours 35 = .ok (.iload_n 2, 1) := by decide +kernel
theorem dX6_hours_36 : decode cX6_hours 36 = .ok (.iload_n 1, 1) := by decide +kernel
theorem dX6_hours_37 : decode cX6_hours 37 = .ok (.if_icmp .ge 13, 3) := by decide +kernel
theorem dX6_hours_40 : decode cX6_hours 40 = .ok (.aload_n 0, 1) := by decide +kernel
theorem dX6_hours_41 : decode cX6_hours 41 = .ok (.invokevirtual 221, 3) := by decide +kernel
theorem dX6_hours_44 : decode cX6_hours 44 = .ok (.iinc 2 1, 3) := by decide +kernel
theorem dX6_hours_47 : decode cX6_hours 47 = .ok (.goto (-12), 3) := by decide +kernel
theorem dX6_hours_50 : decode cX6_hours 50 = .ok (.aload_n 0, 1) := by decide +kernel
theorem dX6_hours_51 : decode cX6_hours 51 = .ok (.getfield 7, 3) := by decide +kernel
theorem dX6_hours_54 : decode cX6_hours 54 = .ok (.bipush 13, 2) := by decide +kernel
theorem dX6_hours_56 : decode cX6_hours 56 = .ok (.iaload, 1) := by decide +kernel
theorem dX6_hours_57 : decode cX6_hours 57 = .ok (.ireturn, 1) := by decide +kernel
theorem dX6_leave_0 : decode cX6_leave 0 = .ok (.aload_n 0, 1) := by decide +kernel
theorem dX6_leave_1 : decode cX6_leave 1 = .ok (.iload_n 1, 1) := by decide +kernel
theorem dX6_leave_2 : decode cX6_leave 2 = .ok (.invokevirtual 204, 3) := by decide +kernel
theorem dX6_leave_5 : decode cX6_leave 5 = .ok (.ifCond .ne 6, 3) := by decide +kernel
theorem dX6_leave_8 : decode cX6_leave 8 = .ok (.bipush (-2), 2) := by decide +kernel
theorem dX6_leave_10 : decode cX6_leave 10 = .ok (.ireturn, 1) := by decide +kernel
theorem dX6_leave_11 : decode cX6_leave 11 = .ok (.aload_n 0, 1) := by decide +kernel
theorem dX6_leave_12 : decode cX6_leave 12 = .ok (.getfield 7, 3) := by decide +kernel
theorem dX6_leave_15 : decode cX6_leave 15 = .ok (.bipush 8, 2) := by decide +kernel
theorem dX6_leave_17 : decode cX6_leave 17 = .ok (.iload_n 1, 1) := by decide +kernel
theorem dX6_leave_18 : decode cX6_leave 18 = .ok (.iadd, 1) := by decide +kernel
theorem dX6_leave_19 : decode cX6_leave 19 = .ok (.iaload, 1) := by decide +kernel
theorem dX6_leave_20 : decode cX6_leave 20 = .ok (.istore_n 2, 1) := by decide +kernel
theorem dX6_leave_21 : decode cX6_leave 21 = .ok (.iload_n 2, 1) := by decide +kernel
theorem dX6_leave_22 : decode cX6_leave 22 = .ok (.iconst (-1), 1) := by decide +kernel
theorem dX6_leave_23 : decode cX6_leave 23 = .ok (.if_icmp .eq 12, 3) := by decide +kernel
theorem dX6_leave_26 : decode cX6_leave 26 = .ok (.aload_n 0, 1) := by decide +kernel
theorem dX6_leave_27 : decode cX6_leave 27 = .ok (.iconst 0, 1) := by decide +kernel
theorem dX6_leave_28 : decode cX6_leave 28 = .ok (.iload_n 2, 1) := by decide +kernel
theorem dX6_leave_29 : decode cX6_leave 29 = .ok (.invokevirtual 186, 3) := by decide +kernel
theorem dX6_leave_32 : decode cX6_leave 32 = .ok (.ifCond .ne 6, 3) := by decide +kernel
theorem dX6_leave_35 : decode cX6_leave 35 = .ok (.bipush (-4), 2) := by decide +kernel
theorem dX6_leave_37 : decode cX6_leave 37 = .ok (.ireturn, 1) := by decide +kernel
theorem dX6_leave_38 : decode cX6_leave 38 = .ok (.aload_n 0, 1) := by decide +kernel
theorem dX6_leave_39 : decode cX6_leave 39 = .ok (.getfield 7, 3) := by decide +kernel
theorem dX6_leave_42 : decode cX6_leave 42 = .ok (.bipush 8, 2) := by decide +kernel
theorem dX6_leave_44 : decode cX6_leave 44 = .ok (.iload_n 1, 1) := by decide +kernel
theorem dX6_leave_45 : decode cX6_leave 45 = .ok (.iadd, 1) := by decide +kernel
theorem dX6_leave_46 : decode cX6_leave 46 = .ok (.iconst (-1), 1) := by decide +kernel
theorem dX6_leave_47 : decode cX6_leave 47 = .ok (.iastore, 1) := by decide +kernel
theorem dX6_leave_48 : decode cX6_leave 48 = .ok (.iload_n 2, 1) := by decide +kernel
theorem dX6_leave_49 : decode cX6_leave 49 = .ok (.ireturn, 1) := by decide +kernel
theorem dX6_bits_0 : decode cX6_bits 0 = .ok (.iconst 0, 1) := by decide +kernel
theorem dX6_bits_1 : decode cX6_bits 1 = .ok (.istore_n 1, 1) := by decide +kernel
theorem dX6_bits_2 : decode cX6_bits 2 = .ok (.iconst 0, 1) := by decide +kernel
theorem dX6_bits_3 : decode cX6_bits 3 = .ok (.istore_n 2, 1) := by decide +kernel
theorem dX6_bits_4 : decode cX6_bits 4 = .ok (.iload_n 2, 1) := by decide +kernel
theorem dX6_bits_5 : decode cX6_bits 5 = .ok (.bipush 8, 2) := by decide +kernel
theorem dX6_bits_7 : decode cX6_bits 7 = .ok (.if_icmp .ge 17, 3) := by decide +kernel
theorem dX6_bits_10 : decode cX6_bits 10 = .ok (.iload_n 1, 1) := by decide +kernel
theorem dX6_bits_11 : decode cX6_bits 11 = .ok (.iload_n 0, 1) := by decide +kernel
theorem dX6_bits_12 : decode cX6_bits 12 = .ok (.iload_n 2, 1) := by decide +kernel
theorem dX6_bits_13 : decode cX6_bits 13 = .ok (.ishr, 1) := by decide +kernel
theorem dX6_bits_14 : decode cX6_bits 14 = .ok (.iconst 1, 1) := by decide +kernel
theorem dX6_bits_15 : decode cX6_bits 15 = .ok (.iand, 1) := by decide +kernel
theorem dX6_bits_16 : decode cX6_bits 16 = .ok (.iadd, 1) := by decide +kernel
theorem dX6_bits_17 : decode cX6_bits 17 = .ok (.istore_n 1, 1) := by decide +kernel
theorem dX6_bits_18 : decode cX6_bits 18 = .ok (.iinc 2 1, 3) := by decide +kernel
theorem dX6_bits_21 : decode cX6_bits 21 = .ok (.goto (-17), 3) := by decide +kernel
theorem dX6_bits_24 : decode cX6_bits 24 = .ok (.iload_n 1, 1) := by decide +kernel
theorem dX6_bits_25 : decode cX6_bits 25 = .ok (.ireturn, 1) := by decide +kernel
theorem dX6_enter_0 : decode cX6_enter 0 = .ok (.aload_n 0, 1) := by decide +kernel
theorem dX6_enter_1 : decode cX6_enter 1 = .ok (.iload_n 1, 1) := by decide +kernel
theorem dX6_enter_2 : decode cX6_enter 2 = .ok (.invokevirtual 204, 3) := by decide +kernel
theorem dX6_enter_5 : decode cX6_enter 5 = .ok (.ifCond .eq 11, 3) := by decide +kernel
theorem dX6_enter_8 : decode cX6_enter 8 = .ok (.aload_n 0, 1) := by decide +kernel
theorem dX6_enter_9 : decode cX6_enter 9 = .ok (.iload_n 2, 1) := by decide +kernel
theorem dX6_enter_10 : decode cX6_enter 10 = .ok (.invokevirtual 183, 3) := by decide +kernel
theorem dX6_enter_13 : decode cX6_enter 13 = .ok (.ifCond .ne 6, 3) := by decide +kernel
theorem dX6_enter_16 : decode cX6_enter 16 = .ok (.bipush (-2), 2) := by decide +kernel
theorem dX6_enter_18 : decode cX6_enter 18 = .ok (.ireturn, 1) := by decide +kernel
theorem dX6_enter_19 : decode cX6_enter 19 = .ok (.aload_n 0, 1) := by decide +kernel
theorem dX6_enter_20 : decode cX6_enter 20 = .ok (.getfield 7, 3) := by decide +kernel
theorem dX6_enter_23 : decode cX6_enter 23 = .ok (.bipush 8, 2) := by decide +kernel
theorem dX6_enter_25 : decode cX6_enter 25 = .ok (.iload_n 1, 1) := by decide +kernel
theorem dX6_enter_26 : decode cX6_enter 26 = .ok (.iadd, 1) := by decide +kernel
theorem dX6_enter_27 : decode cX6_enter 27 = .ok (.iaload, 1) := by decide +kernel
theorem dX6_enter_28 : decode cX6_enter 28 = .ok (.iconst (-1), 1) := by decide +kernel
theorem dX6_enter_29 : decode cX6_enter 29 = .ok (.if_icmp .ne 12, 3) := by decide +kernel
theorem dX6_enter_32 : decode cX6_enter 32 = .ok (.aload_n 0, 1) := by decide +kernel
theorem dX6_enter_33 : decode cX6_enter 33 = .ok (.iconst 0, 1) := by decide +kernel
theorem dX6_enter_34 : decode cX6_enter 34 = .ok (.iload_n 2, 1) := by decide +kernel
theorem dX6_enter_35 : decode cX6_enter 35 = .ok (.invokevirtual 186, 3) := by decide +kernel
theorem dX6_enter_38 : decode cX6_enter 38 = .ok (.ifCond .ne 6, 3) := by decide +kernel
theorem dX6_enter_41 : decode cX6_enter 41 = .ok (.bipush (-4), 2) := by decide +kernel
theorem dX6_enter_43 : decode cX6_enter 43 = .ok (.ireturn, 1) := by decide +kernel
theorem dX6_enter_44 : decode cX6_enter 44 = .ok (.aload_n 0, 1) := by decide +kernel
theorem dX6_enter_45 : decode cX6_enter 45 = .ok (.getfield 7, 3) := by decide +kernel
theorem dX6_enter_48 : decode cX6_enter 48 = .ok (.bipush 8, 2) := by decide +kernel
theorem dX6_enter_50 : decode cX6_enter 50 = .ok (.iload_n 1, 1) := by decide +kernel
theorem dX6_enter_51 : decode cX6_enter 51 = .ok (.iadd, 1) := by decide +kernel
theorem dX6_enter_52 : decode cX6_enter 52 = .ok (.iload_n 2, 1) := by decide +kernel
theorem dX6_enter_53 : decode cX6_enter 53 = .ok (.iastore, 1) := by decide +kernel
theorem dX6_enter_54 : decode cX6_enter 54 = .ok (.aload_n 0, 1) := by decide +kernel
theorem dX6_enter_55 : decode cX6_enter 55 = .ok (.iconst 0, 1) := by decide +kernel
theorem dX6_enter_56 : decode cX6_enter 56 = .ok (.iload_n 2, 1) := by decide +kernel
theorem dX6_enter_57 : decode cX6_enter 57 = .ok (.invokevirtual 189, 3) := by decide +kernel
theorem dX6_enter_60 : decode cX6_enter 60 = .ok (.invokestatic 224, 3) := by decide +kernel
theorem dX6_enter_63 : decode cX6_enter 63 = .ok (.ireturn, 1) := by decide +kernel
theorem dX6_keep_0 : decode cX6_keep 0 = .ok (.iload_n 1, 1) := by decide +kernel
theorem dX6_keep_1 : decode cX6_keep 1 = .ok (.i2l, 1) := by decide +kernel
theorem dX6_keep_2 : decode cX6_keep 2 = .ok (.lconst 0, 1) := by decide +kernel
theorem dX6_keep_3 : decode cX6_keep 3 = .ok (.lconst 1, 1) := by decide +kernel
theorem dX6_keep_4 : decode cX6_keep 4 = .ok (.invokestatic 60, 3) := by decide +kernel
theorem dX6_keep_7 : decode cX6_keep 7 = .ok (.ifCond .ne 6, 3) := by decide +kernel
theorem dX6_keep_10 : decode cX6_keep 10 = .ok (.bipush (-2), 2) := by decide +kernel
theorem dX6_keep_12 : decode cX6_keep 12 = .ok (.ireturn, 1) := by decide +kernel
theorem dX6_keep_13 : decode cX6_keep 13 = .ok (.aload_n 0, 1) := by decide +kernel
theorem dX6_keep_14 : decode cX6_keep 14 = .ok (.iconst 0, 1) := by decide +kernel
theorem dX6_keep_15 : decode cX6_keep 15 = .ok (.bipush 14, 2) := by decide +kernel
theorem dX6_keep_17 : decode cX6_keep 17 = .ok (.iconst 1, 1) := by decide +kernel
theorem dX6_keep_18 : decode cX6_keep 18 = .ok (.iload_n 1, 1) := by decide +kernel
theorem dX6_keep_19 : decode cX6_keep 19 = .ok (.iadd, 1) := by decide +kernel
theorem dX6_keep_20 : decode cX6_keep 20 = .ok (.imul, 1) := by decide +kernel
theorem dX6_keep_21 : decode cX6_keep 21 = .ok (.invokevirtual 170, 3) := by decide +kernel
theorem dX6_keep_24 : decode cX6_keep 24 = .ok (.aload_n 0, 1) := by decide +kernel
theorem dX6_keep_25 : decode cX6_keep 25 = .ok (.getfield 13, 3) := by decide +kernel
theorem dX6_keep_28 : decode cX6_keep 28 = .ok (.iload_n 1, 1) := by decide +kernel
theorem dX6_keep_29 : decode cX6_keep 29 = .ok (.iconst 1, 1) := by decide +kernel
theorem dX6_keep_30 : decode cX6_keep 30 = .ok (.bastore, 1) := by decide +kernel
theorem dX6_keep_31 : decode cX6_keep 31 = .ok (.aload_n 0, 1) := by decide +kernel
theorem dX6_keep_32 : decode cX6_keep 32 = .ok (.getfield 7, 3) := by decide +kernel
theorem dX6_keep_35 : decode cX6_keep 35 = .ok (.bipush 13, 2) := by decide +kernel
theorem dX6_keep_37 : decode cX6_keep 37 = .ok (.iaload, 1) := by decide +kernel
theorem dX6_keep_38 : decode cX6_keep 38 = .ok (.ireturn, 1) := by decide +kernel
theorem dX6_back_0 : decode cX6_back 0 = .ok (.iload_n 1, 1) := by decide +kernel
theorem dX6_back_1 : decode cX6_back 1 = .ok (.i2l, 1) := by decide +kernel
theorem dX6_back_2 : decode cX6_back 2 = .ok (.lconst 0, 1) := by decide +kernel
theorem dX6_back_3 : decode cX6_back 3 = .ok (.lconst 1, 1) := by decide +kernel
theorem dX6_back_4 : decode cX6_back 4 = .ok (.invokestatic 60, 3) := by decide +kernel
theorem dX6_back_7 : decode cX6_back 7 = .ok (.ifCond .ne 6, 3) := by decide +kernel
theorem dX6_back_10 : decode cX6_back 10 = .ok (.bipush (-2), 2) := by decide +kernel
theorem dX6_back_12 : decode cX6_back 12 = .ok (.ireturn, 1) := by decide +kernel
theorem dX6_back_13 : decode cX6_back 13 = .ok (.aload_n 0, 1) := by decide +kernel
theorem dX6_back_14 : decode cX6_back 14 = .ok (.getfield 13, 3) := by decide +kernel
theorem dX6_back_17 : decode cX6_back 17 = .ok (.iload_n 1, 1) := by decide +kernel
theorem dX6_back_18 : decode cX6_back 18 = .ok (.baload, 1) := by decide +kernel
theorem dX6_back_19 : decode cX6_back 19 = .ok (.ifCond .ne 6, 3) := by decide +kernel
theorem dX6_back_22 : decode cX6_back 22 = .ok (.bipush (-4), 2) := by decide +kernel
theorem dX6_back_24 : decode cX6_back 24 = .ok (.ireturn, 1) := by decide +kernel
theorem dX6_back_25 : decode cX6_back 25 = .ok (.aload_n 0, 1) := by decide +kernel
theorem dX6_back_26 : decode cX6_back 26 = .ok (.bipush 14, 2) := by decide +kernel
theorem dX6_back_28 : decode cX6_back 28 = .ok (.iconst 1, 1) := by decide +kernel
theorem dX6_back_29 : decode cX6_back 29 = .ok (.iload_n 1, 1) := by decide +kernel
theorem dX6_back_30 : decode cX6_back 30 = .ok (.iadd, 1) := by decide +kernel
theorem dX6_back_31 : decode cX6_back 31 = .ok (.imul, 1) := by decide +kernel
theorem dX6_back_32 : decode cX6_back 32 = .ok (.iconst 0, 1) := by decide +kernel
theorem dX6_back_33 : decode cX6_back 33 = .ok (.invokevirtual 170, 3) := by decide +kernel
theorem dX6_back_36 : decode cX6_back 36 = .ok (.aload_n 0, 1) := by decide +kernel
theorem dX6_back_37 : decode cX6_back 37 = .ok (.getfield 7, 3) := by decide +kernel
theorem dX6_back_40 : decode cX6_back 40 = .ok (.bipush 13, 2) := by decide +kernel
theorem dX6_back_42 : decode cX6_back 42 = .ok (.iaload, 1) := by decide +kernel
theorem dX6_back_43 : decode cX6_back 43 = .ok (.ireturn, 1) := by decide +kernel
theorem dX6_turnOn_0 : decode cX6_turnOn 0 = .ok (.iconst 0, 1) := by decide +kernel
theorem dX6_turnOn_1 : decode cX6_turnOn 1 = .ok (.istore 4, 2) := by decide +kernel
theorem dX6_turnOn_3 : decode cX6_turnOn 3 = .ok (.iload 4, 2) := by decide +kernel
theorem dX6_turnOn_5 : decode cX6_turnOn 5 = .ok (.bipush 72, 2) := by decide +kernel
theorem dX6_turnOn_7 : decode cX6_turnOn 7 = .ok (.if_icmp .ge 30, 3) := by decide +kernel
theorem dX6_turnOn_10 : decode cX6_turnOn 10 = .ok (.aload_n 0, 1) := by decide +kernel
theorem dX6_turnOn_11 : decode cX6_turnOn 11 = .ok (.bipush 42, 2) := by decide +kernel
theorem dX6_turnOn_13 : decode cX6_turnOn 13 = .ok (.iload_n 3, 1) := by decide +kernel
theorem dX6_turnOn_14 : decode cX6_turnOn 14 = .ok (.invokevirtual 186, 3) := by decide +kernel
theorem dX6_turnOn_17 : decode cX6_turnOn 17 = .ok (.ifCond .ne 20, 3) := by decide +kernel
theorem dX6_turnOn_20 : decode cX6_turnOn 20 = .ok (.aload_n 0, 1) := by decide +kernel
theorem dX6_turnOn_21 : decode cX6_turnOn 21 = .ok (.bipush 42, 2) := by decide +kernel
theorem dX6_turnOn_23 : decode cX6_turnOn 23 = .ok (.iload_n 1, 1) := by decide +kernel
theorem dX6_turnOn_24 : decode cX6_turnOn 24 = .ok (.iload_n 2, 1) := by decide +kernel
theorem dX6_turnOn_25 : decode cX6_turnOn 25 = .ok (.invokevirtual 207, 3) := by decide +kernel
theorem dX6_turnOn_28 : decode cX6_turnOn 28 = .ok (.ifCond .eq 9, 3) := by decide +kernel
theorem dX6_turnOn_31 : decode cX6_turnOn 31 = .ok (.iinc 4 1, 3) := by decide +kernel
theorem dX6_turnOn_34 : decode cX6_turnOn 34 = .ok (.goto (-31), 3) := by decide +kernel
theorem dX6_turnOn_37 : decode cX6_turnOn 37 = .ok (.aload_n 0, 1) := by decide +kernel
theorem dX6_turnOn_38 : decode cX6_turnOn 38 = .ok (.bipush 42, 2) := by decide +kernel
theorem dX6_turnOn_40 : decode cX6_turnOn 40 = .ok (.iload_n 3, 1) := by decide +kernel
theorem dX6_turnOn_41 : decode cX6_turnOn 41 = .ok (.invokevirtual 186, 3) := by decide +kernel
theorem dX6_turnOn_44 : decode cX6_turnOn 44 = .ok (.ifCond .eq 8, 3) := by decide +kernel
theorem dX6_turnOn_47 : decode cX6_turnOn 47 = .ok (.iload 4, 2) := by decide +kernel
theorem dX6_turnOn_49 : decode cX6_turnOn 49 = .ok (.goto 4, 3) := by decide +kernel
theorem dX6_turnOn_52 : decode cX6_turnOn 52 = .ok (.iconst (-1), 1) := by decide +kernel
theorem dX6_turnOn_53 : decode cX6_turnOn 53 = .ok (.ireturn, 1) := by decide +kernel
theorem dX6_turnOf_0 : decode cX6_turnOf 0 = .ok (.aload_n 0, 1) := by decide +kernel
theorem dX6_turnOf_1 : decode cX6_turnOf 1 = .ok (.iconst 0, 1) := by decide +kernel
theorem dX6_turnOf_2 : decode cX6_turnOf 2 = .ok (.bipush 42, 2) := by decide +kernel
theorem dX6_turnOf_4 : decode cX6_turnOf 4 = .ok (.invokevirtual 170, 3) := by decide +kernel
theorem dX6_turnOf_7 : decode cX6_turnOf 7 = .ok (.aload_n 0, 1) := by decide +kernel
theorem dX6_turnOf_8 : decode cX6_turnOf 8 = .ok (.iload_n 1, 1) := by decide +kernel
theorem dX6_turnOf_9 : decode cX6_turnOf 9 = .ok (.iload_n 2, 1) := by decide +kernel
theorem dX6_turnOf_10 : decode cX6_turnOf 10 = .ok (.iload_n 3, 1) := by decide +kernel
theorem dX6_turnOf_11 : decode cX6_turnOf 11 = .ok (.invokevirtual 227, 3) := by decide +kernel
theorem dX6_turnOf_14 : decode cX6_turnOf 14 = .ok (.ireturn, 1) := by decide +kernel
theorem dX6_turn_0 : decode cX6_turn 0 = .ok (.aload_n 0, 1) := by decide +kernel
theorem dX6_turn_1 : decode cX6_turn 1 = .ok (.iload_n 1, 1) := by decide +kernel
theorem dX6_turn_2 : decode cX6_turn 2 = .ok (.invokevirtual 183, 3) := by decide +kernel
theorem dX6_turn_5 : decode cX6_turn 5 = .ok (.ifCond .eq 11, 3) := by decide +kernel
theorem dX6_turn_8 : decode cX6_turn 8 = .ok (.aload_n 0, 1) := by decide +kernel
theorem dX6_turn_9 : decode cX6_turn 9 = .ok (.iload_n 3, 1) := by decide +kernel
theorem dX6_turn_10 : decode cX6_turn 10 = .ok (.invokevirtual 183, 3) := by decide +kernel
theorem dX6_turn_13 : decode cX6_turn 13 = .ok (.ifCond .ne 6, 3) := by decide +kernel
theorem dX6_turn_16 : decode cX6_turn 16 = .ok (.bipush (-2), 2) := by decide +kernel
theorem dX6_turn_18 : decode cX6_turn 18 = .ok (.ireturn, 1) := by decide +kernel
theorem dX6_turn_19 : decode cX6_turn 19 = .ok (.iload_n 2, 1) := by decide +kernel
theorem dX6_turn_20 : decode cX6_turn 20 = .ok (.invokestatic 210, 3) := by decide +kernel
theorem dX6_turn_23 : decode cX6_turn 23 = .ok (.ifCond .eq 13, 3) := by decide +kernel
theorem dX6_turn_26 : decode cX6_turn 26 = .ok (.aload_n 0, 1) := by decide +kernel
theorem dX6_turn_27 : decode cX6_turn 27 = .ok (.iload_n 1, 1) := by decide +kernel
theorem dX6_turn_28 : decode cX6_turn 28 = .ok (.iload_n 2, 1) := by decide +kernel
theorem dX6_turn_29 : decode cX6_turn 29 = .ok (.iload_n 3, 1) := by decide +kernel
theorem dX6_turn_30 : decode cX6_turn 30 = .ok (.invokevirtual 230, 3) := by decide +kernel
theorem dX6_turn_33 : decode cX6_turn 33 = .ok (.goto 5, 3) := by decide +kernel
theorem dX6_turn_36 : decode cX6_turn 36 = .ok (.bipush (-3), 2) := by decide +kernel
theorem dX6_turn_38 : decode cX6_turn 38 = .ok (.ireturn, 1) := by decide +kernel
theorem dX6_best_0 : decode cX6_best 0 = .ok (.aload_n 0, 1) := by decide +kernel
theorem dX6_best_1 : decode cX6_best 1 = .ok (.iload_n 1, 1) := by decide +kernel
theorem dX6_best_2 : decode cX6_best 2 = .ok (.invokevirtual 183, 3) := by decide +kernel
theorem dX6_best_5 : decode cX6_best 5 = .ok (.ifCond .ne 6, 3) := by decide +kernel
theorem dX6_best_8 : decode cX6_best 8 = .ok (.bipush (-2), 2) := by decide +kernel
theorem dX6_best_10 : decode cX6_best 10 = .ok (.ireturn, 1) := by decide +kernel
theorem dX6_best_11 : decode cX6_best 11 = .ok (.iload_n 2, 1) := by decide +kernel
theorem dX6_best_12 : decode cX6_best 12 = .ok (.i2l, 1) := by decide +kernel
theorem dX6_best_13 : decode cX6_best 13 = .ok (.lconst 0, 1) := by decide +kernel
theorem dX6_best_14 : decode cX6_best 14 = .ok (.ldc2_w 159, 3) := by decide +kernel
theorem dX6_best_17 : decode cX6_best 17 = .ok (.invokestatic 60, 3) := by decide +kernel
theorem dX6_best_20 : decode cX6_best 20 = .ok (.ifCond .ne 6, 3) := by decide +kernel
theorem dX6_best_23 : decode cX6_best 23 = .ok (.bipush (-3), 2) := by decide +kernel
theorem dX6_best_25 : decode cX6_best 25 = .ok (.ireturn, 1) := by decide +kernel
theorem dX6_best_26 : decode cX6_best 26 = .ok (.iconst (-1), 1) := by decide +kernel
theorem dX6_best_27 : decode cX6_best 27 = .ok (.istore_n 3, 1) := by decide +kernel
theorem dX6_best_28 : decode cX6_best 28 = .ok (.bipush 99, 2) := by decide +kernel
theorem dX6_best_30 : decode cX6_best 30 = .ok (.istore 4, 2) := by decide +kernel
theorem dX6_best_32 : decode cX6_best 32 = .ok (.iconst 0, 1) := by decide +kernel
theorem dX6_best_33 : decode cX6_best 33 = .ok (.istore 5, 2) := by decide +kernel
theorem dX6_best_35 : decode cX6_best 35 = .ok (.iload 5, 2) := by decide +kernel
theorem dX6_best_37 : decode cX6_best 37 = .ok (.iconst 2, 1) := by decide +kernel
theorem dX6_best_38 : decode cX6_best 38 = .ok (.aload_n 0, 1) := by decide +kernel
theorem dX6_best_39 : decode cX6_best 39 = .ok (.getfield 23, 3) := by decide +kernel
theorem dX6_best_42 : decode cX6_best 42 = .ok (.imul, 1) := by decide +kernel
theorem dX6_best_43 : decode cX6_best 43 = .ok (.if_icmp .ge 44, 3) := by decide +kernel
theorem dX6_best_46 : decode cX6_best 46 = .ok (.aload_n 0, 1) := by decide +kernel
theorem dX6_best_47 : decode cX6_best 47 = .ok (.iload 5, 2) := by decide +kernel
theorem dX6_best_49 : decode cX6_best 49 = .ok (.iconst 2, 1) := by decide +kernel
theorem dX6_best_50 : decode cX6_best 50 = .ok (.idiv, 1) := by decide +kernel
theorem dX6_best_51 : decode cX6_best 51 = .ok (.iload 5, 2) := by decide +kernel
theorem dX6_best_53 : decode cX6_best 53 = .ok (.iconst 2, 1) := by decide +kernel
theorem dX6_best_54 : decode cX6_best 54 = .ok (.irem, 1) := by decide +kernel
theorem dX6_best_55 : decode cX6_best 55 = .ok (.iload_n 1, 1) := by decide +kernel
theorem dX6_best_56 : decode cX6_best 56 = .ok (.invokevirtual 230, 3) := by decide +kernel
theorem dX6_best_59 : decode cX6_best 59 = .ok (.istore 6, 2) := by decide +kernel
theorem dX6_best_61 : decode cX6_best 61 = .ok (.iload 6, 2) := by decide +kernel
theorem dX6_best_63 : decode cX6_best 63 = .ok (.iconst (-1), 1) := by decide +kernel
theorem dX6_best_64 : decode cX6_best 64 = .ok (.if_icmp .eq 17, 3) := by decide +kernel
theorem dX6_best_67 : decode cX6_best 67 = .ok (.iload 6, 2) := by decide +kernel
theorem dX6_best_69 : decode cX6_best 69 = .ok (.iload 4, 2) := by decide +kernel
theorem dX6_best_71 : decode cX6_best 71 = .ok (.if_icmp .ge 10, 3) := by decide +kernel
theorem dX6_best_74 : decode cX6_best 74 = .ok (.iload 6, 2) := by decide +kernel
theorem dX6_best_76 : decode cX6_best 76 = .ok (.istore 4, 2) := by decide +kernel
theorem dX6_best_78 : decode cX6_best 78 = .ok (.iload 5, 2) := by decide +kernel
theorem dX6_best_80 : decode cX6_best 80 = .ok (.istore_n 3, 1) := by decide +kernel
theorem dX6_best_81 : decode cX6_best 81 = .ok (.iinc 5 1, 3) := by decide +kernel
theorem dX6_best_84 : decode cX6_best 84 = .ok (.goto (-49), 3) := by decide +kernel
theorem dX6_best_87 : decode cX6_best 87 = .ok (.iload_n 3, 1) := by decide +kernel
theorem dX6_best_88 : decode cX6_best 88 = .ok (.iconst (-1), 1) := by decide +kernel
theorem dX6_best_89 : decode cX6_best 89 = .ok (.if_icmp .ne 7, 3) := by decide +kernel
theorem dX6_best_92 : decode cX6_best 92 = .ok (.iconst (-1), 1) := by decide +kernel
theorem dX6_best_93 : decode cX6_best 93 = .ok (.goto 26, 3) := by decide +kernel
theorem dX6_best_96 : decode cX6_best 96 = .ok (.iload_n 2, 1) := by decide +kernel
theorem dX6_best_97 : decode cX6_best 97 = .ok (.ifCond .ne 8, 3) := by decide +kernel
theorem dX6_best_100 : decode cX6_best 100 = .ok (.iload 4, 2) := by decide +kernel
theorem dX6_best_102 : decode cX6_best 102 = .ok (.goto 17, 3) := by decide +kernel
theorem dX6_best_105 : decode cX6_best 105 = .ok (.iload_n 2, 1) := by decide +kernel
theorem dX6_best_106 : decode cX6_best 106 = .ok (.iconst 1, 1) := by decide +kernel
theorem dX6_best_107 : decode cX6_best 107 = .ok (.if_icmp .ne 9, 3) := by decide +kernel
theorem dX6_best_110 : decode cX6_best 110 = .ok (.iload_n 3, 1) := by decide +kernel
theorem dX6_best_111 : decode cX6_best 111 = .ok (.iconst 2, 1) := by decide +kernel
theorem dX6_best_112 : decode cX6_best 112 = .ok (.idiv, 1) := by decide +kernel
theorem dX6_best_113 : decode cX6_best 113 = .ok (.goto 6, 3) := by decide +kernel
theorem dX6_best_116 : decode cX6_best 116 = .ok (.iload_n 3, 1) := by decide +kernel
theorem dX6_best_117 : decode cX6_best 117 = .ok (.iconst 2, 1) := by decide +kernel
theorem dX6_best_118 : decode cX6_best 118 = .ok (.irem, 1) := by decide +kernel
theorem dX6_best_119 : decode cX6_best 119 = .ok (.ireturn, 1) := by decide +kernel
theorem dX6_widest_0 : decode cX6_widest 0 = .ok (.aload_n 0, 1) := by decide +kernel
theorem dX6_widest_1 : decode cX6_widest 1 = .ok (.iload_n 1, 1) := by decide +kernel
theorem dX6_widest_2 : decode cX6_widest 2 = .ok (.invokevirtual 183, 3) := by decide +kernel
theorem dX6_widest_5 : decode cX6_widest 5 = .ok (.ifCond .ne 6, 3) := by decide +kernel
theorem dX6_widest_8 : decode cX6_widest 8 = .ok (.bipush (-2), 2) := by decide +kernel
theorem dX6_widest_10 : decode cX6_widest 10 = .ok (.ireturn, 1) := by decide +kernel
theorem dX6_widest_11 : decode cX6_widest 11 = .ok (.iload_n 1, 1) := by decide +kernel
theorem dX6_widest_12 : decode cX6_widest 12 = .ok (.istore_n 2, 1) := by decide +kernel
theorem dX6_widest_13 : decode cX6_widest 13 = .ok (.iconst 1, 1) := by decide +kernel
theorem dX6_widest_14 : decode cX6_widest 14 = .ok (.istore_n 3, 1) := by decide +kernel
theorem dX6_widest_15 : decode cX6_widest 15 = .ok (.aload_n 0, 1) := by decide +kernel
theorem dX6_widest_16 : decode cX6_widest 16 = .ok (.getfield 27, 3) := by decide +kernel
theorem dX6_widest_19 : decode cX6_widest 19 = .ok (.iload_n 2, 1) := by decide +kernel
theorem dX6_widest_20 : decode cX6_widest 20 = .ok (.iaload, 1) := by decide +kernel
theorem dX6_widest_21 : decode cX6_widest 21 = .ok (.iconst 3, 1) := by decide +kernel
theorem dX6_widest_22 : decode cX6_widest 22 = .ok (.if_icmp .eq 23, 3) := by decide +kernel
theorem dX6_widest_25 : decode cX6_widest 25 = .ok (.iload_n 3, 1) := by decide +kernel
theorem dX6_widest_26 : decode cX6_widest 26 = .ok (.aload_n 0, 1) := by decide +kernel
theorem dX6_widest_27 : decode cX6_widest 27 = .ok (.getfield 23, 3) := by decide +kernel
theorem dX6_widest_30 : decode cX6_widest 30 = .ok (.if_icmp .ge 15, 3) := by decide +kernel
theorem dX6_widest_33 : decode cX6_widest 33 = .ok (.aload_n 0, 1) := by decide +kernel
theorem dX6_widest_34 : decode cX6_widest 34 = .ok (.iload_n 2, 1) := by decide +kernel
theorem dX6_widest_35 : decode cX6_widest 35 = .ok (.invokevirtual 192, 3) := by decide +kernel
theorem dX6_widest_38 : decode cX6_widest 38 = .ok (.istore_n 2, 1) := by decide +kernel
theorem dX6_widest_39 : decode cX6_widest 39 = .ok (.iinc 3 1, 3) := by decide +kernel
theorem dX6_widest_42 : decode cX6_widest 42 = .ok (.goto (-27), 3) := by decide +kernel
theorem dX6_widest_45 : decode cX6_widest 45 = .ok (.aload_n 0, 1) := by decide +kernel
theorem dX6_widest_46 : decode cX6_widest 46 = .ok (.iload_n 1, 1) := by decide +kernel
theorem dX6_widest_47 : decode cX6_widest 47 = .ok (.invokevirtual 177, 3) := by decide +kernel
theorem dX6_widest_50 : decode cX6_widest 50 = .ok (.istore 4, 2) := by decide +kernel
theorem dX6_widest_52 : decode cX6_widest 52 = .ok (.aload_n 0, 1) := by decide +kernel
theorem dX6_widest_53 : decode cX6_widest 53 = .ok (.getfield 27, 3) := by decide +kernel
theorem dX6_widest_56 : decode cX6_widest 56 = .ok (.iload 4, 2) := by decide +kernel
theorem dX6_widest_58 : decode cX6_widest 58 = .ok (.iaload, 1) := by decide +kernel
theorem dX6_widest_59 : decode cX6_widest 59 = .ok (.iconst 3, 1) := by decide +kernel
theorem dX6_widest_60 : decode cX6_widest 60 = .ok (.if_icmp .eq 25, 3) := by decide +kernel
theorem dX6_widest_63 : decode cX6_widest 63 = .ok (.iload_n 3, 1) := by decide +kernel
theorem dX6_widest_64 : decode cX6_widest 64 = .ok (.aload_n 0, 1) := by decide +kernel
theorem dX6_widest_65 : decode cX6_widest 65 = .ok (.getfield 23, 3) := by decide +kernel
theorem dX6_widest_68 : decode cX6_widest 68 = .ok (.if_icmp .ge 17, 3) := by decide +kernel
theorem dX6_widest_71 : decode cX6_widest 71 = .ok (.aload_n 0, 1) := by decide +kernel
theorem dX6_widest_72 : decode cX6_widest 72 = .ok (.iload 4, 2) := by decide +kernel
theorem dX6_widest_74 : decode cX6_widest 74 = .ok (.invokevirtual 177, 3) := by decide +kernel
theorem dX6_widest_77 : decode cX6_widest 77 = .ok (.istore 4, 2) := by decide +kernel
theorem dX6_widest_79 : decode cX6_widest 79 = .ok (.iinc 3 1, 3) := by decide +kernel
theorem dX6_widest_82 : decode cX6_widest 82 = .ok (.goto (-30), 3) := by decide +kernel
theorem dX6_widest_85 : decode cX6_widest 85 = .ok (.iload_n 2, 1) := by decide +kernel
theorem dX6_widest_86 : decode cX6_widest 86 = .ok (.iload 4, 2) := by decide +kernel
theorem dX6_widest_88 : decode cX6_widest 88 = .ok (.if_icmp .eq 11, 3) := by decide +kernel
theorem dX6_widest_91 : decode cX6_widest 91 = .ok (.iload_n 3, 1) := by decide +kernel
theorem dX6_widest_92 : decode cX6_widest 92 = .ok (.aload_n 0, 1) := by decide +kernel
theorem dX6_widest_93 : decode cX6_widest 93 = .ok (.getfield 23, 3) := by decide +kernel
theorem dX6_widest_96 : decode cX6_widest 96 = .ok (.if_icmp .ne 8, 3) := by decide +kernel
theorem dX6_widest_99 : decode cX6_widest 99 = .ok (.bipush 72, 2) := by decide +kernel
theorem dX6_widest_101 : decode cX6_widest 101 = .ok (.goto 19, 3) := by decide +kernel
theorem dX6_widest_104 : decode cX6_widest 104 = .ok (.aload_n 0, 1) := by decide +kernel
theorem dX6_widest_105 : decode cX6_widest 105 = .ok (.getfield 7, 3) := by decide +kernel
theorem dX6_widest_108 : decode cX6_widest 108 = .ok (.iload_n 2, 1) := by decide +kernel
theorem dX6_widest_109 : decode cX6_widest 109 = .ok (.iaload, 1) := by decide +kernel
theorem dX6_widest_110 : decode cX6_widest 110 = .ok (.aload_n 0, 1) := by decide +kernel
theorem dX6_widest_111 : decode cX6_widest 111 = .ok (.getfield 7, 3) := by decide +kernel
theorem dX6_widest_114 : decode cX6_widest 114 = .ok (.iload 4, 2) := by decide +kernel
theorem dX6_widest_116 : decode cX6_widest 116 = .ok (.iaload, 1) := by decide +kernel
theorem dX6_widest_117 : decode cX6_widest 117 = .ok (.invokestatic 54, 3) := by decide +kernel
theorem dX6_widest_120 : decode cX6_widest 120 = .ok (.istore 5, 2) := by decide +kernel
theorem dX6_widest_122 : decode cX6_widest 122 = .ok (.iload_n 2, 1) := by decide +kernel
theorem dX6_widest_123 : decode cX6_widest 123 = .ok (.istore 6, 2) := by decide +kernel
theorem dX6_widest_125 : decode cX6_widest 125 = .ok (.iconst 0, 1) := by decide +kernel
theorem dX6_widest_126 : decode cX6_widest 126 = .ok (.istore 7, 2) := by decide +kernel
theorem dX6_widest_128 : decode cX6_widest 128 = .ok (.iload 7, 2) := by decide +kernel
theorem dX6_widest_130 : decode cX6_widest 130 = .ok (.iload_n 3, 1) := by decide +kernel
theorem dX6_widest_131 : decode cX6_widest 131 = .ok (.if_icmp .ge 41, 3) := by decide +kernel
theorem dX6_widest_134 : decode cX6_widest 134 = .ok (.iload 5, 2) := by decide +kernel
theorem dX6_widest_136 : decode cX6_widest 136 = .ok (.iload 6, 2) := by decide +kernel
theorem dX6_widest_138 : decode cX6_widest 138 = .ok (.iload_n 1, 1) := by decide +kernel
theorem dX6_widest_139 : decode cX6_widest 139 = .ok (.if_icmp .ne 7, 3) := by decide +kernel
theorem dX6_widest_142 : decode cX6_widest 142 = .ok (.iconst 0, 1) := by decide +kernel
theorem dX6_widest_143 : decode cX6_widest 143 = .ok (.goto 12, 3) := by decide +kernel
theorem dX6_widest_146 : decode cX6_widest 146 = .ok (.aload_n 0, 1) := by decide +kernel
theorem dX6_widest_147 : decode cX6_widest 147 = .ok (.getfield 30, 3) := by decide +kernel
theorem dX6_widest_150 : decode cX6_widest 150 = .ok (.iload 6, 2) := by decide +kernel
theorem dX6_widest_152 : decode cX6_widest 152 = .ok (.iaload, 1) := by decide +kernel
theorem dX6_widest_153 : decode cX6_widest 153 = .ok (.iconst 1, 1) := by decide +kernel
theorem dX6_widest_154 : decode cX6_widest 154 = .ok (.iadd, 1) := by decide +kernel
theorem dX6_widest_155 : decode cX6_widest 155 = .ok (.isub, 1) := by decide +kernel
theorem dX6_widest_156 : decode cX6_widest 156 = .ok (.istore 5, 2) := by decide +kernel
theorem dX6_widest_158 : decode cX6_widest 158 = .ok (.aload_n 0, 1) := by decide +kernel
theorem dX6_widest_159 : decode cX6_widest 159 = .ok (.iload 6, 2) := by decide +kernel
theorem dX6_widest_161 : decode cX6_widest 161 = .ok (.invokevirtual 177, 3) := by decide +kernel
theorem dX6_widest_164 : decode cX6_widest 164 = .ok (.istore 6, 2) := by decide +kernel
theorem dX6_widest_166 : decode cX6_widest 166 = .ok (.iinc 7 1, 3) := by decide +kernel
theorem dX6_widest_169 : decode cX6_widest 169 = .ok (.goto (-41), 3) := by decide +kernel
theorem dX6_widest_172 : decode cX6_widest 172 = .ok (.iload 5, 2) := by decide +kernel
theorem dX6_widest_174 : decode cX6_widest 174 = .ok (.ireturn, 1) := by decide +kernel
theorem dX6_further_0 : decode cX6_further 0 = .ok (.iload_n 1, 1) := by decide +kernel
theorem dX6_further_1 : decode cX6_further 1 = .ok (.i2l, 1) := by decide +kernel
theorem dX6_further_2 : decode cX6_further 2 = .ok (.lconst 0, 1) := by decide +kernel
theorem dX6_further_3 : decode cX6_further 3 = .ok (.lconst 1, 1) := by decide +kernel
theorem dX6_further_4 : decode cX6_further 4 = .ok (.invokestatic 60, 3) := by decide +kernel
theorem dX6_further_7 : decode cX6_further 7 = .ok (.ifCond .ne 6, 3) := by decide +kernel
theorem dX6_further_10 : decode cX6_further 10 = .ok (.bipush (-3), 2) := by decide +kernel
theorem dX6_further_12 : decode cX6_further 12 = .ok (.ireturn, 1) := by decide +kernel
theorem dX6_further_13 : decode cX6_further 13 = .ok (.iconst 0, 1) := by decide +kernel
theorem dX6_further_14 : decode cX6_further 14 = .ok (.istore_n 2, 1) := by decide +kernel
theorem dX6_further_15 : decode cX6_further 15 = .ok (.iconst 1, 1) := by decide +kernel
theorem dX6_further_16 : decode cX6_further 16 = .ok (.istore_n 3, 1) := by decide +kernel
theorem dX6_further_17 : decode cX6_further 17 = .ok (.iload_n 3, 1) := by decide +kernel
theorem dX6_further_18 : decode cX6_further 18 = .ok (.aload_n 0, 1) := by decide +kernel
theorem dX6_further_19 : decode cX6_further 19 = .ok (.getfield 23, 3) := by decide +kernel
theorem dX6_further_22 : decode cX6_further 22 = .ok (.if_icmp .ge 34, 3) := by decide +kernel
theorem dX6_further_25 : decode cX6_further 25 = .ok (.aload_n 0, 1) := by decide +kernel
theorem dX6_further_26 : decode cX6_further 26 = .ok (.iconst 0, 1) := by decide +kernel
theorem dX6_further_27 : decode cX6_further 27 = .ok (.iload_n 3, 1) := by decide +kernel
theorem dX6_further_28 : decode cX6_further 28 = .ok (.invokevirtual 180, 3) := by decide +kernel
theorem dX6_further_31 : decode cX6_further 31 = .ok (.iconst 2, 1) := by decide +kernel
theorem dX6_further_32 : decode cX6_further 32 = .ok (.idiv, 1) := by decide +kernel
theorem dX6_further_33 : decode cX6_further 33 = .ok (.aload_n 0, 1) := by decide +kernel
theorem dX6_further_34 : decode cX6_further 34 = .ok (.iconst 0, 1) := by decide +kernel
theorem dX6_further_35 : decode cX6_further 35 = .ok (.iload_n 2, 1) := by decide +kernel
theorem dX6_further_36 : decode cX6_further 36 = .ok (.invokevirtual 180, 3) := by decide +kernel
theorem dX6_further_39 : decode cX6_further 39 = .ok (.iconst 2, 1) := by decide +kernel
theorem dX6_further_40 : decode cX6_further 40 = .ok (.idiv, 1) := by decide +kernel
theorem dX6_further_41 : decode cX6_further 41 = .ok (.if_icmp .le 7, 3) := by decide +kernel
theorem dX6_further_44 : decode cX6_further 44 = .ok (.iload_n 3, 1) := by decide +kernel
theorem dX6_further_45 : decode cX6_further 45 = .ok (.goto 4, 3) := by decide +kernel
theorem dX6_further_48 : decode cX6_further 48 = .ok (.iload_n 2, 1) := by decide +kernel
theorem dX6_further_49 : decode cX6_further 49 = .ok (.istore_n 2, 1) := by decide +kernel
theorem dX6_further_50 : decode cX6_further 50 = .ok (.iinc 3 1, 3) := by decide +kernel
theorem dX6_further_53 : decode cX6_further 53 = .ok (.goto (-36), 3) := by decide +kernel
theorem dX6_further_56 : decode cX6_further 56 = .ok (.iload_n 1, 1) := by decide +kernel
theorem dX6_further_57 : decode cX6_further 57 = .ok (.ifCond .ne 7, 3) := by decide +kernel
theorem dX6_further_60 : decode cX6_further 60 = .ok (.iload_n 2, 1) := by decide +kernel
theorem dX6_further_61 : decode cX6_further 61 = .ok (.goto 11, 3) := by decide +kernel
theorem dX6_further_64 : decode cX6_further 64 = .ok (.aload_n 0, 1) := by decide +kernel
theorem dX6_further_65 : decode cX6_further 65 = .ok (.iconst 0, 1) := by decide +kernel
theorem dX6_further_66 : decode cX6_further 66 = .ok (.iload_n 2, 1) := by decide +kernel
theorem dX6_further_67 : decode cX6_further 67 = .ok (.invokevirtual 180, 3) := by decide +kernel
theorem dX6_further_70 : decode cX6_further 70 = .ok (.iconst 2, 1) := by decide +kernel
theorem dX6_further_71 : decode cX6_further 71 = .ok (.idiv, 1) := by decide +kernel
theorem dX6_further_72 : decode cX6_further 72 = .ok (.ireturn, 1) := by decide +kernel
theorem dX6_share_0 : decode cX6_share 0 = .ok (.aload_n 0, 1) := by decide +kernel
theorem dX6_share_1 : decode cX6_share 1 = .ok (.iload_n 1, 1) := by decide +kernel
theorem dX6_share_2 : decode cX6_share 2 = .ok (.invokevirtual 183, 3) := by decide +kernel
theorem dX6_share_5 : decode cX6_share 5 = .ok (.ifCond .ne 6, 3) := by decide +kernel
theorem dX6_share_8 : decode cX6_share 8 = .ok (.bipush (-2), 2) := by decide +kernel
theorem dX6_share_10 : decode cX6_share 10 = .ok (.ireturn, 1) := by decide +kernel
theorem dX6_share_11 : decode cX6_share 11 = .ok (.iload_n 2, 1) := by decide +kernel
theorem dX6_share_12 : decode cX6_share 12 = .ok (.i2l, 1) := by decide +kernel
theorem dX6_share_13 : decode cX6_share 13 = .ok (.lconst 0, 1) := by decide +kernel
theorem dX6_share_14 : decode cX6_share 14 = .ok (.lconst 1, 1) := by decide +kernel
theorem dX6_share_15 : decode cX6_share 15 = .ok (.invokestatic 60, 3) := by decide +kernel
theorem dX6_share_18 : decode cX6_share 18 = .ok (.ifCond .ne 6, 3) := by decide +kernel
theorem dX6_share_21 : decode cX6_share 21 = .ok (.bipush (-3), 2) := by decide +kernel
theorem dX6_share_23 : decode cX6_share 23 = .ok (.ireturn, 1) := by decide +kernel
theorem dX6_share_24 : decode cX6_share 24 = .ok (.aload_n 0, 1) := by decide +kernel
theorem dX6_share_25 : decode cX6_share 25 = .ok (.iconst 0, 1) := by decide +kernel
theorem dX6_share_26 : decode cX6_share 26 = .ok (.iload_n 1, 1) := by decide +kernel
theorem dX6_share_27 : decode cX6_share 27 = .ok (.invokevirtual 180, 3) := by decide +kernel
theorem dX6_share_30 : decode cX6_share 30 = .ok (.istore_n 3, 1) := by decide +kernel
theorem dX6_share_31 : decode cX6_share 31 = .ok (.bipush 72, 2) := by decide +kernel
theorem dX6_share_33 : decode cX6_share 33 = .ok (.istore 4, 2) := by decide +kernel
theorem dX6_share_35 : decode cX6_share 35 = .ok (.iload 4, 2) := by decide +kernel
theorem dX6_share_37 : decode cX6_share 37 = .ok (.ifCond .eq 19, 3) := by decide +kernel
theorem dX6_share_40 : decode cX6_share 40 = .ok (.iload_n 3, 1) := by decide +kernel
theorem dX6_share_41 : decode cX6_share 41 = .ok (.iload 4, 2) := by decide +kernel
theorem dX6_share_43 : decode cX6_share 43 = .ok (.irem, 1) := by decide +kernel
theorem dX6_share_44 : decode cX6_share 44 = .ok (.istore 5, 2) := by decide +kernel
theorem dX6_share_46 : decode cX6_share 46 = .ok (.iload 4, 2) := by decide +kernel
theorem dX6_share_48 : decode cX6_share 48 = .ok (.istore_n 3, 1) := by decide +kernel
theorem dX6_share_49 : decode cX6_share 49 = .ok (.iload 5, 2) := by decide +kernel
theorem dX6_share_51 : decode cX6_share 51 = .ok (.istore 4, 2) := by decide +kernel
theorem dX6_share_53 : decode cX6_share 53 = .ok (.goto (-18), 3) := by decide +kernel
theorem dX6_share_56 : decode cX6_share 56 = .ok (.iload_n 2, 1) := by decide +kernel
theorem dX6_share_57 : decode cX6_share 57 = .ok (.ifCond .ne 14, 3) := by decide +kernel
theorem dX6_share_60 : decode cX6_share 60 = .ok (.aload_n 0, 1) := by decide +kernel
theorem dX6_share_61 : decode cX6_share 61 = .ok (.iconst 0, 1) := by decide +kernel
theorem dX6_share_62 : decode cX6_share 62 = .ok (.iload_n 1, 1) := by decide +kernel
theorem dX6_share_63 : decode cX6_share 63 = .ok (.invokevirtual 180, 3) := by decide +kernel
theorem dX6_share_66 : decode cX6_share 66 = .ok (.iload_n 3, 1) := by decide +kernel
theorem dX6_share_67 : decode cX6_share 67 = .ok (.idiv, 1) := by decide +kernel
theorem dX6_share_68 : decode cX6_share 68 = .ok (.goto 7, 3) := by decide +kernel
theorem dX6_share_71 : decode cX6_share 71 = .ok (.bipush 72, 2) := by decide +kernel
theorem dX6_share_73 : decode cX6_share 73 = .ok (.iload_n 3, 1) := by decide +kernel
theorem dX6_share_74 : decode cX6_share 74 = .ok (.idiv, 1) := by decide +kernel
theorem dX6_share_75 : decode cX6_share 75 = .ok (.ireturn, 1) := by decide +kernel
theorem dX6_rowOf_0 : decode cX6_rowOf 0 = .ok (.iconst 1, 1) := by decide +kernel
theorem dX6_rowOf_1 : decode cX6_rowOf 1 = .ok (.aload_n 0, 1) := by decide +kernel
theorem dX6_rowOf_2 : decode cX6_rowOf 2 = .ok (.getfield 233, 3) := by decide +kernel
theorem dX6_rowOf_5 : decode cX6_rowOf 5 = .ok (.ishl, 1) := by decide +kernel
theorem dX6_rowOf_6 : decode cX6_rowOf 6 = .ok (.iconst 1, 1) := by decide +kernel
theorem dX6_rowOf_7 : decode cX6_rowOf 7 = .ok (.isub, 1) := by decide +kernel
theorem dX6_rowOf_8 : decode cX6_rowOf 8 = .ok (.istore_n 3, 1) := by decide +kernel
theorem dX6_rowOf_9 : decode cX6_rowOf 9 = .ok (.iconst (-1), 1) := by decide +kernel
theorem dX6_rowOf_10 : decode cX6_rowOf 10 = .ok (.istore 4, 2) := by decide +kernel
theorem dX6_rowOf_12 : decode cX6_rowOf 12 = .ok (.iload_n 1, 1) := by decide +kernel
theorem dX6_rowOf_13 : decode cX6_rowOf 13 = .ok (.istore 5, 2) := by decide +kernel
theorem dX6_rowOf_15 : decode cX6_rowOf 15 = .ok (.iconst 1, 1) := by decide +kernel
theorem dX6_rowOf_16 : decode cX6_rowOf 16 = .ok (.istore 6, 2) := by decide +kernel
theorem dX6_rowOf_18 : decode cX6_rowOf 18 = .ok (.iconst 2, 1) := by decide +kernel
theorem dX6_rowOf_19 : decode cX6_rowOf 19 = .ok (.istore 7, 2) := by decide +kernel
theorem dX6_rowOf_21 : decode cX6_rowOf 21 = .ok (.iload 7, 2) := by decide +kernel
theorem dX6_rowOf_23 : decode cX6_rowOf 23 = .ok (.aload_n 0, 1) := by decide +kernel
theorem dX6_rowOf_24 : decode cX6_rowOf 24 = .ok (.getfield 233, 3) := by decide +kernel
theorem dX6_rowOf_27 : decode cX6_rowOf 27 = .ok (.if_icmp .ge 16, 3) := by decide +kernel
theorem dX6_rowOf_30 : decode cX6_rowOf 30 = .ok (.iload 6, 2) := by decide +kernel
theorem dX6_rowOf_32 : decode cX6_rowOf 32 = .ok (.iload 7, 2) := by decide +kernel
theorem dX6_rowOf_34 : decode cX6_rowOf 34 = .ok (.imul, 1) := by decide +kernel
theorem dX6_rowOf_35 : decode cX6_rowOf 35 = .ok (.istore 6, 2) := by decide +kernel
theorem dX6_rowOf_37 : decode cX6_rowOf 37 = .ok (.iinc 7 1, 3) := by decide +kernel
theorem dX6_rowOf_40 : decode cX6_rowOf 40 = .ok (.goto (-19), 3) := by decide +kernel
theorem dX6_rowOf_43 : decode cX6_rowOf 43 = .ok (.iconst 0, 1) := by decide +kernel
theorem dX6_rowOf_44 : decode cX6_rowOf 44 = .ok (.istore 7, 2) := by decide +kernel
theorem dX6_rowOf_46 : decode cX6_rowOf 46 = .ok (.iload 7, 2) := by decide +kernel
theorem dX6_rowOf_48 : decode cX6_rowOf 48 = .ok (.iload_n 2, 1) := by decide +kernel
theorem dX6_rowOf_49 : decode cX6_rowOf 49 = .ok (.if_icmp .gt 104, 3) := by decide +kernel
theorem dX6_rowOf_52 : decode cX6_rowOf 52 = .ok (.iload 5, 2) := by decide +kernel
theorem dX6_rowOf_54 : decode cX6_rowOf 54 = .ok (.iload 6, 2) := by decide +kernel
theorem dX6_rowOf_56 : decode cX6_rowOf 56 = .ok (.idiv, 1) := by decide +kernel
theorem dX6_rowOf_57 : decode cX6_rowOf 57 = .ok (.istore 8, 2) := by decide +kernel
theorem dX6_rowOf_59 : decode cX6_rowOf 59 = .ok (.iconst 0, 1) := by decide +kernel
theorem dX6_rowOf_60 : decode cX6_rowOf 60 = .ok (.istore 4, 2) := by decide +kernel
theorem dX6_rowOf_62 : decode cX6_rowOf 62 = .ok (.iload_n 3, 1) := by decide +kernel
theorem dX6_rowOf_63 : decode cX6_rowOf 63 = .ok (.iload 4, 2) := by decide +kernel
theorem dX6_rowOf_65 : decode cX6_rowOf 65 = .ok (.invokestatic 199, 3) := by decide +kernel
theorem dX6_rowOf_68 : decode cX6_rowOf 68 = .ok (.ifCond .eq 8, 3) := by decide +kernel
theorem dX6_rowOf_71 : decode cX6_rowOf 71 = .ok (.iload 8, 2) := by decide +kernel
theorem dX6_rowOf_73 : decode cX6_rowOf 73 = .ok (.ifCond .le 28, 3) := by decide +kernel
theorem dX6_rowOf_76 : decode cX6_rowOf 76 = .ok (.iload 8, 2) := by decide +kernel
theorem dX6_rowOf_78 : decode cX6_rowOf 78 = .ok (.iload_n 3, 1) := by decide +kernel
theorem dX6_rowOf_79 : decode cX6_rowOf 79 = .ok (.iload 4, 2) := by decide +kernel
theorem dX6_rowOf_81 : decode cX6_rowOf 81 = .ok (.invokestatic 199, 3) := by decide +kernel
theorem dX6_rowOf_84 : decode cX6_rowOf 84 = .ok (.ifCond .eq 7, 3) := by decide +kernel
theorem dX6_rowOf_87 : decode cX6_rowOf 87 = .ok (.iconst 1, 1) := by decide +kernel
theorem dX6_rowOf_88 : decode cX6_rowOf 88 = .ok (.goto 4, 3) := by decide +kernel
theorem dX6_rowOf_91 : decode cX6_rowOf 91 = .ok (.iconst 0, 1) := by decide +kernel
theorem dX6_rowOf_92 : decode cX6_rowOf 92 = .ok (.isub, 1) := by decide +kernel
theorem dX6_rowOf_93 : decode cX6_rowOf 93 = .ok (.istore 8, 2) := by decide +kernel
theorem dX6_rowOf_95 : decode cX6_rowOf 95 = .ok (.iinc 4 1, 3) := by decide +kernel
theorem dX6_rowOf_98 : decode cX6_rowOf 98 = .ok (.goto (-36), 3) := by decide +kernel
theorem dX6_rowOf_101 : decode cX6_rowOf 101 = .ok (.iload 5, 2) := by decide +kernel
theorem dX6_rowOf_103 : decode cX6_rowOf 103 = .ok (.iload 6, 2) := by decide +kernel
theorem dX6_rowOf_105 : decode cX6_rowOf 105 = .ok (.irem, 1) := by decide +kernel
theorem dX6_rowOf_106 : decode cX6_rowOf 106 = .ok (.istore 5, 2) := by decide +kernel
theorem dX6_rowOf_108 : decode cX6_rowOf 108 = .ok (.iload_n 3, 1) := by decide +kernel
theorem dX6_rowOf_109 : decode cX6_rowOf 109 = .ok (.iconst 1, 1) := by decide +kernel
theorem dX6_rowOf_110 : decode cX6_rowOf 110 = .ok (.iload 4, 2) := by decide +kernel
theorem dX6_rowOf_112 : decode cX6_rowOf 112 = .ok (.ishl, 1) := by decide +kernel
theorem dX6_rowOf_113 : decode cX6_rowOf 113 = .ok (.iconst (-1), 1) := by decide +kernel
theorem dX6_rowOf_114 : decode cX6_rowOf 114 = .ok (.ixor, 1) := by decide +kernel
theorem dX6_rowOf_115 : decode cX6_rowOf 115 = .ok (.iand, 1) := by decide +kernel
theorem dX6_rowOf_116 : decode cX6_rowOf 116 = .ok (.istore_n 3, 1) := by decide +kernel
theorem dX6_rowOf_117 : decode cX6_rowOf 117 = .ok (.aload_n 0, 1) := by decide +kernel
theorem dX6_rowOf_118 : decode cX6_rowOf 118 = .ok (.getfield 233, 3) := by decide +kernel
theorem dX6_rowOf_121 : decode cX6_rowOf 121 = .ok (.iconst 1, 1) := by decide +kernel
theorem dX6_rowOf_122 : decode cX6_rowOf 122 = .ok (.isub, 1) := by decide +kernel
theorem dX6_rowOf_123 : decode cX6_rowOf 123 = .ok (.iload 7, 2) := by decide +kernel
theorem dX6_rowOf_125 : decode cX6_rowOf 125 = .ok (.isub, 1) := by decide +kernel
theorem dX6_rowOf_126 : decode cX6_rowOf 126 = .ok (.ifCond .le 18, 3) := by decide +kernel
theorem dX6_rowOf_129 : decode cX6_rowOf 129 = .ok (.iload 6, 2) := by decide +kernel
theorem dX6_rowOf_131 : decode cX6_rowOf 131 = .ok (.aload_n 0, 1) := by decide +kernel
theorem dX6_rowOf_132 : decode cX6_rowOf 132 = .ok (.getfield 233, 3) := by decide +kernel
theorem dX6_rowOf_135 : decode cX6_rowOf 135 = .ok (.iconst 1, 1) := by decide +kernel
theorem dX6_rowOf_136 : decode cX6_rowOf 136 = .ok (.isub, 1) := by decide +kernel
theorem dX6_rowOf_137 : decode cX6_rowOf 137 = .ok (.iload 7, 2) := by decide +kernel
theorem dX6_rowOf_139 : decode cX6_rowOf 139 = .ok (.isub, 1) := by decide +kernel
theorem dX6_rowOf_140 : decode cX6_rowOf 140 = .ok (.idiv, 1) := by decide +kernel
theorem dX6_rowOf_141 : decode cX6_rowOf 141 = .ok (.goto 4, 3) := by decide +kernel
theorem dX6_rowOf_144 : decode cX6_rowOf 144 = .ok (.iconst 1, 1) := by decide +kernel
theorem dX6_rowOf_145 : decode cX6_rowOf 145 = .ok (.istore 6, 2) := by decide +kernel
theorem dX6_rowOf_147 : decode cX6_rowOf 147 = .ok (.iinc 7 1, 3) := by decide +kernel
theorem dX6_rowOf_150 : decode cX6_rowOf 150 = .ok (.goto (-104), 3) := by decide +kernel
theorem dX6_rowOf_153 : decode cX6_rowOf 153 = .ok (.aload_n 0, 1) := by decide +kernel
theorem dX6_rowOf_154 : decode cX6_rowOf 154 = .ok (.getfield 45, 3) := by decide +kernel
theorem dX6_rowOf_157 : decode cX6_rowOf 157 = .ok (.iload 4, 2) := by decide +kernel
theorem dX6_rowOf_159 : decode cX6_rowOf 159 = .ok (.iaload, 1) := by decide +kernel
theorem dX6_rowOf_160 : decode cX6_rowOf 160 = .ok (.ireturn, 1) := by decide +kernel
theorem dX6_setAside_0 : decode cX6_setAside 0 = .ok (.iconst 0, 1) := by decide +kernel
theorem dX6_setAside_1 : decode cX6_setAside 1 = .ok (.istore_n 1, 1) := by decide +kernel
theorem dX6_setAside_2 : decode cX6_setAside 2 = .ok (.iload_n 1, 1) := by decide +kernel
theorem dX6_setAside_3 : decode cX6_setAside 3 = .ok (.bipush 8, 2) := by decide +kernel
theorem dX6_setAside_5 : decode cX6_setAside 5 = .ok (.if_icmp .ge 24, 3) := by decide +kernel
theorem dX6_setAside_8 : decode cX6_setAside 8 = .ok (.aload_n 0, 1) := by decide +kernel
theorem dX6_setAside_9 : decode cX6_setAside 9 = .ok (.getfield 48, 3) := by decide +kernel
theorem dX6_setAside_12 : decode cX6_setAside 12 = .ok (.iload_n 1, 1) := by decide +kernel
theorem dX6_setAside_13 : decode cX6_setAside 13 = .ok (.aload_n 0, 1) := by decide +kernel
theorem dX6_setAside_14 : decode cX6_setAside 14 = .ok (.getfield 7, 3) := by decide +kernel
theorem dX6_setAside_17 : decode cX6_setAside 17 = .ok (.bipush 42, 2) := by decide +kernel
theorem dX6_setAside_19 : decode cX6_setAside 19 = .ok (.iload_n 1, 1) := by decide +kernel
theorem dX6_setAside_20 : decode cX6_setAside 20 = .ok (.iadd, 1) := by decide +kernel
theorem dX6_setAside_21 : decode cX6_setAside 21 = .ok (.iaload, 1) := by decide +kernel
theorem dX6_setAside_22 : decode cX6_setAside 22 = .ok (.iastore, 1) := by decide +kernel
theorem dX6_setAside_23 : decode cX6_setAside 23 = .ok (.iinc 1 1, 3) := by decide +kernel
theorem dX6_setAside_26 : decode cX6_setAside 26 = .ok (.goto (-24), 3) := by decide +kernel
theorem dX6_setAside_29 : decode cX6_setAside 29 = .ok (.return_, 1) := by decide +kernel
theorem dX6_putBack_0 : decode cX6_putBack 0 = .ok (.iconst 0, 1) := by decide +kernel
theorem dX6_putBack_1 : decode cX6_putBack 1 = .ok (.istore_n 1, 1) := by decide +kernel
theorem dX6_putBack_2 : decode cX6_putBack 2 = .ok (.iload_n 1, 1) := by decide +kernel
theorem dX6_putBack_3 : decode cX6_putBack 3 = .ok (.bipush 8, 2) := by decide +kernel
theorem dX6_putBack_5 : decode cX6_putBack 5 = .ok (.if_icmp .ge 24, 3) := by decide +kernel
theorem dX6_putBack_8 : decode cX6_putBack 8 = .ok (.aload_n 0, 1) := by decide +kernel
theorem dX6_putBack_9 : decode cX6_putBack 9 = .ok (.getfield 7, 3) := by decide +kernel
theorem dX6_putBack_12 : decode cX6_putBack 12 = .ok (.bipush 42, 2) := by decide +kernel
theorem dX6_putBack_14 : decode cX6_putBack 14 = .ok (.iload_n 1, 1) := by decide +kernel
theorem dX6_putBack_15 : decode cX6_putBack 15 = .ok (.iadd, 1) := by decide +kernel
theorem dX6_putBack_16 : decode cX6_putBack 16 = .ok (.aload_n 0, 1) := by decide +kernel
theorem dX6_putBack_17 : decode cX6_putBack 17 = .ok (.getfield 48, 3) := by decide +kernel
theorem dX6_putBack_20 : decode cX6_putBack 20 = .ok (.iload_n 1, 1) := by decide +kernel
theorem dX6_putBack_21 : decode cX6_putBack 21 = .ok (.iaload, 1) := by decide +kernel
theorem dX6_putBack_22 : decode cX6_putBack 22 = .ok (.iastore, 1) := by decide +kernel
theorem dX6_putBack_23 : decode cX6_putBack 23 = .ok (.iinc 1 1, 3) := by decide +kernel
theorem dX6_putBack_26 : decode cX6_putBack 26 = .ok (.goto (-24), 3) := by decide +kernel
theorem dX6_putBack_29 : decode cX6_putBack 29 = .ok (.return_, 1) := by decide +kernel
theorem dX6_errandTo_0 : decode cX6_errandTo 0 = .ok (.aload_n 0, 1) := by decide +kernel
theorem dX6_errandTo_1 : decode cX6_errandTo 1 = .ok (.invokevirtual 236, 3) := by decide +kernel
theorem dX6_errandTo_4 : decode cX6_errandTo 4 = .ok (.aload_n 0, 1) := by decide +kernel
theorem dX6_errandTo_5 : decode cX6_errandTo 5 = .ok (.iload_n 1, 1) := by decide +kernel
theorem dX6_errandTo_6 : decode cX6_errandTo 6 = .ok (.iconst 0, 1) := by decide +kernel
theorem dX6_errandTo_7 : decode cX6_errandTo 7 = .ok (.iload_n 2, 1) := by decide +kernel
theorem dX6_errandTo_8 : decode cX6_errandTo 8 = .ok (.invokevirtual 227, 3) := by decide +kernel
theorem dX6_errandTo_11 : decode cX6_errandTo 11 = .ok (.istore_n 3, 1) := by decide +kernel
theorem dX6_errandTo_12 : decode cX6_errandTo 12 = .ok (.aload_n 0, 1) := by decide +kernel
theorem dX6_errandTo_13 : decode cX6_errandTo 13 = .ok (.invokevirtual 239, 3) := by decide +kernel
theorem dX6_errandTo_16 : decode cX6_errandTo 16 = .ok (.aload_n 0, 1) := by decide +kernel
theorem dX6_errandTo_17 : decode cX6_errandTo 17 = .ok (.iload_n 1, 1) := by decide +kernel
theorem dX6_errandTo_18 : decode cX6_errandTo 18 = .ok (.iconst 1, 1) := by decide +kernel
theorem dX6_errandTo_19 : decode cX6_errandTo 19 = .ok (.iload_n 2, 1) := by decide +kernel
theorem dX6_errandTo_20 : decode cX6_errandTo 20 = .ok (.invokevirtual 227, 3) := by decide +kernel
theorem dX6_errandTo_23 : decode cX6_errandTo 23 = .ok (.istore 4, 2) := by decide +kernel
theorem dX6_errandTo_25 : decode cX6_errandTo 25 = .ok (.aload_n 0, 1) := by decide +kernel
theorem dX6_errandTo_26 : decode cX6_errandTo 26 = .ok (.invokevirtual 239, 3) := by decide +kernel
theorem dX6_errandTo_29 : decode cX6_errandTo 29 = .ok (.iload_n 3, 1) := by decide +kernel
theorem dX6_errandTo_30 : decode cX6_errandTo 30 = .ok (.iconst (-1), 1) := by decide +kernel
theorem dX6_errandTo_31 : decode cX6_errandTo 31 = .ok (.if_icmp .eq 19, 3) := by decide +kernel
theorem dX6_errandTo_34 : decode cX6_errandTo 34 = .ok (.iload 4, 2) := by decide +kernel
theorem dX6_errandTo_36 : decode cX6_errandTo 36 = .ok (.iconst (-1), 1) := by decide +kernel
theorem dX6_errandTo_37 : decode cX6_errandTo 37 = .ok (.if_icmp .eq 9, 3) := by decide +kernel
theorem dX6_errandTo_40 : decode cX6_errandTo 40 = .ok (.iload_n 3, 1) := by decide +kernel
theorem dX6_errandTo_41 : decode cX6_errandTo 41 = .ok (.iload 4, 2) := by decide +kernel
theorem dX6_errandTo_43 : decode cX6_errandTo 43 = .ok (.if_icmp .gt 7, 3) := by decide +kernel
theorem dX6_errandTo_46 : decode cX6_errandTo 46 = .ok (.iconst 1, 1) := by decide +kernel
theorem dX6_errandTo_47 : decode cX6_errandTo 47 = .ok (.goto 4, 3) := by decide +kernel
theorem dX6_errandTo_50 : decode cX6_errandTo 50 = .ok (.iconst 0, 1) := by decide +kernel
theorem dX6_errandTo_51 : decode cX6_errandTo 51 = .ok (.istore 5, 2) := by decide +kernel
theorem dX6_errandTo_53 : decode cX6_errandTo 53 = .ok (.iload 5, 2) := by decide +kernel
theorem dX6_errandTo_55 : decode cX6_errandTo 55 = .ok (.ifCond .eq 13, 3) := by decide +kernel
theorem dX6_errandTo_58 : decode cX6_errandTo 58 = .ok (.aload_n 0, 1) := by decide +kernel
theorem dX6_errandTo_59 : decode cX6_errandTo 59 = .ok (.iload_n 1, 1) := by decide +kernel
theorem dX6_errandTo_60 : decode cX6_errandTo 60 = .ok (.iconst 0, 1) := by decide +kernel
theorem dX6_errandTo_61 : decode cX6_errandTo 61 = .ok (.iload_n 2, 1) := by decide +kernel
theorem dX6_errandTo_62 : decode cX6_errandTo 62 = .ok (.invokevirtual 227, 3) := by decide +kernel
theorem dX6_errandTo_65 : decode cX6_errandTo 65 = .ok (.goto 20, 3) := by decide +kernel
theorem dX6_errandTo_68 : decode cX6_errandTo 68 = .ok (.iload 4, 2) := by decide +kernel
theorem dX6_errandTo_70 : decode cX6_errandTo 70 = .ok (.iconst (-1), 1) := by decide +kernel
theorem dX6_errandTo_71 : decode cX6_errandTo 71 = .ok (.if_icmp .ne 7, 3) := by decide +kernel
theorem dX6_errandTo_74 : decode cX6_errandTo 74 = .ok (.iconst (-1), 1) := by decide +kernel
theorem dX6_errandTo_75 : decode cX6_errandTo 75 = .ok (.goto 10, 3) := by decide +kernel
theorem dX6_errandTo_78 : decode cX6_errandTo 78 = .ok (.aload_n 0, 1) := by decide +kernel
theorem dX6_errandTo_79 : decode cX6_errandTo 79 = .ok (.iload_n 1, 1) := by decide +kernel
theorem dX6_errandTo_80 : decode cX6_errandTo 80 = .ok (.iconst 1, 1) := by decide +kernel
theorem dX6_errandTo_81 : decode cX6_errandTo 81 = .ok (.iload_n 2, 1) := by decide +kernel
theorem dX6_errandTo_82 : decode cX6_errandTo 82 = .ok (.invokevirtual 227, 3) := by decide +kernel
theorem dX6_errandTo_85 : decode cX6_errandTo 85 = .ok (.ireturn, 1) := by decide +kernel
theorem dX6_stepsBy_0 : decode cX6_stepsBy 0 = .ok (.aload_n 0, 1) := by decide +kernel
theorem dX6_stepsBy_1 : decode cX6_stepsBy 1 = .ok (.iconst 0, 1) := by decide +kernel
theorem dX6_stepsBy_2 : decode cX6_stepsBy 2 = .ok (.bipush 42, 2) := by decide +kernel
theorem dX6_stepsBy_4 : decode cX6_stepsBy 4 = .ok (.invokevirtual 170, 3) := by decide +kernel
theorem dX6_stepsBy_7 : decode cX6_stepsBy 7 = .ok (.iconst 0, 1) := by decide +kernel
theorem dX6_stepsBy_8 : decode cX6_stepsBy 8 = .ok (.istore_n 3, 1) := by decide +kernel
theorem dX6_stepsBy_9 : decode cX6_stepsBy 9 = .ok (.iconst 0, 1) := by decide +kernel
theorem dX6_stepsBy_10 : decode cX6_stepsBy 10 = .ok (.istore 4, 2) := by decide +kernel
theorem dX6_stepsBy_12 : decode cX6_stepsBy 12 = .ok (.iload 4, 2) := by decide +kernel
theorem dX6_stepsBy_14 : decode cX6_stepsBy 14 = .ok (.aload_n 0, 1) := by decide +kernel
theorem dX6_stepsBy_15 : decode cX6_stepsBy 15 = .ok (.getfield 233, 3) := by decide +kernel
theorem dX6_stepsBy_18 : decode cX6_stepsBy 18 = .ok (.if_icmp .ge 36, 3) := by decide +kernel
theorem dX6_stepsBy_21 : decode cX6_stepsBy 21 = .ok (.aload_n 0, 1) := by decide +kernel
theorem dX6_stepsBy_22 : decode cX6_stepsBy 22 = .ok (.iload_n 2, 1) := by decide +kernel
theorem dX6_stepsBy_23 : decode cX6_stepsBy 23 = .ok (.aload_n 0, 1) := by decide +kernel
theorem dX6_stepsBy_24 : decode cX6_stepsBy 24 = .ok (.iload_n 1, 1) := by decide +kernel
theorem dX6_stepsBy_25 : decode cX6_stepsBy 25 = .ok (.iload 4, 2) := by decide +kernel
theorem dX6_stepsBy_27 : decode cX6_stepsBy 27 = .ok (.invokevirtual 242, 3) := by decide +kernel
theorem dX6_stepsBy_30 : decode cX6_stepsBy 30 = .ok (.invokevirtual 245, 3) := by decide +kernel
theorem dX6_stepsBy_33 : decode cX6_stepsBy 33 = .ok (.istore 5, 2) := by decide +kernel
theorem dX6_stepsBy_35 : decode cX6_stepsBy 35 = .ok (.iload 5, 2) := by decide +kernel
theorem dX6_stepsBy_37 : decode cX6_stepsBy 37 = .ok (.iconst (-1), 1) := by decide +kernel
theorem dX6_stepsBy_38 : decode cX6_stepsBy 38 = .ok (.if_icmp .ne 5, 3) := by decide +kernel
theorem dX6_stepsBy_41 : decode cX6_stepsBy 41 = .ok (.iconst (-1), 1) := by decide +kernel
theorem dX6_stepsBy_42 : decode cX6_stepsBy 42 = .ok (.ireturn, 1) := by decide +kernel
theorem dX6_stepsBy_43 : decode cX6_stepsBy 43 = .ok (.iload_n 3, 1) := by decide +kernel
theorem dX6_stepsBy_44 : decode cX6_stepsBy 44 = .ok (.iload 5, 2) := by decide +kernel
theorem dX6_stepsBy_46 : decode cX6_stepsBy 46 = .ok (.iadd, 1) := by decide +kernel
theorem dX6_stepsBy_47 : decode cX6_stepsBy 47 = .ok (.istore_n 3, 1) := by decide +kernel
theorem dX6_stepsBy_48 : decode cX6_stepsBy 48 = .ok (.iinc 4 1, 3) := by decide +kernel
theorem dX6_stepsBy_51 : decode cX6_stepsBy 51 = .ok (.goto (-39), 3) := by decide +kernel
theorem dX6_stepsBy_54 : decode cX6_stepsBy 54 = .ok (.iload_n 3, 1) := by decide +kernel
theorem dX6_stepsBy_55 : decode cX6_stepsBy 55 = .ok (.ireturn, 1) := by decide +kernel
theorem dX6_errands_0 : decode cX6_errands 0 = .ok (.iload_n 1, 1) := by decide +kernel
theorem dX6_errands_1 : decode cX6_errands 1 = .ok (.i2l, 1) := by decide +kernel
theorem dX6_errands_2 : decode cX6_errands 2 = .ok (.lconst 0, 1) := by decide +kernel
theorem dX6_errands_3 : decode cX6_errands 3 = .ok (.iconst 1, 1) := by decide +kernel
theorem dX6_errands_4 : decode cX6_errands 4 = .ok (.aload_n 0, 1) := by decide +kernel
theorem dX6_errands_5 : decode cX6_errands 5 = .ok (.getfield 23, 3) := by decide +kernel
theorem dX6_errands_8 : decode cX6_errands 8 = .ok (.ishl, 1) := by decide +kernel
theorem dX6_errands_9 : decode cX6_errands 9 = .ok (.iconst 1, 1) := by decide +kernel
theorem dX6_errands_10 : decode cX6_errands 10 = .ok (.isub, 1) := by decide +kernel
theorem dX6_errands_11 : decode cX6_errands 11 = .ok (.i2l, 1) := by decide +kernel
theorem dX6_errands_12 : decode cX6_errands 12 = .ok (.invokestatic 60, 3) := by decide +kernel
theorem dX6_errands_15 : decode cX6_errands 15 = .ok (.ifCond .eq 11, 3) := by decide +kernel
theorem dX6_errands_18 : decode cX6_errands 18 = .ok (.aload_n 0, 1) := by decide +kernel
theorem dX6_errands_19 : decode cX6_errands 19 = .ok (.iload_n 2, 1) := by decide +kernel
theorem dX6_errands_20 : decode cX6_errands 20 = .ok (.invokevirtual 183, 3) := by decide +kernel
theorem dX6_errands_23 : decode cX6_errands 23 = .ok (.ifCond .ne 6, 3) := by decide +kernel
theorem dX6_errands_26 : decode cX6_errands 26 = .ok (.bipush (-2), 2) := by decide +kernel
theorem dX6_errands_28 : decode cX6_errands 28 = .ok (.ireturn, 1) := by decide +kernel
theorem dX6_errands_29 : decode cX6_errands 29 = .ok (.iload_n 3, 1) := by decide +kernel
theorem dX6_errands_30 : decode cX6_errands 30 = .ok (.iconst (-1), 1) := by decide +kernel
theorem dX6_errands_31 : decode cX6_errands 31 = .ok (.if_icmp .ge 6, 3) := by decide +kernel
theorem dX6_errands_34 : decode cX6_errands 34 = .ok (.bipush (-3), 2) := by decide +kernel
theorem dX6_errands_36 : decode cX6_errands 36 = .ok (.ireturn, 1) := by decide +kernel
theorem dX6_errands_37 : decode cX6_errands 37 = .ok (.iload_n 1, 1) := by decide +kernel
theorem dX6_errands_38 : decode cX6_errands 38 = .ok (.invokestatic 224, 3) := by decide +kernel
theorem dX6_errands_41 : decode cX6_errands 41 = .ok (.iconst 5, 1) := by decide +kernel
theorem dX6_errands_42 : decode cX6_errands 42 = .ok (.if_icmp .le 6, 3) := by decide +kernel
theorem dX6_errands_45 : decode cX6_errands 45 = .ok (.bipush (-4), 2) := by decide +kernel
theorem dX6_errands_47 : decode cX6_errands 47 = .ok (.ireturn, 1) := by decide +kernel
theorem dX6_errands_48 : decode cX6_errands 48 = .ok (.aload_n 0, 1) := by decide +kernel
theorem dX6_errands_49 : decode cX6_errands 49 = .ok (.iconst 0, 1) := by decide +kernel
theorem dX6_errands_50 : decode cX6_errands 50 = .ok (.putfield 233, 3) := by decide +kernel
theorem dX6_errands_53 : decode cX6_errands 53 = .ok (.iconst 1, 1) := by decide +kernel
theorem dX6_errands_54 : decode cX6_errands 54 = .ok (.istore 4, 2) := by decide +kernel
theorem dX6_errands_56 : decode cX6_errands 56 = .ok (.iconst 0, 1) := by decide +kernel
theorem dX6_errands_57 : decode cX6_errands 57 = .ok (.istore 5, 2) := by decide +kernel
theorem dX6_errands_59 : decode cX6_errands 59 = .ok (.iload 5, 2) := by decide +kernel
theorem dX6_errands_61 : decode cX6_errands 61 = .ok (.aload_n 0, 1) := by decide +kernel
theorem dX6_errands_62 : decode cX6_errands 62 = .ok (.getfield 23, 3) := by decide +kernel
theorem dX6_errands_65 : decode cX6_errands 65 = .ok (.if_icmp .ge 48, 3) := by decide +kernel
theorem dX6_errands_68 : decode cX6_errands 68 = .ok (.iload_n 1, 1) := by decide +kernel
theorem dX6_errands_69 : decode cX6_errands 69 = .ok (.iload 5, 2) := by decide +kernel
theorem dX6_errands_71 : decode cX6_errands 71 = .ok (.invokestatic 199, 3) := by decide +kernel
theorem dX6_errands_74 : decode cX6_errands 74 = .ok (.ifCond .eq 33, 3) := by decide +kernel
theorem dX6_errands_77 : decode cX6_errands 77 = .ok (.aload_n 0, 1) := by decide +kernel
theorem dX6_errands_78 : decode cX6_errands 78 = .ok (.getfield 45, 3) := by decide +kernel
theorem dX6_errands_81 : decode cX6_errands 81 = .ok (.aload_n 0, 1) := by decide +kernel
theorem dX6_errands_82 : decode cX6_errands 82 = .ok (.getfield 233, 3) := by decide +kernel
theorem dX6_errands_85 : decode cX6_errands 85 = .ok (.iload 5, 2) := by decide +kernel
theorem dX6_errands_87 : decode cX6_errands 87 = .ok (.iastore, 1) := by decide +kernel
theorem dX6_errands_88 : decode cX6_errands 88 = .ok (.aload_n 0, 1) := by decide +kernel
theorem dX6_errands_89 : decode cX6_errands 89 = .ok (.dup, 1) := by decide +kernel
theorem dX6_errands_90 : decode cX6_errands 90 = .ok (.getfield 233, 3) := by decide +kernel
theorem dX6_errands_93 : decode cX6_errands 93 = .ok (.iconst 1, 1) := by decide +kernel
theorem dX6_errands_94 : decode cX6_errands 94 = .ok (.iadd, 1) := by decide +kernel
theorem dX6_errands_95 : decode cX6_errands 95 = .ok (.putfield 233, 3) := by decide +kernel
theorem dX6_errands_98 : decode cX6_errands 98 = .ok (.iload 4, 2) := by decide +kernel
theorem dX6_errands_100 : decode cX6_errands 100 = .ok (.aload_n 0, 1) := by decide +kernel
theorem dX6_errands_101 : decode cX6_errands 101 = .ok (.getfield 233, 3) := by decide +kernel
theorem dX6_errands_104 : decode cX6_errands 104 = .ok (.imul, 1) := by decide +kernel
theorem dX6_errands_105 : decode cX6_errands 105 = .ok (.istore 4, 2) := by decide +kernel
theorem dX6_errands_107 : decode cX6_errands 107 = .ok (.iinc 5 1, 3) := by decide +kernel
theorem dX6_errands_110 : decode cX6_errands 110 = .ok (.goto (-51), 3) := by decide +kernel
theorem dX6_errands_113 : decode cX6_errands 113 = .ok (.iconst (-1), 1) := by decide +kernel
theorem dX6_errands_114 : decode cX6_errands 114 = .ok (.istore 5, 2) := by decide +kernel
theorem dX6_errands_116 : decode cX6_errands 116 = .ok (.ldc 248, 2) := by decide +kernel
theorem dX6_errands_118 : decode cX6_errands 118 = .ok (.istore 6, 2) := by decide +kernel
theorem dX6_errands_120 : decode cX6_errands 120 = .ok (.iconst 0, 1) := by decide +kernel
theorem dX6_errands_121 : decode cX6_errands 121 = .ok (.istore 7, 2) := by decide +kernel
theorem dX6_errands_123 : decode cX6_errands 123 = .ok (.iload 7, 2) := by decide +kernel
theorem dX6_errands_125 : decode cX6_errands 125 = .ok (.iload 4, 2) := by decide +kernel
theorem dX6_errands_127 : decode cX6_errands 127 = .ok (.if_icmp .ge 39, 3) := by decide +kernel
theorem dX6_errands_130 : decode cX6_errands 130 = .ok (.aload_n 0, 1) := by decide +kernel
theorem dX6_errands_131 : decode cX6_errands 131 = .ok (.iload 7, 2) := by decide +kernel
theorem dX6_errands_133 : decode cX6_errands 133 = .ok (.iload_n 2, 1) := by decide +kernel
theorem dX6_errands_134 : decode cX6_errands 134 = .ok (.invokevirtual 249, 3) := by decide +kernel
theorem dX6_errands_137 : decode cX6_errands 137 = .ok (.istore 8, 2) := by decide +kernel
theorem dX6_errands_139 : decode cX6_errands 139 = .ok (.iload 8, 2) := by decide +kernel
theorem dX6_errands_141 : decode cX6_errands 141 = .ok (.iconst (-1), 1) := by decide +kernel
theorem dX6_errands_142 : decode cX6_errands 142 = .ok (.if_icmp .eq 18, 3) := by decide +kernel
theorem dX6_errands_145 : decode cX6_errands 145 = .ok (.iload 8, 2) := by decide +kernel
theorem dX6_errands_147 : decode cX6_errands 147 = .ok (.iload 6, 2) := by decide +kernel
theorem dX6_errands_149 : decode cX6_errands 149 = .ok (.if_icmp .ge 11, 3) := by decide +kernel
theorem dX6_errands_152 : decode cX6_errands 152 = .ok (.iload 8, 2) := by decide +kernel
theorem dX6_errands_154 : decode cX6_errands 154 = .ok (.istore 6, 2) := by decide +kernel
theorem dX6_errands_156 : decode cX6_errands 156 = .ok (.iload 7, 2) := by decide +kernel
theorem dX6_errands_158 : decode cX6_errands 158 = .ok (.istore 5, 2) := by decide +kernel
theorem dX6_errands_160 : decode cX6_errands 160 = .ok (.iinc 7 1, 3) := by decide +kernel
theorem dX6_errands_163 : decode cX6_errands 163 = .ok (.goto (-40), 3) := by decide +kernel
theorem dX6_errands_166 : decode cX6_errands 166 = .ok (.iload 5, 2) := by decide +kernel
theorem dX6_errands_168 : decode cX6_errands 168 = .ok (.iconst (-1), 1) := by decide +kernel
theorem dX6_errands_169 : decode cX6_errands 169 = .ok (.if_icmp .ne 7, 3) := by decide +kernel
theorem dX6_errands_172 : decode cX6_errands 172 = .ok (.iconst (-1), 1) := by decide +kernel
theorem dX6_errands_173 : decode cX6_errands 173 = .ok (.goto 32, 3) := by decide +kernel
theorem dX6_errands_176 : decode cX6_errands 176 = .ok (.iload_n 3, 1) := by decide +kernel
theorem dX6_errands_177 : decode cX6_errands 177 = .ok (.iconst (-1), 1) := by decide +kernel
theorem dX6_errands_178 : decode cX6_errands 178 = .ok (.if_icmp .ne 8, 3) := by decide +kernel
theorem dX6_errands_181 : decode cX6_errands 181 = .ok (.iload 6, 2) := by decide +kernel
theorem dX6_errands_183 : decode cX6_errands 183 = .ok (.goto 22, 3) := by decide +kernel
theorem dX6_errands_186 : decode cX6_errands 186 = .ok (.iload_n 3, 1) := by decide +kernel
theorem dX6_errands_187 : decode cX6_errands 187 = .ok (.aload_n 0, 1) := by decide +kernel
theorem dX6_errands_188 : decode cX6_errands 188 = .ok (.getfield 233, 3) := by decide +kernel
theorem dX6_errands_191 : decode cX6_errands 191 = .ok (.if_icmp .ge 13, 3) := by decide +kernel
theorem dX6_errands_194 : decode cX6_errands 194 = .ok (.aload_n 0, 1) := by decide +kernel
theorem dX6_errands_195 : decode cX6_errands 195 = .ok (.iload 5, 2) := by decide +kernel
theorem dX6_errands_197 : decode cX6_errands 197 = .ok (.iload_n 3, 1) := by decide +kernel
theorem dX6_errands_198 : decode cX6_errands 198 = .ok (.invokevirtual 242, 3) := by decide +kernel
theorem dX6_errands_201 : decode cX6_errands 201 = .ok (.goto 4, 3) := by decide +kernel
theorem dX6_errands_204 : decode cX6_errands 204 = .ok (.iconst (-1), 1) := by decide +kernel
theorem dX6_errands_205 : decode cX6_errands 205 = .ok (.ireturn, 1) := by decide +kernel
theorem dX6_slam_0 : decode cX6_slam 0 = .ok (.aload_n 0, 1) := by decide +kernel
theorem dX6_slam_1 : decode cX6_slam 1 = .ok (.iload_n 1, 1) := by decide +kernel
theorem dX6_slam_2 : decode cX6_slam 2 = .ok (.invokevirtual 183, 3) := by decide +kernel
theorem dX6_slam_5 : decode cX6_slam 5 = .ok (.ifCond .ne 6, 3) := by decide +kernel
theorem dX6_slam_8 : decode cX6_slam 8 = .ok (.bipush (-2), 2) := by decide +kernel
theorem dX6_slam_10 : decode cX6_slam 10 = .ok (.ireturn, 1) := by decide +kernel
theorem dX6_slam_11 : decode cX6_slam 11 = .ok (.iload_n 2, 1) := by decide +kernel
theorem dX6_slam_12 : decode cX6_slam 12 = .ok (.invokestatic 210, 3) := by decide +kernel
theorem dX6_slam_15 : decode cX6_slam 15 = .ok (.ifCond .eq 13, 3) := by decide +kernel
theorem dX6_slam_18 : decode cX6_slam 18 = .ok (.iload_n 3, 1) := by decide +kernel
theorem dX6_slam_19 : decode cX6_slam 19 = .ok (.i2l, 1) := by decide +kernel
theorem dX6_slam_20 : decode cX6_slam 20 = .ok (.lconst 0, 1) := by decide +kernel
theorem dX6_slam_21 : decode cX6_slam 21 = .ok (.lconst 1, 1) := by decide +kernel
theorem dX6_slam_22 : decode cX6_slam 22 = .ok (.invokestatic 60, 3) := by decide +kernel
theorem dX6_slam_25 : decode cX6_slam 25 = .ok (.ifCond .ne 6, 3) := by decide +kernel
theorem dX6_slam_28 : decode cX6_slam 28 = .ok (.bipush (-3), 2) := by decide +kernel
theorem dX6_slam_30 : decode cX6_slam 30 = .ok (.ireturn, 1) := by decide +kernel
theorem dX6_slam_31 : decode cX6_slam 31 = .ok (.aload_n 0, 1) := by decide +kernel
theorem dX6_slam_32 : decode cX6_slam 32 = .ok (.getfield 27, 3) := by decide +kernel
theorem dX6_slam_35 : decode cX6_slam 35 = .ok (.iload_n 1, 1) := by decide +kernel
theorem dX6_slam_36 : decode cX6_slam 36 = .ok (.iaload, 1) := by decide +kernel
theorem dX6_slam_37 : decode cX6_slam 37 = .ok (.iconst 3, 1) := by decide +kernel
theorem dX6_slam_38 : decode cX6_slam 38 = .ok (.if_icmp .ne 6, 3) := by decide +kernel
theorem dX6_slam_41 : decode cX6_slam 41 = .ok (.bipush (-4), 2) := by decide +kernel
theorem dX6_slam_43 : decode cX6_slam 43 = .ok (.ireturn, 1) := by decide +kernel
theorem dX6_slam_44 : decode cX6_slam 44 = .ok (.iload_n 2, 1) := by decide +kernel
theorem dX6_slam_45 : decode cX6_slam 45 = .ok (.ifCond .ne 7, 3) := by decide +kernel
theorem dX6_slam_48 : decode cX6_slam 48 = .ok (.iload_n 1, 1) := by decide +kernel
theorem dX6_slam_49 : decode cX6_slam 49 = .ok (.goto 8, 3) := by decide +kernel
theorem dX6_slam_52 : decode cX6_slam 52 = .ok (.aload_n 0, 1) := by decide +kernel
theorem dX6_slam_53 : decode cX6_slam 53 = .ok (.iload_n 1, 1) := by decide +kernel
theorem dX6_slam_54 : decode cX6_slam 54 = .ok (.invokevirtual 192, 3) := by decide +kernel
theorem dX6_slam_57 : decode cX6_slam 57 = .ok (.istore 4, 2) := by decide +kernel
theorem dX6_slam_59 : decode cX6_slam 59 = .ok (.iload_n 3, 1) := by decide +kernel
theorem dX6_slam_60 : decode cX6_slam 60 = .ok (.ifCond .ne 23, 3) := by decide +kernel
theorem dX6_slam_63 : decode cX6_slam 63 = .ok (.aload_n 0, 1) := by decide +kernel
theorem dX6_slam_64 : decode cX6_slam 64 = .ok (.iconst 0, 1) := by decide +kernel
theorem dX6_slam_65 : decode cX6_slam 65 = .ok (.iload 4, 2) := by decide +kernel
theorem dX6_slam_67 : decode cX6_slam 67 = .ok (.invokevirtual 180, 3) := by decide +kernel
theorem dX6_slam_70 : decode cX6_slam 70 = .ok (.aload_n 0, 1) := by decide +kernel
theorem dX6_slam_71 : decode cX6_slam 71 = .ok (.getfield 30, 3) := by decide +kernel
theorem dX6_slam_74 : decode cX6_slam 74 = .ok (.iload 4, 2) := by decide +kernel
theorem dX6_slam_76 : decode cX6_slam 76 = .ok (.iaload, 1) := by decide +kernel
theorem dX6_slam_77 : decode cX6_slam 77 = .ok (.isub, 1) := by decide +kernel
theorem dX6_slam_78 : decode cX6_slam 78 = .ok (.iconst 1, 1) := by decide +kernel
theorem dX6_slam_79 : decode cX6_slam 79 = .ok (.isub, 1) := by decide +kernel
theorem dX6_slam_80 : decode cX6_slam 80 = .ok (.goto 20, 3) := by decide +kernel
theorem dX6_slam_83 : decode cX6_slam 83 = .ok (.iload_n 2, 1) := by decide +kernel
theorem dX6_slam_84 : decode cX6_slam 84 = .ok (.ifCond .ne 11, 3) := by decide +kernel
theorem dX6_slam_87 : decode cX6_slam 87 = .ok (.aload_n 0, 1) := by decide +kernel
theorem dX6_slam_88 : decode cX6_slam 88 = .ok (.iload_n 1, 1) := by decide +kernel
theorem dX6_slam_89 : decode cX6_slam 89 = .ok (.invokevirtual 177, 3) := by decide +kernel
theorem dX6_slam_92 : decode cX6_slam 92 = .ok (.goto 8, 3) := by decide +kernel
theorem dX6_slam_95 : decode cX6_slam 95 = .ok (.aload_n 0, 1) := by decide +kernel
theorem dX6_slam_96 : decode cX6_slam 96 = .ok (.iload_n 1, 1) := by decide +kernel
theorem dX6_slam_97 : decode cX6_slam 97 = .ok (.invokevirtual 192, 3) := by decide +kernel
theorem dX6_slam_100 : decode cX6_slam 100 = .ok (.ireturn, 1) := by decide +kernel
theorem dX6_saveFirst_0 : decode cX6_saveFirst 0 = .ok (.iconst 0, 1) := by decide +kernel
theorem dX6_saveFirst_1 : decode cX6_saveFirst 1 = .ok (.istore_n 1, 1) := by decide +kernel
theorem dX6_saveFirst_2 : decode cX6_saveFirst 2 = .ok (.iload_n 1, 1) := by decide +kernel
theorem dX6_saveFirst_3 : decode cX6_saveFirst 3 = .ok (.aload_n 0, 1) := by decide +kernel
theorem dX6_saveFirst_4 : decode cX6_saveFirst 4 = .ok (.getfield 23, 3) := by decide +kernel
theorem dX6_saveFirst_7 : decode cX6_saveFirst 7 = .ok (.if_icmp .ge 66, 3) := by decide +kernel
theorem dX6_saveFirst_10 : decode cX6_saveFirst 10 = .ok (.iconst 0, 1) := by decide +kernel
theorem dX6_saveFirst_11 : decode cX6_saveFirst 11 = .ok (.istore_n 2, 1) := by decide +kernel
theorem dX6_saveFirst_12 : decode cX6_saveFirst 12 = .ok (.iload_n 2, 1) := by decide +kernel
theorem dX6_saveFirst_13 : decode cX6_saveFirst 13 = .ok (.aload_n 0, 1) := by decide +kernel
theorem dX6_saveFirst_14 : decode cX6_saveFirst 14 = .ok (.getfield 153, 3) := by decide +kernel
theorem dX6_saveFirst_17 : decode cX6_saveFirst 17 = .ok (.if_icmp .ge 22, 3) := by decide +kernel
theorem dX6_saveFirst_20 : decode cX6_saveFirst 20 = .ok (.aload_n 0, 1) := by decide +kernel
theorem dX6_saveFirst_21 : decode cX6_saveFirst 21 = .ok (.getfield 7, 3) := by decide +kernel
theorem dX6_saveFirst_24 : decode cX6_saveFirst 24 = .ok (.bipush 50, 2) := by decide +kernel
theorem dX6_saveFirst_26 : decode cX6_saveFirst 26 = .ok (.iload_n 2, 1) := by decide +kernel
theorem dX6_saveFirst_27 : decode cX6_saveFirst 27 = .ok (.iadd, 1) := by decide +kernel
theorem dX6_saveFirst_28 : decode cX6_saveFirst 28 = .ok (.iaload, 1) := by decide +kernel
theorem dX6_saveFirst_29 : decode cX6_saveFirst 29 = .ok (.iload_n 1, 1) := by decide +kernel
theorem dX6_saveFirst_30 : decode cX6_saveFirst 30 = .ok (.if_icmp .eq 9, 3) := by decide +kernel
theorem dX6_saveFirst_33 : decode cX6_saveFirst 33 = .ok (.iinc 2 1, 3) := by decide +kernel
theorem dX6_saveFirst_36 : decode cX6_saveFirst 36 = .ok (.goto (-24), 3) := by decide +kernel
theorem dX6_saveFirst_39 : decode cX6_saveFirst 39 = .ok (.iload_n 2, 1) := by decide +kernel
theorem dX6_saveFirst_40 : decode cX6_saveFirst 40 = .ok (.aload_n 0, 1) := by decide +kernel
theorem dX6_saveFirst_41 : decode cX6_saveFirst 41 = .ok (.getfield 153, 3) := by decide +kernel
theorem dX6_saveFirst_44 : decode cX6_saveFirst 44 = .ok (.if_icmp .ge 23, 3) := by decide +kernel
theorem dX6_saveFirst_47 : decode cX6_saveFirst 47 = .ok (.aload_n 0, 1) := by decide +kernel
theorem dX6_saveFirst_48 : decode cX6_saveFirst 48 = .ok (.bipush 42, 2) := by decide +kernel
theorem dX6_saveFirst_50 : decode cX6_saveFirst 50 = .ok (.iload_n 1, 1) := by decide +kernel
theorem dX6_saveFirst_51 : decode cX6_saveFirst 51 = .ok (.invokevirtual 186, 3) := by decide +kernel
theorem dX6_saveFirst_54 : decode cX6_saveFirst 54 = .ok (.ifCond .eq 13, 3) := by decide +kernel
theorem dX6_saveFirst_57 : decode cX6_saveFirst 57 = .ok (.aload_n 0, 1) := by decide +kernel
theorem dX6_saveFirst_58 : decode cX6_saveFirst 58 = .ok (.getfield 7, 3) := by decide +kernel
theorem dX6_saveFirst_61 : decode cX6_saveFirst 61 = .ok (.bipush 50, 2) := by decide +kernel
theorem dX6_saveFirst_63 : decode cX6_saveFirst 63 = .ok (.iload_n 2, 1) := by decide +kernel
theorem dX6_saveFirst_64 : decode cX6_saveFirst 64 = .ok (.iadd, 1) := by decide +kernel
theorem dX6_saveFirst_65 : decode cX6_saveFirst 65 = .ok (.iconst (-1), 1) := by decide +kernel
theorem dX6_saveFirst_66 : decode cX6_saveFirst 66 = .ok (.iastore, 1) := by decide +kernel
theorem dX6_saveFirst_67 : decode cX6_saveFirst 67 = .ok (.iinc 1 1, 3) := by decide +kernel
theorem dX6_saveFirst_70 : decode cX6_saveFirst 70 = .ok (.goto (-68), 3) := by decide +kernel
theorem dX6_saveFirst_73 : decode cX6_saveFirst 73 = .ok (.return_, 1) := by decide +kernel
theorem dX6_areOut_0 : decode cX6_areOut 0 = .ok (.iconst 1, 1) := by decide +kernel
theorem dX6_areOut_1 : decode cX6_areOut 1 = .ok (.istore_n 1, 1) := by decide +kernel
theorem dX6_areOut_2 : decode cX6_areOut 2 = .ok (.iconst 0, 1) := by decide +kernel
theorem dX6_areOut_3 : decode cX6_areOut 3 = .ok (.istore_n 2, 1) := by decide +kernel
theorem dX6_areOut_4 : decode cX6_areOut 4 = .ok (.iload_n 2, 1) := by decide +kernel
theorem dX6_areOut_5 : decode cX6_areOut 5 = .ok (.aload_n 0, 1) := by decide +kernel
theorem dX6_areOut_6 : decode cX6_areOut 6 = .ok (.getfield 153, 3) := by decide +kernel
theorem dX6_areOut_9 : decode cX6_areOut 9 = .ok (.if_icmp .ge 32, 3) := by decide +kernel
theorem dX6_areOut_12 : decode cX6_areOut 12 = .ok (.iload_n 1, 1) := by decide +kernel
theorem dX6_areOut_13 : decode cX6_areOut 13 = .ok (.ifCond .eq 20, 3) := by decide +kernel
theorem dX6_areOut_16 : decode cX6_areOut 16 = .ok (.aload_n 0, 1) := by decide +kernel
theorem dX6_areOut_17 : decode cX6_areOut 17 = .ok (.getfield 7, 3) := by decide +kernel
theorem dX6_areOut_20 : decode cX6_areOut 20 = .ok (.bipush 50, 2) := by decide +kernel
theorem dX6_areOut_22 : decode cX6_areOut 22 = .ok (.iload_n 2, 1) := by decide +kernel
theorem dX6_areOut_23 : decode cX6_areOut 23 = .ok (.iadd, 1) := by decide +kernel
theorem dX6_areOut_24 : decode cX6_areOut 24 = .ok (.iaload, 1) := by decide +kernel
theorem dX6_areOut_25 : decode cX6_areOut 25 = .ok (.iconst (-1), 1) := by decide +kernel
theorem dX6_areOut_26 : decode cX6_areOut 26 = .ok (.if_icmp .ne 7, 3) := by decide +kernel
theorem dX6_areOut_29 : decode cX6_areOut 29 = .ok (.iconst 1, 1) := by decide +kernel
theorem dX6_areOut_30 : decode cX6_areOut 30 = .ok (.goto 4, 3) := by decide +kernel
theorem dX6_areOut_33 : decode cX6_areOut 33 = .ok (.iconst 0, 1) := by decide +kernel
theorem dX6_areOut_34 : decode cX6_areOut 34 = .ok (.istore_n 1, 1) := by decide +kernel
theorem dX6_areOut_35 : decode cX6_areOut 35 = .ok (.iinc 2 1, 3) := by decide +kernel
theorem dX6_areOut_38 : decode cX6_areOut 38 = .ok (.goto (-34), 3) := by decide +kernel
theorem dX6_areOut_41 : decode cX6_areOut 41 = .ok (.iload_n 1, 1) := by decide +kernel
theorem dX6_areOut_42 : decode cX6_areOut 42 = .ok (.ireturn, 1) := by decide +kernel
theorem dX6_fire_0 : decode cX6_fire 0 = .ok (.aload_n 0, 1) := by decide +kernel
theorem dX6_fire_1 : decode cX6_fire 1 = .ok (.iload_n 1, 1) := by decide +kernel
theorem dX6_fire_2 : decode cX6_fire 2 = .ok (.invokevirtual 183, 3) := by decide +kernel
theorem dX6_fire_5 : decode cX6_fire 5 = .ok (.ifCond .ne 6, 3) := by decide +kernel
theorem dX6_fire_8 : decode cX6_fire 8 = .ok (.bipush (-2), 2) := by decide +kernel
theorem dX6_fire_10 : decode cX6_fire 10 = .ok (.ireturn, 1) := by decide +kernel
theorem dX6_fire_11 : decode cX6_fire 11 = .ok (.iload_n 2, 1) := by decide +kernel
theorem dX6_fire_12 : decode cX6_fire 12 = .ok (.invokestatic 210, 3) := by decide +kernel
theorem dX6_fire_15 : decode cX6_fire 15 = .ok (.ifCond .ne 6, 3) := by decide +kernel
theorem dX6_fire_18 : decode cX6_fire 18 = .ok (.bipush (-3), 2) := by decide +kernel
theorem dX6_fire_20 : decode cX6_fire 20 = .ok (.ireturn, 1) := by decide +kernel
theorem dX6_fire_21 : decode cX6_fire 21 = .ok (.aload_n 0, 1) := by decide +kernel
theorem dX6_fire_22 : decode cX6_fire 22 = .ok (.iconst 0, 1) := by decide +kernel
theorem dX6_fire_23 : decode cX6_fire 23 = .ok (.bipush 42, 2) := by decide +kernel
theorem dX6_fire_25 : decode cX6_fire 25 = .ok (.invokevirtual 170, 3) := by decide +kernel
theorem dX6_fire_28 : decode cX6_fire 28 = .ok (.iconst 0, 1) := by decide +kernel
theorem dX6_fire_29 : decode cX6_fire 29 = .ok (.istore_n 3, 1) := by decide +kernel
theorem dX6_fire_30 : decode cX6_fire 30 = .ok (.iload_n 3, 1) := by decide +kernel
theorem dX6_fire_31 : decode cX6_fire 31 = .ok (.sipush 200, 3) := by decide +kernel
theorem dX6_fire_34 : decode cX6_fire 34 = .ok (.if_icmp .ge 29, 3) := by decide +kernel
theorem dX6_fire_37 : decode cX6_fire 37 = .ok (.aload_n 0, 1) := by decide +kernel
theorem dX6_fire_38 : decode cX6_fire 38 = .ok (.invokevirtual 252, 3) := by decide +kernel
theorem dX6_fire_41 : decode cX6_fire 41 = .ok (.ifCond .ne 22, 3) := by decide +kernel
theorem dX6_fire_44 : decode cX6_fire 44 = .ok (.aload_n 0, 1) := by decide +kernel
theorem dX6_fire_45 : decode cX6_fire 45 = .ok (.invokevirtual 255, 3) := by decide +kernel
theorem dX6_fire_48 : decode cX6_fire 48 = .ok (.aload_n 0, 1) := by decide +kernel
theorem dX6_fire_49 : decode cX6_fire 49 = .ok (.bipush 42, 2) := by decide +kernel
theorem dX6_fire_51 : decode cX6_fire 51 = .ok (.iload_n 1, 1) := by decide +kernel
theorem dX6_fire_52 : decode cX6_fire 52 = .ok (.iload_n 2, 1) := by decide +kernel
theorem dX6_fire_53 : decode cX6_fire 53 = .ok (.invokevirtual 207, 3) := by decide +kernel
theorem dX6_fire_56 : decode cX6_fire 56 = .ok (.pop, 1) := by decide +kernel
theorem dX6_fire_57 : decode cX6_fire 57 = .ok (.iinc 3 1, 3) := by decide +kernel
theorem dX6_fire_60 : decode cX6_fire 60 = .ok (.goto (-30), 3) := by decide +kernel
theorem dX6_fire_63 : decode cX6_fire 63 = .ok (.aload_n 0, 1) := by decide +kernel
theorem dX6_fire_64 : decode cX6_fire 64 = .ok (.invokevirtual 252, 3) := by decide +kernel
theorem dX6_fire_67 : decode cX6_fire 67 = .ok (.ifCond .eq 7, 3) := by decide +kernel
theorem dX6_fire_70 : decode cX6_fire 70 = .ok (.iload_n 3, 1) := by decide +kernel
theorem dX6_fire_71 : decode cX6_fire 71 = .ok (.goto 4, 3) := by decide +kernel
theorem dX6_fire_74 : decode cX6_fire 74 = .ok (.iconst (-1), 1) := by decide +kernel
theorem dX6_fire_75 : decode cX6_fire 75 = .ok (.ireturn, 1) := by decide +kernel
theorem dX6_seen_0 : decode cX6_seen 0 = .ok (.aload_n 0, 1) := by decide +kernel
theorem dX6_seen_1 : decode cX6_seen 1 = .ok (.iload_n 1, 1) := by decide +kernel
theorem dX6_seen_2 : decode cX6_seen 2 = .ok (.invokevirtual 183, 3) := by decide +kernel
theorem dX6_seen_5 : decode cX6_seen 5 = .ok (.ifCond .ne 6, 3) := by decide +kernel
theorem dX6_seen_8 : decode cX6_seen 8 = .ok (.bipush (-2), 2) := by decide +kernel
theorem dX6_seen_10 : decode cX6_seen 10 = .ok (.ireturn, 1) := by decide +kernel
theorem dX6_seen_11 : decode cX6_seen 11 = .ok (.iload_n 2, 1) := by decide +kernel
theorem dX6_seen_12 : decode cX6_seen 12 = .ok (.i2l, 1) := by decide +kernel
theorem dX6_seen_13 : decode cX6_seen 13 = .ok (.lconst 0, 1) := by decide +kernel
theorem dX6_seen_14 : decode cX6_seen 14 = .ok (.ldc2_w 114, 3) := by decide +kernel
theorem dX6_seen_17 : decode cX6_seen 17 = .ok (.invokestatic 60, 3) := by decide +kernel
theorem dX6_seen_20 : decode cX6_seen 20 = .ok (.ifCond .ne 6, 3) := by decide +kernel
theorem dX6_seen_23 : decode cX6_seen 23 = .ok (.bipush (-3), 2) := by decide +kernel
theorem dX6_seen_25 : decode cX6_seen 25 = .ok (.ireturn, 1) := by decide +kernel
theorem dX6_seen_26 : decode cX6_seen 26 = .ok (.aload_n 0, 1) := by decide +kernel
theorem dX6_seen_27 : decode cX6_seen 27 = .ok (.getfield 174, 3) := by decide +kernel
theorem dX6_seen_30 : decode cX6_seen 30 = .ok (.bipush 8, 2) := by decide +kernel
theorem dX6_seen_32 : decode cX6_seen 32 = .ok (.if_icmp .ne 6, 3) := by decide +kernel
theorem dX6_seen_35 : decode cX6_seen 35 = .ok (.bipush (-5), 2) := by decide +kernel
theorem dX6_seen_37 : decode cX6_seen 37 = .ok (.ireturn, 1) := by decide +kernel
theorem dX6_seen_38 : decode cX6_seen 38 = .ok (.aload_n 0, 1) := by decide +kernel
theorem dX6_seen_39 : decode cX6_seen 39 = .ok (.getfield 51, 3) := by decide +kernel
theorem dX6_seen_42 : decode cX6_seen 42 = .ok (.iconst 2, 1) := by decide +kernel
theorem dX6_seen_43 : decode cX6_seen 43 = .ok (.aload_n 0, 1) := by decide +kernel
theorem dX6_seen_44 : decode cX6_seen 44 = .ok (.getfield 174, 3) := by decide +kernel
theorem dX6_seen_47 : decode cX6_seen 47 = .ok (.imul, 1) := by decide +kernel
theorem dX6_seen_48 : decode cX6_seen 48 = .ok (.iload_n 1, 1) := by decide +kernel
theorem dX6_seen_49 : decode cX6_seen 49 = .ok (.iastore, 1) := by decide +kernel
theorem dX6_seen_50 : decode cX6_seen 50 = .ok (.aload_n 0, 1) := by decide +kernel
theorem dX6_seen_51 : decode cX6_seen 51 = .ok (.getfield 51, 3) := by decide +kernel
theorem dX6_seen_54 : decode cX6_seen 54 = .ok (.iconst 2, 1) := by decide +kernel
theorem dX6_seen_55 : decode cX6_seen 55 = .ok (.aload_n 0, 1) := by decide +kernel
theorem dX6_seen_56 : decode cX6_seen 56 = .ok (.getfield 174, 3) := by decide +kernel
theorem dX6_seen_59 : decode cX6_seen 59 = .ok (.imul, 1) := by decide +kernel
theorem dX6_seen_60 : decode cX6_seen 60 = .ok (.iconst 1, 1) := by decide +kernel
theorem dX6_seen_61 : decode cX6_seen 61 = .ok (.iadd, 1) := by decide +kernel
theorem dX6_seen_62 : decode cX6_seen 62 = .ok (.iload_n 2, 1) := by decide +kernel
theorem dX6_seen_63 : decode cX6_seen 63 = .ok (.iastore, 1) := by decide +kernel
theorem dX6_seen_64 : decode cX6_seen 64 = .ok (.aload_n 0, 1) := by decide +kernel
theorem dX6_seen_65 : decode cX6_seen 65 = .ok (.dup, 1) := by decide +kernel
theorem dX6_seen_66 : decode cX6_seen 66 = .ok (.getfield 174, 3) := by decide +kernel
theorem dX6_seen_69 : decode cX6_seen 69 = .ok (.iconst 1, 1) := by decide +kernel
theorem dX6_seen_70 : decode cX6_seen 70 = .ok (.iadd, 1) := by decide +kernel
theorem dX6_seen_71 : decode cX6_seen 71 = .ok (.putfield 174, 3) := by decide +kernel
theorem dX6_seen_74 : decode cX6_seen 74 = .ok (.aload_n 0, 1) := by decide +kernel
theorem dX6_seen_75 : decode cX6_seen 75 = .ok (.getfield 174, 3) := by decide +kernel
theorem dX6_seen_78 : decode cX6_seen 78 = .ok (.ireturn, 1) := by decide +kernel
theorem dX6_forget_0 : decode cX6_forget 0 = .ok (.aload_n 0, 1) := by decide +kernel
theorem dX6_forget_1 : decode cX6_forget 1 = .ok (.getfield 174, 3) := by decide +kernel
theorem dX6_forget_4 : decode cX6_forget 4 = .ok (.istore_n 1, 1) := by decide +kernel
theorem dX6_forget_5 : decode cX6_forget 5 = .ok (.aload_n 0, 1) := by decide +kernel
theorem dX6_forget_6 : decode cX6_forget 6 = .ok (.iconst 0, 1) := by decide +kernel
theorem dX6_forget_7 : decode cX6_forget 7 = .ok (.putfield 174, 3) := by decide +kernel
theorem dX6_forget_10 : decode cX6_forget 10 = .ok (.iload_n 1, 1) := by decide +kernel
theorem dX6_forget_11 : decode cX6_forget 11 = .ok (.ireturn, 1) := by decide +kernel
theorem dX6_least_0 : decode cX6_least 0 = .ok (.aload_n 0, 1) := by decide +kernel
theorem dX6_least_1 : decode cX6_least 1 = .ok (.iload_n 1, 1) := by decide +kernel
theorem dX6_least_2 : decode cX6_least 2 = .ok (.invokevirtual 183, 3) := by decide +kernel
theorem dX6_least_5 : decode cX6_least 5 = .ok (.ifCond .ne 6, 3) := by decide +kernel
theorem dX6_least_8 : decode cX6_least 8 = .ok (.bipush (-2), 2) := by decide +kernel
theorem dX6_least_10 : decode cX6_least 10 = .ok (.ireturn, 1) := by decide +kernel
theorem dX6_least_11 : decode cX6_least 11 = .ok (.aload_n 0, 1) := by decide +kernel
theorem dX6_least_12 : decode cX6_least 12 = .ok (.getfield 7, 3) := by decide +kernel
theorem dX6_least_15 : decode cX6_least 15 = .ok (.bipush 56, 2) := by decide +kernel
theorem dX6_least_17 : decode cX6_least 17 = .ok (.iload_n 1, 1) := by decide +kernel
theorem dX6_least_18 : decode cX6_least 18 = .ok (.iadd, 1) := by decide +kernel
theorem dX6_least_19 : decode cX6_least 19 = .ok (.iaload, 1) := by decide +kernel
theorem dX6_least_20 : decode cX6_least 20 = .ok (.istore_n 2, 1) := by decide +kernel
theorem dX6_least_21 : decode cX6_least 21 = .ok (.iconst 0, 1) := by decide +kernel
theorem dX6_least_22 : decode cX6_least 22 = .ok (.istore_n 3, 1) := by decide +kernel
theorem dX6_least_23 : decode cX6_least 23 = .ok (.iconst 0, 1) := by decide +kernel
theorem dX6_least_24 : decode cX6_least 24 = .ok (.istore 4, 2) := by decide +kernel
theorem dX6_least_26 : decode cX6_least 26 = .ok (.iload 4, 2) := by decide +kernel
theorem dX6_least_28 : decode cX6_least 28 = .ok (.aload_n 0, 1) := by decide +kernel
theorem dX6_least_29 : decode cX6_least 29 = .ok (.getfield 174, 3) := by decide +kernel
theorem dX6_least_32 : decode cX6_least 32 = .ok (.if_icmp .ge 52, 3) := by decide +kernel
theorem dX6_least_35 : decode cX6_least 35 = .ok (.aload_n 0, 1) := by decide +kernel
theorem dX6_least_36 : decode cX6_least 36 = .ok (.getfield 51, 3) := by decide +kernel
theorem dX6_least_39 : decode cX6_least 39 = .ok (.iconst 2, 1) := by decide +kernel
theorem dX6_least_40 : decode cX6_least 40 = .ok (.iload 4, 2) := by decide +kernel
theorem dX6_least_42 : decode cX6_least 42 = .ok (.imul, 1) := by decide +kernel
theorem dX6_least_43 : decode cX6_least 43 = .ok (.iaload, 1) := by decide +kernel
theorem dX6_least_44 : decode cX6_least 44 = .ok (.iload_n 1, 1) := by decide +kernel
theorem dX6_least_45 : decode cX6_least 45 = .ok (.if_icmp .ne 33, 3) := by decide +kernel
theorem dX6_least_48 : decode cX6_least 48 = .ok (.iload_n 3, 1) := by decide +kernel
theorem dX6_least_49 : decode cX6_least 49 = .ok (.iload_n 2, 1) := by decide +kernel
theorem dX6_least_50 : decode cX6_least 50 = .ok (.aload_n 0, 1) := by decide +kernel
theorem dX6_least_51 : decode cX6_least 51 = .ok (.getfield 51, 3) := by decide +kernel
theorem dX6_least_54 : decode cX6_least 54 = .ok (.iconst 2, 1) := by decide +kernel
theorem dX6_least_55 : decode cX6_least 55 = .ok (.iload 4, 2) := by decide +kernel
theorem dX6_least_57 : decode cX6_least 57 = .ok (.imul, 1) := by decide +kernel
theorem dX6_least_58 : decode cX6_least 58 = .ok (.iconst 1, 1) := by decide +kernel
theorem dX6_least_59 : decode cX6_least 59 = .ok (.iadd, 1) := by decide +kernel
theorem dX6_least_60 : decode cX6_least 60 = .ok (.iaload, 1) := by decide +kernel
theorem dX6_least_61 : decode cX6_least 61 = .ok (.invokestatic 258, 3) := by decide +kernel
theorem dX6_least_64 : decode cX6_least 64 = .ok (.iadd, 1) := by decide +kernel
theorem dX6_least_65 : decode cX6_least 65 = .ok (.istore_n 3, 1) := by decide +kernel
theorem dX6_least_66 : decode cX6_least 66 = .ok (.aload_n 0, 1) := by decide +kernel
theorem dX6_least_67 : decode cX6_least 67 = .ok (.getfield 51, 3) := by decide +kernel
theorem dX6_least_70 : decode cX6_least 70 = .ok (.iconst 2, 1) := by decide +kernel
theorem dX6_least_71 : decode cX6_least 71 = .ok (.iload 4, 2) := by decide +kernel
theorem dX6_least_73 : decode cX6_least 73 = .ok (.imul, 1) := by decide +kernel
theorem dX6_least_74 : decode cX6_least 74 = .ok (.iconst 1, 1) := by decide +kernel
theorem dX6_least_75 : decode cX6_least 75 = .ok (.iadd, 1) := by decide +kernel
theorem dX6_least_76 : decode cX6_least 76 = .ok (.iaload, 1) := by decide +kernel
theorem dX6_least_77 : decode cX6_least 77 = .ok (.istore_n 2, 1) := by decide +kernel
theorem dX6_least_78 : decode cX6_least 78 = .ok (.iinc 4 1, 3) := by decide +kernel
theorem dX6_least_81 : decode cX6_least 81 = .ok (.goto (-55), 3) := by decide +kernel
theorem dX6_least_84 : decode cX6_least 84 = .ok (.iload_n 3, 1) := by decide +kernel
theorem dX6_least_85 : decode cX6_least 85 = .ok (.iload_n 2, 1) := by decide +kernel
theorem dX6_least_86 : decode cX6_least 86 = .ok (.aload_n 0, 1) := by decide +kernel
theorem dX6_least_87 : decode cX6_least 87 = .ok (.getfield 7, 3) := by decide +kernel
theorem dX6_least_90 : decode cX6_least 90 = .ok (.iload_n 1, 1) := by decide +kernel
theorem dX6_least_91 : decode cX6_least 91 = .ok (.iaload, 1) := by decide +kernel
theorem dX6_least_92 : decode cX6_least 92 = .ok (.invokestatic 258, 3) := by decide +kernel
theorem dX6_least_95 : decode cX6_least 95 = .ok (.iadd, 1) := by decide +kernel
theorem dX6_least_96 : decode cX6_least 96 = .ok (.ireturn, 1) := by decide +kernel
theorem dX6_count_0 : decode cX6_count 0 = .ok (.iconst 0, 1) := by decide +kernel
theorem dX6_count_1 : decode cX6_count 1 = .ok (.istore_n 2, 1) := by decide +kernel
theorem dX6_count_2 : decode cX6_count 2 = .ok (.iconst 0, 1) := by decide +kernel
theorem dX6_count_3 : decode cX6_count 3 = .ok (.istore_n 3, 1) := by decide +kernel
theorem dX6_count_4 : decode cX6_count 4 = .ok (.iconst 0, 1) := by decide +kernel
theorem dX6_count_5 : decode cX6_count 5 = .ok (.istore 4, 2) := by decide +kernel
theorem dX6_count_7 : decode cX6_count 7 = .ok (.iload 4, 2) := by decide +kernel
theorem dX6_count_9 : decode cX6_count 9 = .ok (.aload_n 0, 1) := by decide +kernel
theorem dX6_count_10 : decode cX6_count 10 = .ok (.getfield 23, 3) := by decide +kernel
theorem dX6_count_13 : decode cX6_count 13 = .ok (.if_icmp .ge 30, 3) := by decide +kernel
theorem dX6_count_16 : decode cX6_count 16 = .ok (.iload_n 2, 1) := by decide +kernel
theorem dX6_count_17 : decode cX6_count 17 = .ok (.aload_n 0, 1) := by decide +kernel
theorem dX6_count_18 : decode cX6_count 18 = .ok (.iconst 0, 1) := by decide +kernel
theorem dX6_count_19 : decode cX6_count 19 = .ok (.iload 4, 2) := by decide +kernel
theorem dX6_count_21 : decode cX6_count 21 = .ok (.invokevirtual 186, 3) := by decide +kernel
theorem dX6_count_24 : decode cX6_count 24 = .ok (.ifCond .eq 10, 3) := by decide +kernel
theorem dX6_count_27 : decode cX6_count 27 = .ok (.iconst 1, 1) := by decide +kernel
theorem dX6_count_28 : decode cX6_count 28 = .ok (.iload 4, 2) := by decide +kernel
theorem dX6_count_30 : decode cX6_count 30 = .ok (.ishl, 1) := by decide +kernel
theorem dX6_count_31 : decode cX6_count 31 = .ok (.goto 4, 3) := by decide +kernel
theorem dX6_count_34 : decode cX6_count 34 = .ok (.iconst 0, 1) := by decide +kernel
theorem dX6_count_35 : decode cX6_count 35 = .ok (.ior, 1) := by decide +kernel
theorem dX6_count_36 : decode cX6_count 36 = .ok (.istore_n 2, 1) := by decide +kernel
theorem dX6_count_37 : decode cX6_count 37 = .ok (.iinc 4 1, 3) := by decide +kernel
theorem dX6_count_40 : decode cX6_count 40 = .ok (.goto (-33), 3) := by decide +kernel
theorem dX6_count_43 : decode cX6_count 43 = .ok (.iconst 0, 1) := by decide +kernel
theorem dX6_count_44 : decode cX6_count 44 = .ok (.istore 4, 2) := by decide +kernel
theorem dX6_count_46 : decode cX6_count 46 = .ok (.iload 4, 2) := by decide +kernel
theorem dX6_count_48 : decode cX6_count 48 = .ok (.aload_n 0, 1) := by decide +kernel
theorem dX6_count_49 : decode cX6_count 49 = .ok (.getfield 153, 3) := by decide +kernel
theorem dX6_count_52 : decode cX6_count 52 = .ok (.if_icmp .ge 34, 3) := by decide +kernel
theorem dX6_count_55 : decode cX6_count 55 = .ok (.iload_n 3, 1) := by decide +kernel
theorem dX6_count_56 : decode cX6_count 56 = .ok (.aload_n 0, 1) := by decide +kernel
theorem dX6_count_57 : decode cX6_count 57 = .ok (.getfield 7, 3) := by decide +kernel
theorem dX6_count_60 : decode cX6_count 60 = .ok (.bipush 8, 2) := by decide +kernel
theorem dX6_count_62 : decode cX6_count 62 = .ok (.iload 4, 2) := by decide +kernel
theorem dX6_count_64 : decode cX6_count 64 = .ok (.iadd, 1) := by decide +kernel
theorem dX6_count_65 : decode cX6_count 65 = .ok (.iaload, 1) := by decide +kernel
theorem dX6_count_66 : decode cX6_count 66 = .ok (.iconst (-1), 1) := by decide +kernel
theorem dX6_count_67 : decode cX6_count 67 = .ok (.if_icmp .ne 10, 3) := by decide +kernel
theorem dX6_count_70 : decode cX6_count 70 = .ok (.iconst 1, 1) := by decide +kernel
theorem dX6_count_71 : decode cX6_count 71 = .ok (.iload 4, 2) := by decide +kernel
theorem dX6_count_73 : decode cX6_count 73 = .ok (.ishl, 1) := by decide +kernel
theorem dX6_count_74 : decode cX6_count 74 = .ok (.goto 4, 3) := by decide +kernel
theorem dX6_count_77 : decode cX6_count 77 = .ok (.iconst 0, 1) := by decide +kernel
theorem dX6_count_78 : decode cX6_count 78 = .ok (.ior, 1) := by decide +kernel
theorem dX6_count_79 : decode cX6_count 79 = .ok (.istore_n 3, 1) := by decide +kernel
theorem dX6_count_80 : decode cX6_count 80 = .ok (.iinc 4 1, 3) := by decide +kernel
theorem dX6_count_83 : decode cX6_count 83 = .ok (.goto (-37), 3) := by decide +kernel
theorem dX6_count_86 : decode cX6_count 86 = .ok (.iload_n 1, 1) := by decide +kernel
theorem dX6_count_87 : decode cX6_count 87 = .ok (.tableswitch 82 0 7 #[45, 50, 55, 60, 68, 70, 72, 77], 45) := by decide +kernel
theorem dX6_count_132 : decode cX6_count 132 = .ok (.aload_n 0, 1) := by decide +kernel
theorem dX6_count_133 : decode cX6_count 133 = .ok (.getfield 23, 3) := by decide +kernel
theorem dX6_count_136 : decode cX6_count 136 = .ok (.ireturn, 1) := by decide +kernel
theorem dX6_count_137 : decode cX6_count 137 = .ok (.aload_n 0, 1) := by decide +kernel
theorem dX6_count_138 : decode cX6_count 138 = .ok (.getfield 150, 3) := by decide +kernel
theorem dX6_count_141 : decode cX6_count 141 = .ok (.ireturn, 1) := by decide +kernel
theorem dX6_count_142 : decode cX6_count 142 = .ok (.aload_n 0, 1) := by decide +kernel
theorem dX6_count_143 : decode cX6_count 143 = .ok (.getfield 153, 3) := by decide +kernel
theorem dX6_count_146 : decode cX6_count 146 = .ok (.ireturn, 1) := by decide +kernel
theorem dX6_count_147 : decode cX6_count 147 = .ok (.aload_n 0, 1) := by decide +kernel
theorem dX6_count_148 : decode cX6_count 148 = .ok (.getfield 7, 3) := by decide +kernel
theorem dX6_count_151 : decode cX6_count 151 = .ok (.bipush 13, 2) := by decide +kernel
theorem dX6_count_153 : decode cX6_count 153 = .ok (.iaload, 1) := by decide +kernel
theorem dX6_count_154 : decode cX6_count 154 = .ok (.ireturn, 1) := by decide +kernel
theorem dX6_count_155 : decode cX6_count 155 = .ok (.iload_n 2, 1) := by decide +kernel
theorem dX6_count_156 : decode cX6_count 156 = .ok (.ireturn, 1) := by decide +kernel
theorem dX6_count_157 : decode cX6_count 157 = .ok (.iload_n 3, 1) := by decide +kernel
theorem dX6_count_158 : decode cX6_count 158 = .ok (.ireturn, 1) := by decide +kernel
theorem dX6_count_159 : decode cX6_count 159 = .ok (.aload_n 0, 1) := by decide +kernel
theorem dX6_count_160 : decode cX6_count 160 = .ok (.getfield 174, 3) := by decide +kernel
theorem dX6_count_163 : decode cX6_count 163 = .ok (.ireturn, 1) := by decide +kernel
theorem dX6_count_164 : decode cX6_count 164 = .ok (.aload_n 0, 1) := by decide +kernel
theorem dX6_count_165 : decode cX6_count 165 = .ok (.getfield 64, 3) := by decide +kernel
theorem dX6_count_168 : decode cX6_count 168 = .ok (.ireturn, 1) := by decide +kernel
theorem dX6_count_169 : decode cX6_count 169 = .ok (.bipush (-3), 2) := by decide +kernel
theorem dX6_count_171 : decode cX6_count 171 = .ok (.ireturn, 1) := by decide +kernel
