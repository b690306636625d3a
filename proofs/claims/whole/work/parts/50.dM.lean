theorem dX4_init_0 : decode cX4_init 0 = .ok (.aload_n 0, 1) := by decide +kernel
theorem dX4_init_1 : decode cX4_init 1 = .ok (.invokespecial 1, 3) := by decide +kernel
theorem dX4_init_4 : decode cX4_init 4 = .ok (.aload_n 0, 1) := by decide +kernel
theorem dX4_init_5 : decode cX4_init 5 = .ok (.sipush 4096, 3) := by decide +kernel
theorem dX4_init_8 : decode cX4_init 8 = .ok (.newarray .byte, 2) := by decide +kernel
theorem dX4_init_10 : decode cX4_init 10 = .ok (.putfield 7, 3) := by decide +kernel
theorem dX4_init_13 : decode cX4_init 13 = .ok (.aload_n 0, 1) := by decide +kernel
theorem dX4_init_14 : decode cX4_init 14 = .ok (.sipush 4096, 3) := by decide +kernel
theorem dX4_init_17 : decode cX4_init 17 = .ok (.newarray .byte, 2) := by decide +kernel
theorem dX4_init_19 : decode cX4_init 19 = .ok (.putfield 13, 3) := by decide +kernel
theorem dX4_init_22 : decode cX4_init 22 = .ok (.aload_n 0, 1) := by decide +kernel
theorem dX4_init_23 : decode cX4_init 23 = .ok (.sipush 16400, 3) := by decide +kernel
theorem dX4_init_26 : decode cX4_init 26 = .ok (.newarray .int, 2) := by decide +kernel
theorem dX4_init_28 : decode cX4_init 28 = .ok (.putfield 16, 3) := by decide +kernel
theorem dX4_init_31 : decode cX4_init 31 = .ok (.aload_n 0, 1) := by decide +kernel
theorem dX4_init_32 : decode cX4_init 32 = .ok (.sipush 16400, 3) := by decide +kernel
theorem dX4_init_35 : decode cX4_init 35 = .ok (.newarray .int, 2) := by decide +kernel
theorem dX4_init_37 : decode cX4_init 37 = .ok (.putfield 20, 3) := by decide +kernel
theorem dX4_init_40 : decode cX4_init 40 = .ok (.return_, 1) := by decide +kernel
theorem dX4_thrown_0 : decode cX4_thrown 0 = .ok (.aload_n 0, 1) := by decide +kernel
theorem dX4_thrown_1 : decode cX4_thrown 1 = .ok (.getfield 23, 3) := by decide +kernel
theorem dX4_thrown_4 : decode cX4_thrown 4 = .ok (.ireturn, 1) := by decide +kernel
theorem dX4_feed_0 : decode cX4_feed 0 = .ok (.aload_n 0, 1) := by decide +kernel
theorem dX4_feed_1 : decode cX4_feed 1 = .ok (.iconst 0, 1) := by decide +kernel
theorem dX4_feed_2 : decode cX4_feed 2 = .ok (.putfield 23, 3) := by decide +kernel
theorem dX4_feed_5 : decode cX4_feed 5 = .ok (.aload_n 0, 1) := by decide +kernel
theorem dX4_feed_6 : decode cX4_feed 6 = .ok (.getfield 27, 3) := by decide +kernel
theorem dX4_feed_9 : decode cX4_feed 9 = .ok (.bipush 20, 2) := by decide +kernel
theorem dX4_feed_11 : decode cX4_feed 11 = .ok (.iadd, 1) := by decide +kernel
theorem dX4_feed_12 : decode cX4_feed 12 = .ok (.sipush 4096, 3) := by decide +kernel
theorem dX4_feed_15 : decode cX4_feed 15 = .ok (.if_icmp .le 9, 3) := by decide +kernel
theorem dX4_feed_18 : decode cX4_feed 18 = .ok (.aload_n 0, 1) := by decide +kernel
theorem dX4_feed_19 : decode cX4_feed 19 = .ok (.iconst 1, 1) := by decide +kernel
theorem dX4_feed_20 : decode cX4_feed 20 = .ok (.invokevirtual 30, 3) := by decide +kernel
theorem dX4_feed_23 : decode cX4_feed 23 = .ok (.ireturn, 1) := by decide +kernel
theorem dX4_feed_24 : decode cX4_feed 24 = .ok (.iconst 0, 1) := by decide +kernel
theorem dX4_feed_25 : decode cX4_feed 25 = .ok (.istore 6, 2) := by decide +kernel
theorem dX4_feed_27 : decode cX4_feed 27 = .ok (.iload 6, 2) := by decide +kernel
theorem dX4_feed_29 : decode cX4_feed 29 = .ok (.bipush 20, 2) := by decide +kernel
theorem dX4_feed_31 : decode cX4_feed 31 = .ok (.if_icmp .ge 90, 3) := by decide +kernel
theorem dX4_feed_34 : decode cX4_feed 34 = .ok (.iload 6, 2) := by decide +kernel
theorem dX4_feed_36 : decode cX4_feed 36 = .ok (.iconst 4, 1) := by decide +kernel
theorem dX4_feed_37 : decode cX4_feed 37 = .ok (.if_icmp .ge 7, 3) := by decide +kernel
theorem dX4_feed_40 : decode cX4_feed 40 = .ok (.iload_n 1, 1) := by decide +kernel
theorem dX4_feed_41 : decode cX4_feed 41 = .ok (.goto 39, 3) := by decide +kernel
theorem dX4_feed_44 : decode cX4_feed 44 = .ok (.iload 6, 2) := by decide +kernel
theorem dX4_feed_46 : decode cX4_feed 46 = .ok (.bipush 8, 2) := by decide +kernel
theorem dX4_feed_48 : decode cX4_feed 48 = .ok (.if_icmp .ge 7, 3) := by decide +kernel
theorem dX4_feed_51 : decode cX4_feed 51 = .ok (.iload_n 2, 1) := by decide +kernel
theorem dX4_feed_52 : decode cX4_feed 52 = .ok (.goto 28, 3) := by decide +kernel
theorem dX4_feed_55 : decode cX4_feed 55 = .ok (.iload 6, 2) := by decide +kernel
theorem dX4_feed_57 : decode cX4_feed 57 = .ok (.bipush 12, 2) := by decide +kernel
theorem dX4_feed_59 : decode cX4_feed 59 = .ok (.if_icmp .ge 7, 3) := by decide +kernel
theorem dX4_feed_62 : decode cX4_feed 62 = .ok (.iload_n 3, 1) := by decide +kernel
theorem dX4_feed_63 : decode cX4_feed 63 = .ok (.goto 17, 3) := by decide +kernel
theorem dX4_feed_66 : decode cX4_feed 66 = .ok (.iload 6, 2) := by decide +kernel
theorem dX4_feed_68 : decode cX4_feed 68 = .ok (.bipush 16, 2) := by decide +kernel
theorem dX4_feed_70 : decode cX4_feed 70 = .ok (.if_icmp .ge 8, 3) := by decide +kernel
theorem dX4_feed_73 : decode cX4_feed 73 = .ok (.iload 4, 2) := by decide +kernel
theorem dX4_feed_75 : decode cX4_feed 75 = .ok (.goto 5, 3) := by decide +kernel
theorem dX4_feed_78 : decode cX4_feed 78 = .ok (.iload 5, 2) := by decide +kernel
theorem dX4_feed_80 : decode cX4_feed 80 = .ok (.istore 7, 2) := by decide +kernel
theorem dX4_feed_82 : decode cX4_feed 82 = .ok (.aload_n 0, 1) := by decide +kernel
theorem dX4_feed_83 : decode cX4_feed 83 = .ok (.getfield 7, 3) := by decide +kernel
theorem dX4_feed_86 : decode cX4_feed 86 = .ok (.aload_n 0, 1) := by decide +kernel
theorem dX4_feed_87 : decode cX4_feed 87 = .ok (.getfield 27, 3) := by decide +kernel
theorem dX4_feed_90 : decode cX4_feed 90 = .ok (.iload 7, 2) := by decide +kernel
theorem dX4_feed_92 : decode cX4_feed 92 = .ok (.bipush 24, 2) := by decide +kernel
theorem dX4_feed_94 : decode cX4_feed 94 = .ok (.bipush 8, 2) := by decide +kernel
theorem dX4_feed_96 : decode cX4_feed 96 = .ok (.iload 6, 2) := by decide +kernel
theorem dX4_feed_98 : decode cX4_feed 98 = .ok (.iconst 4, 1) := by decide +kernel
theorem dX4_feed_99 : decode cX4_feed 99 = .ok (.irem, 1) := by decide +kernel
theorem dX4_feed_100 : decode cX4_feed 100 = .ok (.imul, 1) := by decide +kernel
theorem dX4_feed_101 : decode cX4_feed 101 = .ok (.isub, 1) := by decide +kernel
theorem dX4_feed_102 : decode cX4_feed 102 = .ok (.ishr, 1) := by decide +kernel
theorem dX4_feed_103 : decode cX4_feed 103 = .ok (.i2b, 1) := by decide +kernel
theorem dX4_feed_104 : decode cX4_feed 104 = .ok (.bastore, 1) := by decide +kernel
theorem dX4_feed_105 : decode cX4_feed 105 = .ok (.aload_n 0, 1) := by decide +kernel
theorem dX4_feed_106 : decode cX4_feed 106 = .ok (.dup, 1) := by decide +kernel
theorem dX4_feed_107 : decode cX4_feed 107 = .ok (.getfield 27, 3) := by decide +kernel
theorem dX4_feed_110 : decode cX4_feed 110 = .ok (.iconst 1, 1) := by decide +kernel
theorem dX4_feed_111 : decode cX4_feed 111 = .ok (.iadd, 1) := by decide +kernel
theorem dX4_feed_112 : decode cX4_feed 112 = .ok (.putfield 27, 3) := by decide +kernel
theorem dX4_feed_115 : decode cX4_feed 115 = .ok (.iinc 6 1, 3) := by decide +kernel
theorem dX4_feed_118 : decode cX4_feed 118 = .ok (.goto (-91), 3) := by decide +kernel
theorem dX4_feed_121 : decode cX4_feed 121 = .ok (.aload_n 0, 1) := by decide +kernel
theorem dX4_feed_122 : decode cX4_feed 122 = .ok (.getfield 27, 3) := by decide +kernel
theorem dX4_feed_125 : decode cX4_feed 125 = .ok (.ireturn, 1) := by decide +kernel
theorem dX4_fail_0 : decode cX4_fail 0 = .ok (.aload_n 0, 1) := by decide +kernel
theorem dX4_fail_1 : decode cX4_fail 1 = .ok (.iload_n 1, 1) := by decide +kernel
theorem dX4_fail_2 : decode cX4_fail 2 = .ok (.putfield 23, 3) := by decide +kernel
theorem dX4_fail_5 : decode cX4_fail 5 = .ok (.iconst 0, 1) := by decide +kernel
theorem dX4_fail_6 : decode cX4_fail 6 = .ok (.ireturn, 1) := by decide +kernel
theorem dX4_end_0 : decode cX4_end 0 = .ok (.aload_n 0, 1) := by decide +kernel
theorem dX4_end_1 : decode cX4_end 1 = .ok (.iconst 0, 1) := by decide +kernel
theorem dX4_end_2 : decode cX4_end 2 = .ok (.putfield 23, 3) := by decide +kernel
theorem dX4_end_5 : decode cX4_end 5 = .ok (.iload_n 1, 1) := by decide +kernel
theorem dX4_end_6 : decode cX4_end 6 = .ok (.ifCond .lt 11, 3) := by decide +kernel
theorem dX4_end_9 : decode cX4_end 9 = .ok (.iload_n 1, 1) := by decide +kernel
theorem dX4_end_10 : decode cX4_end 10 = .ok (.aload_n 0, 1) := by decide +kernel
theorem dX4_end_11 : decode cX4_end 11 = .ok (.getfield 27, 3) := by decide +kernel
theorem dX4_end_14 : decode cX4_end 14 = .ok (.if_icmp .le 9, 3) := by decide +kernel
theorem dX4_end_17 : decode cX4_end 17 = .ok (.aload_n 0, 1) := by decide +kernel
theorem dX4_end_18 : decode cX4_end 18 = .ok (.iconst 1, 1) := by decide +kernel
theorem dX4_end_19 : decode cX4_end 19 = .ok (.invokevirtual 30, 3) := by decide +kernel
theorem dX4_end_22 : decode cX4_end 22 = .ok (.ireturn, 1) := by decide +kernel
theorem dX4_end_23 : decode cX4_end 23 = .ok (.aload_n 0, 1) := by decide +kernel
theorem dX4_end_24 : decode cX4_end 24 = .ok (.iload_n 1, 1) := by decide +kernel
theorem dX4_end_25 : decode cX4_end 25 = .ok (.putfield 27, 3) := by decide +kernel
theorem dX4_end_28 : decode cX4_end 28 = .ok (.iload_n 1, 1) := by decide +kernel
theorem dX4_end_29 : decode cX4_end 29 = .ok (.ireturn, 1) := by decide +kernel
theorem dX4_read_0 : decode cX4_read 0 = .ok (.aload_n 0, 1) := by decide +kernel
theorem dX4_read_1 : decode cX4_read 1 = .ok (.iconst 0, 1) := by decide +kernel
theorem dX4_read_2 : decode cX4_read 2 = .ok (.putfield 23, 3) := by decide +kernel
theorem dX4_read_5 : decode cX4_read 5 = .ok (.aload_n 0, 1) := by decide +kernel
theorem dX4_read_6 : decode cX4_read 6 = .ok (.iload_n 1, 1) := by decide +kernel
theorem dX4_read_7 : decode cX4_read 7 = .ok (.putfield 64, 3) := by decide +kernel
theorem dX4_read_10 : decode cX4_read 10 = .ok (.aload_n 0, 1) := by decide +kernel
theorem dX4_read_11 : decode cX4_read 11 = .ok (.iconst 0, 1) := by decide +kernel
theorem dX4_read_12 : decode cX4_read 12 = .ok (.putfield 34, 3) := by decide +kernel
theorem dX4_read_15 : decode cX4_read 15 = .ok (.aload_n 0, 1) := by decide +kernel
theorem dX4_read_16 : decode cX4_read 16 = .ok (.iconst 0, 1) := by decide +kernel
theorem dX4_read_17 : decode cX4_read 17 = .ok (.putfield 37, 3) := by decide +kernel
theorem dX4_read_20 : decode cX4_read 20 = .ok (.aload_n 0, 1) := by decide +kernel
theorem dX4_read_21 : decode cX4_read 21 = .ok (.aload_n 0, 1) := by decide +kernel
theorem dX4_read_22 : decode cX4_read 22 = .ok (.getfield 27, 3) := by decide +kernel
theorem dX4_read_25 : decode cX4_read 25 = .ok (.iconst (-1), 1) := by decide +kernel
theorem dX4_read_26 : decode cX4_read 26 = .ok (.iconst 1, 1) := by decide +kernel
theorem dX4_read_27 : decode cX4_read 27 = .ok (.invokevirtual 72, 3) := by decide +kernel
theorem dX4_read_30 : decode cX4_read 30 = .ok (.ifCond .eq 14, 3) := by decide +kernel
theorem dX4_read_33 : decode cX4_read 33 = .ok (.aload_n 0, 1) := by decide +kernel
theorem dX4_read_34 : decode cX4_read 34 = .ok (.getfield 34, 3) := by decide +kernel
theorem dX4_read_37 : decode cX4_read 37 = .ok (.aload_n 0, 1) := by decide +kernel
theorem dX4_read_38 : decode cX4_read 38 = .ok (.getfield 27, 3) := by decide +kernel
theorem dX4_read_41 : decode cX4_read 41 = .ok (.if_icmp .eq 9, 3) := by decide +kernel
theorem dX4_read_44 : decode cX4_read 44 = .ok (.aload_n 0, 1) := by decide +kernel
theorem dX4_read_45 : decode cX4_read 45 = .ok (.iconst 1, 1) := by decide +kernel
theorem dX4_read_46 : decode cX4_read 46 = .ok (.invokevirtual 30, 3) := by decide +kernel
theorem dX4_read_49 : decode cX4_read 49 = .ok (.ireturn, 1) := by decide +kernel
theorem dX4_read_50 : decode cX4_read 50 = .ok (.aload_n 0, 1) := by decide +kernel
theorem dX4_read_51 : decode cX4_read 51 = .ok (.aload_n 0, 1) := by decide +kernel
theorem dX4_read_52 : decode cX4_read 52 = .ok (.getfield 37, 3) := by decide +kernel
theorem dX4_read_55 : decode cX4_read 55 = .ok (.putfield 77, 3) := by decide +kernel
theorem dX4_read_58 : decode cX4_read 58 = .ok (.iconst 0, 1) := by decide +kernel
theorem dX4_read_59 : decode cX4_read 59 = .ok (.istore_n 2, 1) := by decide +kernel
theorem dX4_read_60 : decode cX4_read 60 = .ok (.iload_n 2, 1) := by decide +kernel
theorem dX4_read_61 : decode cX4_read 61 = .ok (.bipush 8, 2) := by decide +kernel
theorem dX4_read_63 : decode cX4_read 63 = .ok (.aload_n 0, 1) := by decide +kernel
theorem dX4_read_64 : decode cX4_read 64 = .ok (.getfield 77, 3) := by decide +kernel
theorem dX4_read_67 : decode cX4_read 67 = .ok (.imul, 1) := by decide +kernel
theorem dX4_read_68 : decode cX4_read 68 = .ok (.if_icmp .ge 21, 3) := by decide +kernel
theorem dX4_read_71 : decode cX4_read 71 = .ok (.aload_n 0, 1) := by decide +kernel
theorem dX4_read_72 : decode cX4_read 72 = .ok (.getfield 16, 3) := by decide +kernel
theorem dX4_read_75 : decode cX4_read 75 = .ok (.iload_n 2, 1) := by decide +kernel
theorem dX4_read_76 : decode cX4_read 76 = .ok (.aload_n 0, 1) := by decide +kernel
theorem dX4_read_77 : decode cX4_read 77 = .ok (.getfield 20, 3) := by decide +kernel
theorem dX4_read_80 : decode cX4_read 80 = .ok (.iload_n 2, 1) := by decide +kernel
theorem dX4_read_81 : decode cX4_read 81 = .ok (.iaload, 1) := by decide +kernel
theorem dX4_read_82 : decode cX4_read 82 = .ok (.iastore, 1) := by decide +kernel
theorem dX4_read_83 : decode cX4_read 83 = .ok (.iinc 2 1, 3) := by decide +kernel
theorem dX4_read_86 : decode cX4_read 86 = .ok (.goto (-26), 3) := by decide +kernel
theorem dX4_read_89 : decode cX4_read 89 = .ok (.iconst 0, 1) := by decide +kernel
theorem dX4_read_90 : decode cX4_read 90 = .ok (.istore_n 2, 1) := by decide +kernel
theorem dX4_read_91 : decode cX4_read 91 = .ok (.iload_n 2, 1) := by decide +kernel
theorem dX4_read_92 : decode cX4_read 92 = .ok (.aload_n 0, 1) := by decide +kernel
theorem dX4_read_93 : decode cX4_read 93 = .ok (.getfield 27, 3) := by decide +kernel
theorem dX4_read_96 : decode cX4_read 96 = .ok (.if_icmp .ge 21, 3) := by decide +kernel
theorem dX4_read_99 : decode cX4_read 99 = .ok (.aload_n 0, 1) := by decide +kernel
theorem dX4_read_100 : decode cX4_read 100 = .ok (.getfield 13, 3) := by decide +kernel
theorem dX4_read_103 : decode cX4_read 103 = .ok (.iload_n 2, 1) := by decide +kernel
theorem dX4_read_104 : decode cX4_read 104 = .ok (.aload_n 0, 1) := by decide +kernel
theorem dX4_read_105 : decode cX4_read 105 = .ok (.getfield 7, 3) := by decide +kernel
theorem dX4_read_108 : decode cX4_read 108 = .ok (.iload_n 2, 1) := by decide +kernel
theorem dX4_read_109 : decode cX4_read 109 = .ok (.baload, 1) := by decide +kernel
theorem dX4_read_110 : decode cX4_read 110 = .ok (.bastore, 1) := by decide +kernel
theorem dX4_read_111 : decode cX4_read 111 = .ok (.iinc 2 1, 3) := by decide +kernel
theorem dX4_read_114 : decode cX4_read 114 = .ok (.goto (-23), 3) := by decide +kernel
theorem dX4_read_117 : decode cX4_read 117 = .ok (.aload_n 0, 1) := by decide +kernel
theorem dX4_read_118 : decode cX4_read 118 = .ok (.getfield 77, 3) := by decide +kernel
theorem dX4_read_121 : decode cX4_read 121 = .ok (.ireturn, 1) := by decide +kernel
theorem dX4_value_0 : decode cX4_value 0 = .ok (.iload_n 3, 1) := by decide +kernel
theorem dX4_value_1 : decode cX4_value 1 = .ok (.bipush 40, 2) := by decide +kernel
theorem dX4_value_3 : decode cX4_value 3 = .ok (.if_icmp .le 5, 3) := by decide +kernel
theorem dX4_value_6 : decode cX4_value 6 = .ok (.iconst 0, 1) := by decide +kernel
theorem dX4_value_7 : decode cX4_value 7 = .ok (.ireturn, 1) := by decide +kernel
theorem dX4_value_8 : decode cX4_value 8 = .ok (.aload_n 0, 1) := by decide +kernel
theorem dX4_value_9 : decode cX4_value 9 = .ok (.getfield 37, 3) := by decide +kernel
theorem dX4_value_12 : decode cX4_value 12 = .ok (.istore 4, 2) := by decide +kernel
theorem dX4_value_14 : decode cX4_value 14 = .ok (.aload_n 0, 1) := by decide +kernel
theorem dX4_value_15 : decode cX4_value 15 = .ok (.dup, 1) := by decide +kernel
theorem dX4_value_16 : decode cX4_value 16 = .ok (.getfield 37, 3) := by decide +kernel
theorem dX4_value_19 : decode cX4_value 19 = .ok (.iconst 1, 1) := by decide +kernel
theorem dX4_value_20 : decode cX4_value 20 = .ok (.iadd, 1) := by decide +kernel
theorem dX4_value_21 : decode cX4_value 21 = .ok (.putfield 37, 3) := by decide +kernel
theorem dX4_value_24 : decode cX4_value 24 = .ok (.aload_n 0, 1) := by decide +kernel
theorem dX4_value_25 : decode cX4_value 25 = .ok (.getfield 20, 3) := by decide +kernel
theorem dX4_value_28 : decode cX4_value 28 = .ok (.bipush 8, 2) := by decide +kernel
theorem dX4_value_30 : decode cX4_value 30 = .ok (.iload 4, 2) := by decide +kernel
theorem dX4_value_32 : decode cX4_value 32 = .ok (.imul, 1) := by decide +kernel
theorem dX4_value_33 : decode cX4_value 33 = .ok (.iconst 3, 1) := by decide +kernel
theorem dX4_value_34 : decode cX4_value 34 = .ok (.iadd, 1) := by decide +kernel
theorem dX4_value_35 : decode cX4_value 35 = .ok (.aload_n 0, 1) := by decide +kernel
theorem dX4_value_36 : decode cX4_value 36 = .ok (.getfield 34, 3) := by decide +kernel
theorem dX4_value_39 : decode cX4_value 39 = .ok (.iastore, 1) := by decide +kernel
theorem dX4_value_40 : decode cX4_value 40 = .ok (.aload_n 0, 1) := by decide +kernel
theorem dX4_value_41 : decode cX4_value 41 = .ok (.invokevirtual 40, 3) := by decide +kernel
theorem dX4_value_44 : decode cX4_value 44 = .ok (.istore 5, 2) := by decide +kernel
theorem dX4_value_46 : decode cX4_value 46 = .ok (.iload 5, 2) := by decide +kernel
theorem dX4_value_48 : decode cX4_value 48 = .ok (.ifCond .ge 5, 3) := by decide +kernel
theorem dX4_value_51 : decode cX4_value 51 = .ok (.iconst 0, 1) := by decide +kernel
theorem dX4_value_52 : decode cX4_value 52 = .ok (.ireturn, 1) := by decide +kernel
theorem dX4_value_53 : decode cX4_value 53 = .ok (.iload 5, 2) := by decide +kernel
theorem dX4_value_55 : decode cX4_value 55 = .ok (.bipush 31, 2) := by decide +kernel
theorem dX4_value_57 : decode cX4_value 57 = .ok (.iand, 1) := by decide +kernel
theorem dX4_value_58 : decode cX4_value 58 = .ok (.i2l, 1) := by decide +kernel
theorem dX4_value_59 : decode cX4_value 59 = .ok (.lstore 6, 2) := by decide +kernel
theorem dX4_value_61 : decode cX4_value 61 = .ok (.lload 6, 2) := by decide +kernel
theorem dX4_value_63 : decode cX4_value 63 = .ok (.ldc2_w 44, 3) := by decide +kernel
theorem dX4_value_66 : decode cX4_value 66 = .ok (.lcmp, 1) := by decide +kernel
theorem dX4_value_67 : decode cX4_value 67 = .ok (.ifCond .ne 93, 3) := by decide +kernel
theorem dX4_value_70 : decode cX4_value 70 = .ok (.lconst 0, 1) := by decide +kernel
theorem dX4_value_71 : decode cX4_value 71 = .ok (.lstore 6, 2) := by decide +kernel
theorem dX4_value_73 : decode cX4_value 73 = .ok (.aload_n 0, 1) := by decide +kernel
theorem dX4_value_74 : decode cX4_value 74 = .ok (.invokevirtual 40, 3) := by decide +kernel
theorem dX4_value_77 : decode cX4_value 77 = .ok (.istore 8, 2) := by decide +kernel
theorem dX4_value_79 : decode cX4_value 79 = .ok (.iload 8, 2) := by decide +kernel
theorem dX4_value_81 : decode cX4_value 81 = .ok (.sipush 128, 3) := by decide +kernel
theorem dX4_value_84 : decode cX4_value 84 = .ok (.if_icmp .ne 5, 3) := by decide +kernel
theorem dX4_value_87 : decode cX4_value 87 = .ok (.iconst 0, 1) := by decide +kernel
theorem dX4_value_88 : decode cX4_value 88 = .ok (.ireturn, 1) := by decide +kernel
theorem dX4_value_89 : decode cX4_value 89 = .ok (.iload 8, 2) := by decide +kernel
theorem dX4_value_91 : decode cX4_value 91 = .ok (.bipush 127, 2) := by decide +kernel
theorem dX4_value_93 : decode cX4_value 93 = .ok (.if_icmp .le 32, 3) := by decide +kernel
theorem dX4_value_96 : decode cX4_value 96 = .ok (.lload 6, 2) := by decide +kernel
theorem dX4_value_98 : decode cX4_value 98 = .ok (.bipush 7, 2) := by decide +kernel
theorem dX4_value_100 : decode cX4_value 100 = .ok (.lshl, 1) := by decide +kernel
theorem dX4_value_101 : decode cX4_value 101 = .ok (.iload 8, 2) := by decide +kernel
theorem dX4_value_103 : decode cX4_value 103 = .ok (.bipush 127, 2) := by decide +kernel
theorem dX4_value_105 : decode cX4_value 105 = .ok (.iand, 1) := by decide +kernel
theorem dX4_value_106 : decode cX4_value 106 = .ok (.i2l, 1) := by decide +kernel
theorem dX4_value_107 : decode cX4_value 107 = .ok (.lor, 1) := by decide +kernel
theorem dX4_value_108 : decode cX4_value 108 = .ok (.ldc2_w 46, 3) := by decide +kernel
theorem dX4_value_111 : decode cX4_value 111 = .ok (.invokestatic 48, 3) := by decide +kernel
theorem dX4_value_114 : decode cX4_value 114 = .ok (.lstore 6, 2) := by decide +kernel
theorem dX4_value_116 : decode cX4_value 116 = .ok (.aload_n 0, 1) := by decide +kernel
theorem dX4_value_117 : decode cX4_value 117 = .ok (.invokevirtual 40, 3) := by decide +kernel
theorem dX4_value_120 : decode cX4_value 120 = .ok (.istore 8, 2) := by decide +kernel
theorem dX4_value_122 : decode cX4_value 122 = .ok (.goto (-33), 3) := by decide +kernel
theorem dX4_value_125 : decode cX4_value 125 = .ok (.iload 8, 2) := by decide +kernel
theorem dX4_value_127 : decode cX4_value 127 = .ok (.ifCond .ge 5, 3) := by decide +kernel
theorem dX4_value_130 : decode cX4_value 130 = .ok (.iconst 0, 1) := by decide +kernel
theorem dX4_value_131 : decode cX4_value 131 = .ok (.ireturn, 1) := by decide +kernel
theorem dX4_value_132 : decode cX4_value 132 = .ok (.lload 6, 2) := by decide +kernel
theorem dX4_value_134 : decode cX4_value 134 = .ok (.bipush 7, 2) := by decide +kernel
theorem dX4_value_136 : decode cX4_value 136 = .ok (.lshl, 1) := by decide +kernel
theorem dX4_value_137 : decode cX4_value 137 = .ok (.iload 8, 2) := by decide +kernel
theorem dX4_value_139 : decode cX4_value 139 = .ok (.i2l, 1) := by decide +kernel
theorem dX4_value_140 : decode cX4_value 140 = .ok (.lor, 1) := by decide +kernel
theorem dX4_value_141 : decode cX4_value 141 = .ok (.ldc2_w 46, 3) := by decide +kernel
theorem dX4_value_144 : decode cX4_value 144 = .ok (.invokestatic 48, 3) := by decide +kernel
theorem dX4_value_147 : decode cX4_value 147 = .ok (.lstore 6, 2) := by decide +kernel
theorem dX4_value_149 : decode cX4_value 149 = .ok (.lload 6, 2) := by decide +kernel
theorem dX4_value_151 : decode cX4_value 151 = .ok (.ldc2_w 44, 3) := by decide +kernel
theorem dX4_value_154 : decode cX4_value 154 = .ok (.lcmp, 1) := by decide +kernel
theorem dX4_value_155 : decode cX4_value 155 = .ok (.ifCond .ge 5, 3) := by decide +kernel
theorem dX4_value_158 : decode cX4_value 158 = .ok (.iconst 0, 1) := by decide +kernel
theorem dX4_value_159 : decode cX4_value 159 = .ok (.ireturn, 1) := by decide +kernel
theorem dX4_value_160 : decode cX4_value 160 = .ok (.aload_n 0, 1) := by decide +kernel
theorem dX4_value_161 : decode cX4_value 161 = .ok (.getfield 20, 3) := by decide +kernel
theorem dX4_value_164 : decode cX4_value 164 = .ok (.bipush 8, 2) := by decide +kernel
theorem dX4_value_166 : decode cX4_value 166 = .ok (.iload 4, 2) := by decide +kernel
theorem dX4_value_168 : decode cX4_value 168 = .ok (.imul, 1) := by decide +kernel
theorem dX4_value_169 : decode cX4_value 169 = .ok (.iload 5, 2) := by decide +kernel
theorem dX4_value_171 : decode cX4_value 171 = .ok (.bipush 6, 2) := by decide +kernel
theorem dX4_value_173 : decode cX4_value 173 = .ok (.ishr, 1) := by decide +kernel
theorem dX4_value_174 : decode cX4_value 174 = .ok (.iastore, 1) := by decide +kernel
theorem dX4_value_175 : decode cX4_value 175 = .ok (.aload_n 0, 1) := by decide +kernel
theorem dX4_value_176 : decode cX4_value 176 = .ok (.getfield 20, 3) := by decide +kernel
theorem dX4_value_179 : decode cX4_value 179 = .ok (.bipush 8, 2) := by decide +kernel
theorem dX4_value_181 : decode cX4_value 181 = .ok (.iload 4, 2) := by decide +kernel
theorem dX4_value_183 : decode cX4_value 183 = .ok (.imul, 1) := by decide +kernel
theorem dX4_value_184 : decode cX4_value 184 = .ok (.iconst 1, 1) := by decide +kernel
theorem dX4_value_185 : decode cX4_value 185 = .ok (.iadd, 1) := by decide +kernel
theorem dX4_value_186 : decode cX4_value 186 = .ok (.lload 6, 2) := by decide +kernel
theorem dX4_value_188 : decode cX4_value 188 = .ok (.ldc2_w 54, 3) := by decide +kernel
theorem dX4_value_191 : decode cX4_value 191 = .ok (.lcmp, 1) := by decide +kernel
theorem dX4_value_192 : decode cX4_value 192 = .ok (.ifCond .le 7, 3) := by decide +kernel
theorem dX4_value_195 : decode cX4_value 195 = .ok (.iconst (-1), 1) := by decide +kernel
theorem dX4_value_196 : decode cX4_value 196 = .ok (.goto 6, 3) := by decide +kernel
theorem dX4_value_199 : decode cX4_value 199 = .ok (.lload 6, 2) := by decide +kernel
theorem dX4_value_201 : decode cX4_value 201 = .ok (.l2i, 1) := by decide +kernel
theorem dX4_value_202 : decode cX4_value 202 = .ok (.iastore, 1) := by decide +kernel
theorem dX4_value_203 : decode cX4_value 203 = .ok (.aload_n 0, 1) := by decide +kernel
theorem dX4_value_204 : decode cX4_value 204 = .ok (.getfield 20, 3) := by decide +kernel
theorem dX4_value_207 : decode cX4_value 207 = .ok (.bipush 8, 2) := by decide +kernel
theorem dX4_value_209 : decode cX4_value 209 = .ok (.iload 4, 2) := by decide +kernel
theorem dX4_value_211 : decode cX4_value 211 = .ok (.imul, 1) := by decide +kernel
theorem dX4_value_212 : decode cX4_value 212 = .ok (.iconst 2, 1) := by decide +kernel
theorem dX4_value_213 : decode cX4_value 213 = .ok (.iadd, 1) := by decide +kernel
theorem dX4_value_214 : decode cX4_value 214 = .ok (.iload 5, 2) := by decide +kernel
theorem dX4_value_216 : decode cX4_value 216 = .ok (.iconst 5, 1) := by decide +kernel
theorem dX4_value_217 : decode cX4_value 217 = .ok (.ishr, 1) := by decide +kernel
theorem dX4_value_218 : decode cX4_value 218 = .ok (.iconst 1, 1) := by decide +kernel
theorem dX4_value_219 : decode cX4_value 219 = .ok (.iand, 1) := by decide +kernel
theorem dX4_value_220 : decode cX4_value 220 = .ok (.iastore, 1) := by decide +kernel
theorem dX4_value_221 : decode cX4_value 221 = .ok (.aload_n 0, 1) := by decide +kernel
theorem dX4_value_222 : decode cX4_value 222 = .ok (.getfield 20, 3) := by decide +kernel
theorem dX4_value_225 : decode cX4_value 225 = .ok (.bipush 8, 2) := by decide +kernel
theorem dX4_value_227 : decode cX4_value 227 = .ok (.iload 4, 2) := by decide +kernel
theorem dX4_value_229 : decode cX4_value 229 = .ok (.imul, 1) := by decide +kernel
theorem dX4_value_230 : decode cX4_value 230 = .ok (.bipush 6, 2) := by decide +kernel
theorem dX4_value_232 : decode cX4_value 232 = .ok (.iadd, 1) := by decide +kernel
theorem dX4_value_233 : decode cX4_value 233 = .ok (.iload_n 2, 1) := by decide +kernel
theorem dX4_value_234 : decode cX4_value 234 = .ok (.iastore, 1) := by decide +kernel
theorem dX4_value_235 : decode cX4_value 235 = .ok (.aload_n 0, 1) := by decide +kernel
theorem dX4_value_236 : decode cX4_value 236 = .ok (.getfield 20, 3) := by decide +kernel
theorem dX4_value_239 : decode cX4_value 239 = .ok (.bipush 8, 2) := by decide +kernel
theorem dX4_value_241 : decode cX4_value 241 = .ok (.iload 4, 2) := by decide +kernel
theorem dX4_value_243 : decode cX4_value 243 = .ok (.imul, 1) := by decide +kernel
theorem dX4_value_244 : decode cX4_value 244 = .ok (.bipush 7, 2) := by decide +kernel
theorem dX4_value_246 : decode cX4_value 246 = .ok (.iadd, 1) := by decide +kernel
theorem dX4_value_247 : decode cX4_value 247 = .ok (.iconst 0, 1) := by decide +kernel
theorem dX4_value_248 : decode cX4_value 248 = .ok (.iastore, 1) := by decide +kernel
theorem dX4_value_249 : decode cX4_value 249 = .ok (.iload_n 2, 1) := by decide +kernel
theorem dX4_value_250 : decode cX4_value 250 = .ok (.ifCond .lt 19, 3) := by decide +kernel
theorem dX4_value_253 : decode cX4_value 253 = .ok (.aload_n 0, 1) := by decide +kernel
theorem dX4_value_254 : decode cX4_value 254 = .ok (.getfield 20, 3) := by decide +kernel
theorem dX4_value_257 : decode cX4_value 257 = .ok (.bipush 8, 2) := by decide +kernel
theorem dX4_value_259 : decode cX4_value 259 = .ok (.iload_n 2, 1) := by decide +kernel
theorem dX4_value_260 : decode cX4_value 260 = .ok (.imul, 1) := by decide +kernel
theorem dX4_value_261 : decode cX4_value 261 = .ok (.bipush 7, 2) := by decide +kernel
theorem dX4_value_263 : decode cX4_value 263 = .ok (.iadd, 1) := by decide +kernel
theorem dX4_value_264 : decode cX4_value 264 = .ok (.dup2, 1) := by decide +kernel
theorem dX4_value_265 : decode cX4_value 265 = .ok (.iaload, 1) := by decide +kernel
theorem dX4_value_266 : decode cX4_value 266 = .ok (.iconst 1, 1) := by decide +kernel
theorem dX4_value_267 : decode cX4_value 267 = .ok (.iadd, 1) := by decide +kernel
theorem dX4_value_268 : decode cX4_value 268 = .ok (.iastore, 1) := by decide +kernel
theorem dX4_value_269 : decode cX4_value 269 = .ok (.aload_n 0, 1) := by decide +kernel
theorem dX4_value_270 : decode cX4_value 270 = .ok (.invokevirtual 56, 3) := by decide +kernel
theorem dX4_value_273 : decode cX4_value 273 = .ok (.lstore 8, 2) := by decide +kernel
theorem dX4_value_275 : decode cX4_value 275 = .ok (.lload 8, 2) := by decide +kernel
theorem dX4_value_277 : decode cX4_value 277 = .ok (.ldc2_w 60, 3) := by decide +kernel
theorem dX4_value_280 : decode cX4_value 280 = .ok (.lcmp, 1) := by decide +kernel
theorem dX4_value_281 : decode cX4_value 281 = .ok (.ifCond .eq 35, 3) := by decide +kernel
theorem dX4_value_284 : decode cX4_value 284 = .ok (.lload 8, 2) := by decide +kernel
theorem dX4_value_286 : decode cX4_value 286 = .ok (.ldc2_w 62, 3) := by decide +kernel
theorem dX4_value_289 : decode cX4_value 289 = .ok (.lcmp, 1) := by decide +kernel
theorem dX4_value_290 : decode cX4_value 290 = .ok (.ifCond .ne 18, 3) := by decide +kernel
theorem dX4_value_293 : decode cX4_value 293 = .ok (.aload_n 0, 1) := by decide +kernel
theorem dX4_value_294 : decode cX4_value 294 = .ok (.getfield 64, 3) := by decide +kernel
theorem dX4_value_297 : decode cX4_value 297 = .ok (.ifCond .ne 19, 3) := by decide +kernel
theorem dX4_value_300 : decode cX4_value 300 = .ok (.iload 5, 2) := by decide +kernel
theorem dX4_value_302 : decode cX4_value 302 = .ok (.bipush 32, 2) := by decide +kernel
theorem dX4_value_304 : decode cX4_value 304 = .ok (.iand, 1) := by decide +kernel
theorem dX4_value_305 : decode cX4_value 305 = .ok (.ifCond .eq 11, 3) := by decide +kernel
theorem dX4_value_308 : decode cX4_value 308 = .ok (.aload_n 0, 1) := by decide +kernel
theorem dX4_value_309 : decode cX4_value 309 = .ok (.getfield 34, 3) := by decide +kernel
theorem dX4_value_312 : decode cX4_value 312 = .ok (.iload_n 1, 1) := by decide +kernel
theorem dX4_value_313 : decode cX4_value 313 = .ok (.if_icmp .le 5, 3) := by decide +kernel
theorem dX4_value_316 : decode cX4_value 316 = .ok (.iconst 0, 1) := by decide +kernel
theorem dX4_value_317 : decode cX4_value 317 = .ok (.ireturn, 1) := by decide +kernel
theorem dX4_value_318 : decode cX4_value 318 = .ok (.aload_n 0, 1) := by decide +kernel
theorem dX4_value_319 : decode cX4_value 319 = .ok (.getfield 20, 3) := by decide +kernel
theorem dX4_value_322 : decode cX4_value 322 = .ok (.bipush 8, 2) := by decide +kernel
theorem dX4_value_324 : decode cX4_value 324 = .ok (.iload 4, 2) := by decide +kernel
theorem dX4_value_326 : decode cX4_value 326 = .ok (.imul, 1) := by decide +kernel
theorem dX4_value_327 : decode cX4_value 327 = .ok (.iconst 4, 1) := by decide +kernel
theorem dX4_value_328 : decode cX4_value 328 = .ok (.iadd, 1) := by decide +kernel
theorem dX4_value_329 : decode cX4_value 329 = .ok (.aload_n 0, 1) := by decide +kernel
theorem dX4_value_330 : decode cX4_value 330 = .ok (.getfield 34, 3) := by decide +kernel
theorem dX4_value_333 : decode cX4_value 333 = .ok (.iastore, 1) := by decide +kernel
theorem dX4_value_334 : decode cX4_value 334 = .ok (.lload 8, 2) := by decide +kernel
theorem dX4_value_336 : decode cX4_value 336 = .ok (.ldc2_w 62, 3) := by decide +kernel
theorem dX4_value_339 : decode cX4_value 339 = .ok (.lcmp, 1) := by decide +kernel
theorem dX4_value_340 : decode cX4_value 340 = .ok (.ifCond .ne 12, 3) := by decide +kernel
theorem dX4_value_343 : decode cX4_value 343 = .ok (.aload_n 0, 1) := by decide +kernel
theorem dX4_value_344 : decode cX4_value 344 = .ok (.iload 4, 2) := by decide +kernel
theorem dX4_value_346 : decode cX4_value 346 = .ok (.iload_n 1, 1) := by decide +kernel
theorem dX4_value_347 : decode cX4_value 347 = .ok (.iload_n 3, 1) := by decide +kernel
theorem dX4_value_348 : decode cX4_value 348 = .ok (.invokevirtual 68, 3) := by decide +kernel
theorem dX4_value_351 : decode cX4_value 351 = .ok (.ireturn, 1) := by decide +kernel
theorem dX4_value_352 : decode cX4_value 352 = .ok (.lload 8, 2) := by decide +kernel
theorem dX4_value_354 : decode cX4_value 354 = .ok (.iload_n 1, 1) := by decide +kernel
theorem dX4_value_355 : decode cX4_value 355 = .ok (.aload_n 0, 1) := by decide +kernel
theorem dX4_value_356 : decode cX4_value 356 = .ok (.getfield 34, 3) := by decide +kernel
theorem dX4_value_359 : decode cX4_value 359 = .ok (.isub, 1) := by decide +kernel
theorem dX4_value_360 : decode cX4_value 360 = .ok (.i2l, 1) := by decide +kernel
theorem dX4_value_361 : decode cX4_value 361 = .ok (.lcmp, 1) := by decide +kernel
theorem dX4_value_362 : decode cX4_value 362 = .ok (.ifCond .le 5, 3) := by decide +kernel
theorem dX4_value_365 : decode cX4_value 365 = .ok (.iconst 0, 1) := by decide +kernel
theorem dX4_value_366 : decode cX4_value 366 = .ok (.ireturn, 1) := by decide +kernel
theorem dX4_value_367 : decode cX4_value 367 = .ok (.aload_n 0, 1) := by decide +kernel
theorem dX4_value_368 : decode cX4_value 368 = .ok (.getfield 34, 3) := by decide +kernel
theorem dX4_value_371 : decode cX4_value 371 = .ok (.lload 8, 2) := by decide +kernel
theorem dX4_value_373 : decode cX4_value 373 = .ok (.l2i, 1) := by decide +kernel
theorem dX4_value_374 : decode cX4_value 374 = .ok (.iadd, 1) := by decide +kernel
theorem dX4_value_375 : decode cX4_value 375 = .ok (.istore 10, 2) := by decide +kernel
theorem dX4_value_377 : decode cX4_value 377 = .ok (.aload_n 0, 1) := by decide +kernel
theorem dX4_value_378 : decode cX4_value 378 = .ok (.getfield 20, 3) := by decide +kernel
theorem dX4_value_381 : decode cX4_value 381 = .ok (.bipush 8, 2) := by decide +kernel
theorem dX4_value_383 : decode cX4_value 383 = .ok (.iload 4, 2) := by decide +kernel
theorem dX4_value_385 : decode cX4_value 385 = .ok (.imul, 1) := by decide +kernel
theorem dX4_value_386 : decode cX4_value 386 = .ok (.iconst 5, 1) := by decide +kernel
theorem dX4_value_387 : decode cX4_value 387 = .ok (.iadd, 1) := by decide +kernel
theorem dX4_value_388 : decode cX4_value 388 = .ok (.lload 8, 2) := by decide +kernel
theorem dX4_value_390 : decode cX4_value 390 = .ok (.l2i, 1) := by decide +kernel
theorem dX4_value_391 : decode cX4_value 391 = .ok (.iastore, 1) := by decide +kernel
theorem dX4_value_392 : decode cX4_value 392 = .ok (.iload 5, 2) := by decide +kernel
theorem dX4_value_394 : decode cX4_value 394 = .ok (.bipush 32, 2) := by decide +kernel
theorem dX4_value_396 : decode cX4_value 396 = .ok (.iand, 1) := by decide +kernel
theorem dX4_value_397 : decode cX4_value 397 = .ok (.ifCond .ne 9, 3) := by decide +kernel
theorem dX4_value_400 : decode cX4_value 400 = .ok (.aload_n 0, 1) := by decide +kernel
theorem dX4_value_401 : decode cX4_value 401 = .ok (.iload 10, 2) := by decide +kernel
theorem dX4_value_403 : decode cX4_value 403 = .ok (.putfield 34, 3) := by decide +kernel
theorem dX4_value_406 : decode cX4_value 406 = .ok (.aload_n 0, 1) := by decide +kernel
theorem dX4_value_407 : decode cX4_value 407 = .ok (.getfield 34, 3) := by decide +kernel
theorem dX4_value_410 : decode cX4_value 410 = .ok (.iload 10, 2) := by decide +kernel
theorem dX4_value_412 : decode cX4_value 412 = .ok (.if_icmp .ge 19, 3) := by decide +kernel
theorem dX4_value_415 : decode cX4_value 415 = .ok (.aload_n 0, 1) := by decide +kernel
theorem dX4_value_416 : decode cX4_value 416 = .ok (.iload 10, 2) := by decide +kernel
theorem dX4_value_418 : decode cX4_value 418 = .ok (.iload 4, 2) := by decide +kernel
theorem dX4_value_420 : decode cX4_value 420 = .ok (.iload_n 3, 1) := by decide +kernel
theorem dX4_value_421 : decode cX4_value 421 = .ok (.iconst 1, 1) := by decide +kernel
theorem dX4_value_422 : decode cX4_value 422 = .ok (.iadd, 1) := by decide +kernel
theorem dX4_value_423 : decode cX4_value 423 = .ok (.invokevirtual 72, 3) := by decide +kernel
theorem dX4_value_426 : decode cX4_value 426 = .ok (.ifCond .ne (-20), 3) := by decide +kernel
theorem dX4_value_429 : decode cX4_value 429 = .ok (.iconst 0, 1) := by decide +kernel
theorem dX4_value_430 : decode cX4_value 430 = .ok (.ireturn, 1) := by decide +kernel
theorem dX4_value_431 : decode cX4_value 431 = .ok (.aload_n 0, 1) := by decide +kernel
theorem dX4_value_432 : decode cX4_value 432 = .ok (.getfield 34, 3) := by decide +kernel
theorem dX4_value_435 : decode cX4_value 435 = .ok (.iload 10, 2) := by decide +kernel
theorem dX4_value_437 : decode cX4_value 437 = .ok (.if_icmp .ne 7, 3) := by decide +kernel
theorem dX4_value_440 : decode cX4_value 440 = .ok (.iconst 1, 1) := by decide +kernel
theorem dX4_value_441 : decode cX4_value 441 = .ok (.goto 4, 3) := by decide +kernel
theorem dX4_value_444 : decode cX4_value 444 = .ok (.iconst 0, 1) := by decide +kernel
theorem dX4_value_445 : decode cX4_value 445 = .ok (.ireturn, 1) := by decide +kernel
theorem dX4_next_0 : decode cX4_next 0 = .ok (.aload_n 0, 1) := by decide +kernel
theorem dX4_next_1 : decode cX4_next 1 = .ok (.getfield 34, 3) := by decide +kernel
theorem dX4_next_4 : decode cX4_next 4 = .ok (.aload_n 0, 1) := by decide +kernel
theorem dX4_next_5 : decode cX4_next 5 = .ok (.getfield 27, 3) := by decide +kernel
theorem dX4_next_8 : decode cX4_next 8 = .ok (.if_icmp .ge 19, 3) := by decide +kernel
theorem dX4_next_11 : decode cX4_next 11 = .ok (.aload_n 0, 1) := by decide +kernel
theorem dX4_next_12 : decode cX4_next 12 = .ok (.getfield 7, 3) := by decide +kernel
theorem dX4_next_15 : decode cX4_next 15 = .ok (.aload_n 0, 1) := by decide +kernel
theorem dX4_next_16 : decode cX4_next 16 = .ok (.getfield 34, 3) := by decide +kernel
theorem dX4_next_19 : decode cX4_next 19 = .ok (.baload, 1) := by decide +kernel
theorem dX4_next_20 : decode cX4_next 20 = .ok (.sipush 255, 3) := by decide +kernel
theorem dX4_next_23 : decode cX4_next 23 = .ok (.iand, 1) := by decide +kernel
theorem dX4_next_24 : decode cX4_next 24 = .ok (.goto 4, 3) := by decide +kernel
theorem dX4_next_27 : decode cX4_next 27 = .ok (.iconst (-1), 1) := by decide +kernel
theorem dX4_next_28 : decode cX4_next 28 = .ok (.istore_n 1, 1) := by decide +kernel
theorem dX4_next_29 : decode cX4_next 29 = .ok (.aload_n 0, 1) := by decide +kernel
theorem dX4_next_30 : decode cX4_next 30 = .ok (.dup, 1) := by decide +kernel
theorem dX4_next_31 : decode cX4_next 31 = .ok (.getfield 34, 3) := by decide +kernel
theorem dX4_next_34 : decode cX4_next 34 = .ok (.iconst 1, 1) := by decide +kernel
theorem dX4_next_35 : decode cX4_next 35 = .ok (.iadd, 1) := by decide +kernel
theorem dX4_next_36 : decode cX4_next 36 = .ok (.putfield 34, 3) := by decide +kernel
theorem dX4_next_39 : decode cX4_next 39 = .ok (.iload_n 1, 1) := by decide +kernel
theorem dX4_next_40 : decode cX4_next 40 = .ok (.ireturn, 1) := by decide +kernel
theorem dX4_length_0 : decode cX4_length 0 = .ok (.aload_n 0, 1) := by decide +kernel
theorem dX4_length_1 : decode cX4_length 1 = .ok (.invokevirtual 40, 3) := by decide +kernel
theorem dX4_length_4 : decode cX4_length 4 = .ok (.istore_n 1, 1) := by decide +kernel
theorem dX4_length_5 : decode cX4_length 5 = .ok (.iload_n 1, 1) := by decide +kernel
theorem dX4_length_6 : decode cX4_length 6 = .ok (.sipush 128, 3) := by decide +kernel
theorem dX4_length_9 : decode cX4_length 9 = .ok (.if_icmp .ge 16, 3) := by decide +kernel
theorem dX4_length_12 : decode cX4_length 12 = .ok (.iload_n 1, 1) := by decide +kernel
theorem dX4_length_13 : decode cX4_length 13 = .ok (.ifCond .ge 9, 3) := by decide +kernel
theorem dX4_length_16 : decode cX4_length 16 = .ok (.ldc2_w 60, 3) := by decide +kernel
theorem dX4_length_19 : decode cX4_length 19 = .ok (.goto 5, 3) := by decide +kernel
theorem dX4_length_22 : decode cX4_length 22 = .ok (.iload_n 1, 1) := by decide +kernel
theorem dX4_length_23 : decode cX4_length 23 = .ok (.i2l, 1) := by decide +kernel
theorem dX4_length_24 : decode cX4_length 24 = .ok (.lreturn, 1) := by decide +kernel
theorem dX4_length_25 : decode cX4_length 25 = .ok (.iload_n 1, 1) := by decide +kernel
theorem dX4_length_26 : decode cX4_length 26 = .ok (.sipush 128, 3) := by decide +kernel
theorem dX4_length_29 : decode cX4_length 29 = .ok (.if_icmp .ne 7, 3) := by decide +kernel
theorem dX4_length_32 : decode cX4_length 32 = .ok (.ldc2_w 62, 3) := by decide +kernel
theorem dX4_length_35 : decode cX4_length 35 = .ok (.lreturn, 1) := by decide +kernel
theorem dX4_length_36 : decode cX4_length 36 = .ok (.lconst 0, 1) := by decide +kernel
theorem dX4_length_37 : decode cX4_length 37 = .ok (.lstore_n 2, 1) := by decide +kernel
theorem dX4_length_38 : decode cX4_length 38 = .ok (.iconst 0, 1) := by decide +kernel
theorem dX4_length_39 : decode cX4_length 39 = .ok (.istore 4, 2) := by decide +kernel
theorem dX4_length_41 : decode cX4_length 41 = .ok (.iload 4, 2) := by decide +kernel
theorem dX4_length_43 : decode cX4_length 43 = .ok (.iload_n 1, 1) := by decide +kernel
theorem dX4_length_44 : decode cX4_length 44 = .ok (.sipush 128, 3) := by decide +kernel
theorem dX4_length_47 : decode cX4_length 47 = .ok (.isub, 1) := by decide +kernel
theorem dX4_length_48 : decode cX4_length 48 = .ok (.if_icmp .ge 56, 3) := by decide +kernel
theorem dX4_length_51 : decode cX4_length 51 = .ok (.aload_n 0, 1) := by decide +kernel
theorem dX4_length_52 : decode cX4_length 52 = .ok (.invokevirtual 40, 3) := by decide +kernel
theorem dX4_length_55 : decode cX4_length 55 = .ok (.istore 5, 2) := by decide +kernel
theorem dX4_length_57 : decode cX4_length 57 = .ok (.iload 5, 2) := by decide +kernel
theorem dX4_length_59 : decode cX4_length 59 = .ok (.ifCond .lt 20, 3) := by decide +kernel
theorem dX4_length_62 : decode cX4_length 62 = .ok (.aload_n 0, 1) := by decide +kernel
theorem dX4_length_63 : decode cX4_length 63 = .ok (.getfield 64, 3) := by decide +kernel
theorem dX4_length_66 : decode cX4_length 66 = .ok (.ifCond .eq 17, 3) := by decide +kernel
theorem dX4_length_69 : decode cX4_length 69 = .ok (.iload 4, 2) := by decide +kernel
theorem dX4_length_71 : decode cX4_length 71 = .ok (.ifCond .ne 12, 3) := by decide +kernel
theorem dX4_length_74 : decode cX4_length 74 = .ok (.iload 5, 2) := by decide +kernel
theorem dX4_length_76 : decode cX4_length 76 = .ok (.ifCond .ne 7, 3) := by decide +kernel
theorem dX4_length_79 : decode cX4_length 79 = .ok (.ldc2_w 60, 3) := by decide +kernel
theorem dX4_length_82 : decode cX4_length 82 = .ok (.lreturn, 1) := by decide +kernel
theorem dX4_length_83 : decode cX4_length 83 = .ok (.lload_n 2, 1) := by decide +kernel
theorem dX4_length_84 : decode cX4_length 84 = .ok (.bipush 8, 2) := by decide +kernel
theorem dX4_length_86 : decode cX4_length 86 = .ok (.lshl, 1) := by decide +kernel
theorem dX4_length_87 : decode cX4_length 87 = .ok (.iload 5, 2) := by decide +kernel
theorem dX4_length_89 : decode cX4_length 89 = .ok (.i2l, 1) := by decide +kernel
theorem dX4_length_90 : decode cX4_length 90 = .ok (.lor, 1) := by decide +kernel
theorem dX4_length_91 : decode cX4_length 91 = .ok (.ldc2_w 46, 3) := by decide +kernel
theorem dX4_length_94 : decode cX4_length 94 = .ok (.invokestatic 48, 3) := by decide +kernel
theorem dX4_length_97 : decode cX4_length 97 = .ok (.lstore_n 2, 1) := by decide +kernel
theorem dX4_length_98 : decode cX4_length 98 = .ok (.iinc 4 1, 3) := by decide +kernel
theorem dX4_length_101 : decode cX4_length 101 = .ok (.goto (-60), 3) := by decide +kernel
theorem dX4_length_104 : decode cX4_length 104 = .ok (.aload_n 0, 1) := by decide +kernel
theorem dX4_length_105 : decode cX4_length 105 = .ok (.getfield 64, 3) := by decide +kernel
theorem dX4_length_108 : decode cX4_length 108 = .ok (.ifCond .eq 17, 3) := by decide +kernel
theorem dX4_length_111 : decode cX4_length 111 = .ok (.lload_n 2, 1) := by decide +kernel
theorem dX4_length_112 : decode cX4_length 112 = .ok (.ldc2_w 75, 3) := by decide +kernel
theorem dX4_length_115 : decode cX4_length 115 = .ok (.lcmp, 1) := by decide +kernel
theorem dX4_length_116 : decode cX4_length 116 = .ok (.ifCond .ge 9, 3) := by decide +kernel
theorem dX4_length_119 : decode cX4_length 119 = .ok (.ldc2_w 60, 3) := by decide +kernel
theorem dX4_length_122 : decode cX4_length 122 = .ok (.goto 4, 3) := by decide +kernel
theorem dX4_length_125 : decode cX4_length 125 = .ok (.lload_n 2, 1) := by decide +kernel
theorem dX4_length_126 : decode cX4_length 126 = .ok (.lreturn, 1) := by decide +kernel
theorem dX4_open_0 : decode cX4_open 0 = .ok (.aload_n 0, 1) := by decide +kernel
theorem dX4_open_1 : decode cX4_open 1 = .ok (.getfield 34, 3) := by decide +kernel
theorem dX4_open_4 : decode cX4_open 4 = .ok (.iconst 1, 1) := by decide +kernel
theorem dX4_open_5 : decode cX4_open 5 = .ok (.iadd, 1) := by decide +kernel
theorem dX4_open_6 : decode cX4_open 6 = .ok (.iload_n 2, 1) := by decide +kernel
theorem dX4_open_7 : decode cX4_open 7 = .ok (.if_icmp .ge 43, 3) := by decide +kernel
theorem dX4_open_10 : decode cX4_open 10 = .ok (.aload_n 0, 1) := by decide +kernel
theorem dX4_open_11 : decode cX4_open 11 = .ok (.getfield 7, 3) := by decide +kernel
theorem dX4_open_14 : decode cX4_open 14 = .ok (.aload_n 0, 1) := by decide +kernel
theorem dX4_open_15 : decode cX4_open 15 = .ok (.getfield 34, 3) := by decide +kernel
theorem dX4_open_18 : decode cX4_open 18 = .ok (.baload, 1) := by decide +kernel
theorem dX4_open_19 : decode cX4_open 19 = .ok (.ifCond .ne 17, 3) := by decide +kernel
theorem dX4_open_22 : decode cX4_open 22 = .ok (.aload_n 0, 1) := by decide +kernel
theorem dX4_open_23 : decode cX4_open 23 = .ok (.getfield 7, 3) := by decide +kernel
theorem dX4_open_26 : decode cX4_open 26 = .ok (.aload_n 0, 1) := by decide +kernel
theorem dX4_open_27 : decode cX4_open 27 = .ok (.getfield 34, 3) := by decide +kernel
theorem dX4_open_30 : decode cX4_open 30 = .ok (.iconst 1, 1) := by decide +kernel
theorem dX4_open_31 : decode cX4_open 31 = .ok (.iadd, 1) := by decide +kernel
theorem dX4_open_32 : decode cX4_open 32 = .ok (.baload, 1) := by decide +kernel
theorem dX4_open_33 : decode cX4_open 33 = .ok (.ifCond .eq 17, 3) := by decide +kernel
theorem dX4_open_36 : decode cX4_open 36 = .ok (.aload_n 0, 1) := by decide +kernel
theorem dX4_open_37 : decode cX4_open 37 = .ok (.iload_n 2, 1) := by decide +kernel
theorem dX4_open_38 : decode cX4_open 38 = .ok (.iload_n 1, 1) := by decide +kernel
theorem dX4_open_39 : decode cX4_open 39 = .ok (.iload_n 3, 1) := by decide +kernel
theorem dX4_open_40 : decode cX4_open 40 = .ok (.iconst 1, 1) := by decide +kernel
theorem dX4_open_41 : decode cX4_open 41 = .ok (.iadd, 1) := by decide +kernel
theorem dX4_open_42 : decode cX4_open 42 = .ok (.invokevirtual 72, 3) := by decide +kernel
theorem dX4_open_45 : decode cX4_open 45 = .ok (.ifCond .ne (-45), 3) := by decide +kernel
theorem dX4_open_48 : decode cX4_open 48 = .ok (.iconst 0, 1) := by decide +kernel
theorem dX4_open_49 : decode cX4_open 49 = .ok (.ireturn, 1) := by decide +kernel
theorem dX4_open_50 : decode cX4_open 50 = .ok (.aload_n 0, 1) := by decide +kernel
theorem dX4_open_51 : decode cX4_open 51 = .ok (.getfield 20, 3) := by decide +kernel
theorem dX4_open_54 : decode cX4_open 54 = .ok (.bipush 8, 2) := by decide +kernel
theorem dX4_open_56 : decode cX4_open 56 = .ok (.iload_n 1, 1) := by decide +kernel
theorem dX4_open_57 : decode cX4_open 57 = .ok (.imul, 1) := by decide +kernel
theorem dX4_open_58 : decode cX4_open 58 = .ok (.iconst 5, 1) := by decide +kernel
theorem dX4_open_59 : decode cX4_open 59 = .ok (.iadd, 1) := by decide +kernel
theorem dX4_open_60 : decode cX4_open 60 = .ok (.aload_n 0, 1) := by decide +kernel
theorem dX4_open_61 : decode cX4_open 61 = .ok (.getfield 34, 3) := by decide +kernel
theorem dX4_open_64 : decode cX4_open 64 = .ok (.aload_n 0, 1) := by decide +kernel
theorem dX4_open_65 : decode cX4_open 65 = .ok (.getfield 20, 3) := by decide +kernel
theorem dX4_open_68 : decode cX4_open 68 = .ok (.bipush 8, 2) := by decide +kernel
theorem dX4_open_70 : decode cX4_open 70 = .ok (.iload_n 1, 1) := by decide +kernel
theorem dX4_open_71 : decode cX4_open 71 = .ok (.imul, 1) := by decide +kernel
theorem dX4_open_72 : decode cX4_open 72 = .ok (.iconst 4, 1) := by decide +kernel
theorem dX4_open_73 : decode cX4_open 73 = .ok (.iadd, 1) := by decide +kernel
theorem dX4_open_74 : decode cX4_open 74 = .ok (.iaload, 1) := by decide +kernel
theorem dX4_open_75 : decode cX4_open 75 = .ok (.isub, 1) := by decide +kernel
theorem dX4_open_76 : decode cX4_open 76 = .ok (.iastore, 1) := by decide +kernel
theorem dX4_open_77 : decode cX4_open 77 = .ok (.aload_n 0, 1) := by decide +kernel
theorem dX4_open_78 : decode cX4_open 78 = .ok (.dup, 1) := by decide +kernel
theorem dX4_open_79 : decode cX4_open 79 = .ok (.getfield 34, 3) := by decide +kernel
theorem dX4_open_82 : decode cX4_open 82 = .ok (.iconst 2, 1) := by decide +kernel
theorem dX4_open_83 : decode cX4_open 83 = .ok (.iadd, 1) := by decide +kernel
theorem dX4_open_84 : decode cX4_open 84 = .ok (.putfield 34, 3) := by decide +kernel
theorem dX4_open_87 : decode cX4_open 87 = .ok (.aload_n 0, 1) := by decide +kernel
theorem dX4_open_88 : decode cX4_open 88 = .ok (.getfield 34, 3) := by decide +kernel
theorem dX4_open_91 : decode cX4_open 91 = .ok (.iload_n 2, 1) := by decide +kernel
theorem dX4_open_92 : decode cX4_open 92 = .ok (.if_icmp .gt 7, 3) := by decide +kernel
theorem dX4_open_95 : decode cX4_open 95 = .ok (.iconst 1, 1) := by decide +kernel
theorem dX4_open_96 : decode cX4_open 96 = .ok (.goto 4, 3) := by decide +kernel
theorem dX4_open_99 : decode cX4_open 99 = .ok (.iconst 0, 1) := by decide +kernel
theorem dX4_open_100 : decode cX4_open 100 = .ok (.ireturn, 1) := by decide +kernel
theorem dX4_node_0 : decode cX4_node 0 = .ok (.aload_n 0, 1) := by decide +kernel
theorem dX4_node_1 : decode cX4_node 1 = .ok (.iconst 0, 1) := by decide +kernel
theorem dX4_node_2 : decode cX4_node 2 = .ok (.putfield 23, 3) := by decide +kernel
theorem dX4_node_5 : decode cX4_node 5 = .ok (.aload_n 0, 1) := by decide +kernel
theorem dX4_node_6 : decode cX4_node 6 = .ok (.iload_n 1, 1) := by decide +kernel
theorem dX4_node_7 : decode cX4_node 7 = .ok (.invokevirtual 80, 3) := by decide +kernel
theorem dX4_node_10 : decode cX4_node 10 = .ok (.ifCond .ne 13, 3) := by decide +kernel
theorem dX4_node_13 : decode cX4_node 13 = .ok (.iload_n 2, 1) := by decide +kernel
theorem dX4_node_14 : decode cX4_node 14 = .ok (.ifCond .lt 9, 3) := by decide +kernel
theorem dX4_node_17 : decode cX4_node 17 = .ok (.iload_n 2, 1) := by decide +kernel
theorem dX4_node_18 : decode cX4_node 18 = .ok (.bipush 7, 2) := by decide +kernel
theorem dX4_node_20 : decode cX4_node 20 = .ok (.if_icmp .le 11, 3) := by decide +kernel
theorem dX4_node_23 : decode cX4_node 23 = .ok (.aload_n 0, 1) := by decide +kernel
theorem dX4_node_24 : decode cX4_node 24 = .ok (.iconst 1, 1) := by decide +kernel
theorem dX4_node_25 : decode cX4_node 25 = .ok (.invokevirtual 30, 3) := by decide +kernel
theorem dX4_node_28 : decode cX4_node 28 = .ok (.goto 14, 3) := by decide +kernel
theorem dX4_node_31 : decode cX4_node 31 = .ok (.aload_n 0, 1) := by decide +kernel
theorem dX4_node_32 : decode cX4_node 32 = .ok (.getfield 16, 3) := by decide +kernel
theorem dX4_node_35 : decode cX4_node 35 = .ok (.bipush 8, 2) := by decide +kernel
theorem dX4_node_37 : decode cX4_node 37 = .ok (.iload_n 1, 1) := by decide +kernel
theorem dX4_node_38 : decode cX4_node 38 = .ok (.imul, 1) := by decide +kernel
theorem dX4_node_39 : decode cX4_node 39 = .ok (.iload_n 2, 1) := by decide +kernel
theorem dX4_node_40 : decode cX4_node 40 = .ok (.iadd, 1) := by decide +kernel
theorem dX4_node_41 : decode cX4_node 41 = .ok (.iaload, 1) := by decide +kernel
theorem dX4_node_42 : decode cX4_node 42 = .ok (.ireturn, 1) := by decide +kernel
theorem dX4_out_0 : decode cX4_out 0 = .ok (.iload_n 1, 1) := by decide +kernel
theorem dX4_out_1 : decode cX4_out 1 = .ok (.ifCond .lt 11, 3) := by decide +kernel
theorem dX4_out_4 : decode cX4_out 4 = .ok (.iload_n 1, 1) := by decide +kernel
theorem dX4_out_5 : decode cX4_out 5 = .ok (.aload_n 0, 1) := by decide +kernel
theorem dX4_out_6 : decode cX4_out 6 = .ok (.getfield 77, 3) := by decide +kernel
theorem dX4_out_9 : decode cX4_out 9 = .ok (.if_icmp .lt 7, 3) := by decide +kernel
theorem dX4_out_12 : decode cX4_out 12 = .ok (.iconst 1, 1) := by decide +kernel
theorem dX4_out_13 : decode cX4_out 13 = .ok (.goto 4, 3) := by decide +kernel
theorem dX4_out_16 : decode cX4_out 16 = .ok (.iconst 0, 1) := by decide +kernel
theorem dX4_out_17 : decode cX4_out 17 = .ok (.ireturn, 1) := by decide +kernel
theorem dX4_number_0 : decode cX4_number 0 = .ok (.aload_n 0, 1) := by decide +kernel
theorem dX4_number_1 : decode cX4_number 1 = .ok (.iconst 0, 1) := by decide +kernel
theorem dX4_number_2 : decode cX4_number 2 = .ok (.putfield 23, 3) := by decide +kernel
theorem dX4_number_5 : decode cX4_number 5 = .ok (.aload_n 0, 1) := by decide +kernel
theorem dX4_number_6 : decode cX4_number 6 = .ok (.iload_n 1, 1) := by decide +kernel
theorem dX4_number_7 : decode cX4_number 7 = .ok (.invokevirtual 80, 3) := by decide +kernel
theorem dX4_number_10 : decode cX4_number 10 = .ok (.ifCond .eq 10, 3) := by decide +kernel
theorem dX4_number_13 : decode cX4_number 13 = .ok (.aload_n 0, 1) := by decide +kernel
theorem dX4_number_14 : decode cX4_number 14 = .ok (.iconst 1, 1) := by decide +kernel
theorem dX4_number_15 : decode cX4_number 15 = .ok (.invokevirtual 30, 3) := by decide +kernel
theorem dX4_number_18 : decode cX4_number 18 = .ok (.i2l, 1) := by decide +kernel
theorem dX4_number_19 : decode cX4_number 19 = .ok (.lreturn, 1) := by decide +kernel
theorem dX4_number_20 : decode cX4_number 20 = .ok (.aload_n 0, 1) := by decide +kernel
theorem dX4_number_21 : decode cX4_number 21 = .ok (.getfield 16, 3) := by decide +kernel
theorem dX4_number_24 : decode cX4_number 24 = .ok (.bipush 8, 2) := by decide +kernel
theorem dX4_number_26 : decode cX4_number 26 = .ok (.iload_n 1, 1) := by decide +kernel
theorem dX4_number_27 : decode cX4_number 27 = .ok (.imul, 1) := by decide +kernel
theorem dX4_number_28 : decode cX4_number 28 = .ok (.iconst 2, 1) := by decide +kernel
theorem dX4_number_29 : decode cX4_number 29 = .ok (.iadd, 1) := by decide +kernel
theorem dX4_number_30 : decode cX4_number 30 = .ok (.iaload, 1) := by decide +kernel
theorem dX4_number_31 : decode cX4_number 31 = .ok (.iconst 1, 1) := by decide +kernel
theorem dX4_number_32 : decode cX4_number 32 = .ok (.if_icmp .ne 10, 3) := by decide +kernel
theorem dX4_number_35 : decode cX4_number 35 = .ok (.aload_n 0, 1) := by decide +kernel
theorem dX4_number_36 : decode cX4_number 36 = .ok (.iconst 2, 1) := by decide +kernel
theorem dX4_number_37 : decode cX4_number 37 = .ok (.invokevirtual 30, 3) := by decide +kernel
theorem dX4_number_40 : decode cX4_number 40 = .ok (.i2l, 1) := by decide +kernel
theorem dX4_number_41 : decode cX4_number 41 = .ok (.lreturn, 1) := by decide +kernel
theorem dX4_number_42 : decode cX4_number 42 = .ok (.aload_n 0, 1) := by decide +kernel
theorem dX4_number_43 : decode cX4_number 43 = .ok (.getfield 16, 3) := by decide +kernel
theorem dX4_number_46 : decode cX4_number 46 = .ok (.bipush 8, 2) := by decide +kernel
theorem dX4_number_48 : decode cX4_number 48 = .ok (.iload_n 1, 1) := by decide +kernel
theorem dX4_number_49 : decode cX4_number 49 = .ok (.imul, 1) := by decide +kernel
theorem dX4_number_50 : decode cX4_number 50 = .ok (.iconst 4, 1) := by decide +kernel
theorem dX4_number_51 : decode cX4_number 51 = .ok (.iadd, 1) := by decide +kernel
theorem dX4_number_52 : decode cX4_number 52 = .ok (.iaload, 1) := by decide +kernel
theorem dX4_number_53 : decode cX4_number 53 = .ok (.istore_n 2, 1) := by decide +kernel
theorem dX4_number_54 : decode cX4_number 54 = .ok (.aload_n 0, 1) := by decide +kernel
theorem dX4_number_55 : decode cX4_number 55 = .ok (.getfield 16, 3) := by decide +kernel
theorem dX4_number_58 : decode cX4_number 58 = .ok (.bipush 8, 2) := by decide +kernel
theorem dX4_number_60 : decode cX4_number 60 = .ok (.iload_n 1, 1) := by decide +kernel
theorem dX4_number_61 : decode cX4_number 61 = .ok (.imul, 1) := by decide +kernel
theorem dX4_number_62 : decode cX4_number 62 = .ok (.iconst 5, 1) := by decide +kernel
theorem dX4_number_63 : decode cX4_number 63 = .ok (.iadd, 1) := by decide +kernel
theorem dX4_number_64 : decode cX4_number 64 = .ok (.iaload, 1) := by decide +kernel
theorem dX4_number_65 : decode cX4_number 65 = .ok (.istore_n 3, 1) := by decide +kernel
theorem dX4_number_66 : decode cX4_number 66 = .ok (.iload_n 3, 1) := by decide +kernel
theorem dX4_number_67 : decode cX4_number 67 = .ok (.iconst 1, 1) := by decide +kernel
theorem dX4_number_68 : decode cX4_number 68 = .ok (.if_icmp .lt 9, 3) := by decide +kernel
theorem dX4_number_71 : decode cX4_number 71 = .ok (.iload_n 3, 1) := by decide +kernel
theorem dX4_number_72 : decode cX4_number 72 = .ok (.bipush 8, 2) := by decide +kernel
theorem dX4_number_74 : decode cX4_number 74 = .ok (.if_icmp .le 10, 3) := by decide +kernel
theorem dX4_number_77 : decode cX4_number 77 = .ok (.aload_n 0, 1) := by decide +kernel
theorem dX4_number_78 : decode cX4_number 78 = .ok (.iconst 3, 1) := by decide +kernel
theorem dX4_number_79 : decode cX4_number 79 = .ok (.invokevirtual 30, 3) := by decide +kernel
theorem dX4_number_82 : decode cX4_number 82 = .ok (.i2l, 1) := by decide +kernel
theorem dX4_number_83 : decode cX4_number 83 = .ok (.lreturn, 1) := by decide +kernel
theorem dX4_number_84 : decode cX4_number 84 = .ok (.iload_n 3, 1) := by decide +kernel
theorem dX4_number_85 : decode cX4_number 85 = .ok (.iconst 1, 1) := by decide +kernel
theorem dX4_number_86 : decode cX4_number 86 = .ok (.if_icmp .le 51, 3) := by decide +kernel
theorem dX4_number_89 : decode cX4_number 89 = .ok (.aload_n 0, 1) := by decide +kernel
theorem dX4_number_90 : decode cX4_number 90 = .ok (.getfield 13, 3) := by decide +kernel
theorem dX4_number_93 : decode cX4_number 93 = .ok (.iload_n 2, 1) := by decide +kernel
theorem dX4_number_94 : decode cX4_number 94 = .ok (.baload, 1) := by decide +kernel
theorem dX4_number_95 : decode cX4_number 95 = .ok (.ifCond .ne 14, 3) := by decide +kernel
theorem dX4_number_98 : decode cX4_number 98 = .ok (.aload_n 0, 1) := by decide +kernel
theorem dX4_number_99 : decode cX4_number 99 = .ok (.getfield 13, 3) := by decide +kernel
theorem dX4_number_102 : decode cX4_number 102 = .ok (.iload_n 2, 1) := by decide +kernel
theorem dX4_number_103 : decode cX4_number 103 = .ok (.iconst 1, 1) := by decide +kernel
theorem dX4_number_104 : decode cX4_number 104 = .ok (.iadd, 1) := by decide +kernel
theorem dX4_number_105 : decode cX4_number 105 = .ok (.baload, 1) := by decide +kernel
theorem dX4_number_106 : decode cX4_number 106 = .ok (.ifCond .ge 24, 3) := by decide +kernel
theorem dX4_number_109 : decode cX4_number 109 = .ok (.aload_n 0, 1) := by decide +kernel
theorem dX4_number_110 : decode cX4_number 110 = .ok (.getfield 13, 3) := by decide +kernel
theorem dX4_number_113 : decode cX4_number 113 = .ok (.iload_n 2, 1) := by decide +kernel
theorem dX4_number_114 : decode cX4_number 114 = .ok (.baload, 1) := by decide +kernel
theorem dX4_number_115 : decode cX4_number 115 = .ok (.iconst (-1), 1) := by decide +kernel
theorem dX4_number_116 : decode cX4_number 116 = .ok (.if_icmp .ne 21, 3) := by decide +kernel
theorem dX4_number_119 : decode cX4_number 119 = .ok (.aload_n 0, 1) := by decide +kernel
theorem dX4_number_120 : decode cX4_number 120 = .ok (.getfield 13, 3) := by decide +kernel
theorem dX4_number_123 : decode cX4_number 123 = .ok (.iload_n 2, 1) := by decide +kernel
theorem dX4_number_124 : decode cX4_number 124 = .ok (.iconst 1, 1) := by decide +kernel
theorem dX4_number_125 : decode cX4_number 125 = .ok (.iadd, 1) := by decide +kernel
theorem dX4_number_126 : decode cX4_number 126 = .ok (.baload, 1) := by decide +kernel
theorem dX4_number_127 : decode cX4_number 127 = .ok (.ifCond .ge 10, 3) := by decide +kernel
theorem dX4_number_130 : decode cX4_number 130 = .ok (.aload_n 0, 1) := by decide +kernel
theorem dX4_number_131 : decode cX4_number 131 = .ok (.iconst 3, 1) := by decide +kernel
theorem dX4_number_132 : decode cX4_number 132 = .ok (.invokevirtual 30, 3) := by decide +kernel
theorem dX4_number_135 : decode cX4_number 135 = .ok (.i2l, 1) := by decide +kernel
theorem dX4_number_136 : decode cX4_number 136 = .ok (.lreturn, 1) := by decide +kernel
theorem dX4_number_137 : decode cX4_number 137 = .ok (.aload_n 0, 1) := by decide +kernel
theorem dX4_number_138 : decode cX4_number 138 = .ok (.getfield 13, 3) := by decide +kernel
theorem dX4_number_141 : decode cX4_number 141 = .ok (.iload_n 2, 1) := by decide +kernel
theorem dX4_number_142 : decode cX4_number 142 = .ok (.baload, 1) := by decide +kernel
theorem dX4_number_143 : decode cX4_number 143 = .ok (.i2l, 1) := by decide +kernel
theorem dX4_number_144 : decode cX4_number 144 = .ok (.lstore 4, 2) := by decide +kernel
theorem dX4_number_146 : decode cX4_number 146 = .ok (.iconst 1, 1) := by decide +kernel
theorem dX4_number_147 : decode cX4_number 147 = .ok (.istore 6, 2) := by decide +kernel
theorem dX4_number_149 : decode cX4_number 149 = .ok (.iload 6, 2) := by decide +kernel
theorem dX4_number_151 : decode cX4_number 151 = .ok (.iload_n 3, 1) := by decide +kernel
theorem dX4_number_152 : decode cX4_number 152 = .ok (.if_icmp .ge 31, 3) := by decide +kernel
theorem dX4_number_155 : decode cX4_number 155 = .ok (.lload 4, 2) := by decide +kernel
theorem dX4_number_157 : decode cX4_number 157 = .ok (.bipush 8, 2) := by decide +kernel
theorem dX4_number_159 : decode cX4_number 159 = .ok (.lshl, 1) := by decide +kernel
theorem dX4_number_160 : decode cX4_number 160 = .ok (.aload_n 0, 1) := by decide +kernel
theorem dX4_number_161 : decode cX4_number 161 = .ok (.getfield 13, 3) := by decide +kernel
theorem dX4_number_164 : decode cX4_number 164 = .ok (.iload_n 2, 1) := by decide +kernel
theorem dX4_number_165 : decode cX4_number 165 = .ok (.iload 6, 2) := by decide +kernel
theorem dX4_number_167 : decode cX4_number 167 = .ok (.iadd, 1) := by decide +kernel
theorem dX4_number_168 : decode cX4_number 168 = .ok (.baload, 1) := by decide +kernel
theorem dX4_number_169 : decode cX4_number 169 = .ok (.sipush 255, 3) := by decide +kernel
theorem dX4_number_172 : decode cX4_number 172 = .ok (.iand, 1) := by decide +kernel
theorem dX4_number_173 : decode cX4_number 173 = .ok (.i2l, 1) := by decide +kernel
theorem dX4_number_174 : decode cX4_number 174 = .ok (.lor, 1) := by decide +kernel
theorem dX4_number_175 : decode cX4_number 175 = .ok (.lstore 4, 2) := by decide +kernel
theorem dX4_number_177 : decode cX4_number 177 = .ok (.iinc 6 1, 3) := by decide +kernel
theorem dX4_number_180 : decode cX4_number 180 = .ok (.goto (-31), 3) := by decide +kernel
theorem dX4_number_183 : decode cX4_number 183 = .ok (.lload 4, 2) := by decide +kernel
theorem dX4_number_185 : decode cX4_number 185 = .ok (.lreturn, 1) := by decide +kernel
theorem dX4_wrap_0 : decode cX4_wrap 0 = .ok (.aload_n 0, 1) := by decide +kernel
theorem dX4_wrap_1 : decode cX4_wrap 1 = .ok (.iconst 0, 1) := by decide +kernel
theorem dX4_wrap_2 : decode cX4_wrap 2 = .ok (.putfield 23, 3) := by decide +kernel
theorem dX4_wrap_5 : decode cX4_wrap 5 = .ok (.iload_n 1, 1) := by decide +kernel
theorem dX4_wrap_6 : decode cX4_wrap 6 = .ok (.ifCond .lt 12, 3) := by decide +kernel
theorem dX4_wrap_9 : decode cX4_wrap 9 = .ok (.iload_n 1, 1) := by decide +kernel
theorem dX4_wrap_10 : decode cX4_wrap 10 = .ok (.iconst 3, 1) := by decide +kernel
theorem dX4_wrap_11 : decode cX4_wrap 11 = .ok (.if_icmp .gt 7, 3) := by decide +kernel
theorem dX4_wrap_14 : decode cX4_wrap 14 = .ok (.iload_n 2, 1) := by decide +kernel
theorem dX4_wrap_15 : decode cX4_wrap 15 = .ok (.ifCond .ge 9, 3) := by decide +kernel
theorem dX4_wrap_18 : decode cX4_wrap 18 = .ok (.aload_n 0, 1) := by decide +kernel
theorem dX4_wrap_19 : decode cX4_wrap 19 = .ok (.iconst 1, 1) := by decide +kernel
theorem dX4_wrap_20 : decode cX4_wrap 20 = .ok (.invokevirtual 30, 3) := by decide +kernel
theorem dX4_wrap_23 : decode cX4_wrap 23 = .ok (.ireturn, 1) := by decide +kernel
theorem dX4_wrap_24 : decode cX4_wrap 24 = .ok (.aload_n 0, 1) := by decide +kernel
theorem dX4_wrap_25 : decode cX4_wrap 25 = .ok (.iload_n 2, 1) := by decide +kernel
theorem dX4_wrap_26 : decode cX4_wrap 26 = .ok (.aload_n 0, 1) := by decide +kernel
theorem dX4_wrap_27 : decode cX4_wrap 27 = .ok (.getfield 27, 3) := by decide +kernel
theorem dX4_wrap_30 : decode cX4_wrap 30 = .ok (.invokevirtual 84, 3) := by decide +kernel
theorem dX4_wrap_33 : decode cX4_wrap 33 = .ok (.istore 4, 2) := by decide +kernel
theorem dX4_wrap_35 : decode cX4_wrap 35 = .ok (.aload_n 0, 1) := by decide +kernel
theorem dX4_wrap_36 : decode cX4_wrap 36 = .ok (.getfield 27, 3) := by decide +kernel
theorem dX4_wrap_39 : decode cX4_wrap 39 = .ok (.iload 4, 2) := by decide +kernel
theorem dX4_wrap_41 : decode cX4_wrap 41 = .ok (.iadd, 1) := by decide +kernel
theorem dX4_wrap_42 : decode cX4_wrap 42 = .ok (.sipush 4096, 3) := by decide +kernel
theorem dX4_wrap_45 : decode cX4_wrap 45 = .ok (.if_icmp .le 9, 3) := by decide +kernel
theorem dX4_wrap_48 : decode cX4_wrap 48 = .ok (.aload_n 0, 1) := by decide +kernel
theorem dX4_wrap_49 : decode cX4_wrap 49 = .ok (.iconst 2, 1) := by decide +kernel
theorem dX4_wrap_50 : decode cX4_wrap 50 = .ok (.invokevirtual 30, 3) := by decide +kernel
theorem dX4_wrap_53 : decode cX4_wrap 53 = .ok (.ireturn, 1) := by decide +kernel
theorem dX4_wrap_54 : decode cX4_wrap 54 = .ok (.aload_n 0, 1) := by decide +kernel
theorem dX4_wrap_55 : decode cX4_wrap 55 = .ok (.getfield 27, 3) := by decide +kernel
theorem dX4_wrap_58 : decode cX4_wrap 58 = .ok (.iconst 1, 1) := by decide +kernel
theorem dX4_wrap_59 : decode cX4_wrap 59 = .ok (.isub, 1) := by decide +kernel
theorem dX4_wrap_60 : decode cX4_wrap 60 = .ok (.istore 5, 2) := by decide +kernel
theorem dX4_wrap_62 : decode cX4_wrap 62 = .ok (.iload 5, 2) := by decide +kernel
theorem dX4_wrap_64 : decode cX4_wrap 64 = .ok (.ifCond .lt 26, 3) := by decide +kernel
theorem dX4_wrap_67 : decode cX4_wrap 67 = .ok (.aload_n 0, 1) := by decide +kernel
theorem dX4_wrap_68 : decode cX4_wrap 68 = .ok (.getfield 7, 3) := by decide +kernel
theorem dX4_wrap_71 : decode cX4_wrap 71 = .ok (.iload 5, 2) := by decide +kernel
theorem dX4_wrap_73 : decode cX4_wrap 73 = .ok (.iload 4, 2) := by decide +kernel
theorem dX4_wrap_75 : decode cX4_wrap 75 = .ok (.iadd, 1) := by decide +kernel
theorem dX4_wrap_76 : decode cX4_wrap 76 = .ok (.aload_n 0, 1) := by decide +kernel
theorem dX4_wrap_77 : decode cX4_wrap 77 = .ok (.getfield 7, 3) := by decide +kernel
theorem dX4_wrap_80 : decode cX4_wrap 80 = .ok (.iload 5, 2) := by decide +kernel
theorem dX4_wrap_82 : decode cX4_wrap 82 = .ok (.baload, 1) := by decide +kernel
theorem dX4_wrap_83 : decode cX4_wrap 83 = .ok (.bastore, 1) := by decide +kernel
theorem dX4_wrap_84 : decode cX4_wrap 84 = .ok (.iinc 5 (-1), 3) := by decide +kernel
theorem dX4_wrap_87 : decode cX4_wrap 87 = .ok (.goto (-25), 3) := by decide +kernel
theorem dX4_wrap_90 : decode cX4_wrap 90 = .ok (.aload_n 0, 1) := by decide +kernel
theorem dX4_wrap_91 : decode cX4_wrap 91 = .ok (.iconst 0, 1) := by decide +kernel
theorem dX4_wrap_92 : decode cX4_wrap 92 = .ok (.iload_n 1, 1) := by decide +kernel
theorem dX4_wrap_93 : decode cX4_wrap 93 = .ok (.iload_n 2, 1) := by decide +kernel
theorem dX4_wrap_94 : decode cX4_wrap 94 = .ok (.iload_n 3, 1) := by decide +kernel
theorem dX4_wrap_95 : decode cX4_wrap 95 = .ok (.aload_n 0, 1) := by decide +kernel
theorem dX4_wrap_96 : decode cX4_wrap 96 = .ok (.getfield 27, 3) := by decide +kernel
theorem dX4_wrap_99 : decode cX4_wrap 99 = .ok (.invokevirtual 88, 3) := by decide +kernel
theorem dX4_wrap_102 : decode cX4_wrap 102 = .ok (.istore 5, 2) := by decide +kernel
theorem dX4_wrap_104 : decode cX4_wrap 104 = .ok (.aload_n 0, 1) := by decide +kernel
theorem dX4_wrap_105 : decode cX4_wrap 105 = .ok (.dup, 1) := by decide +kernel
theorem dX4_wrap_106 : decode cX4_wrap 106 = .ok (.getfield 27, 3) := by decide +kernel
theorem dX4_wrap_109 : decode cX4_wrap 109 = .ok (.iload 4, 2) := by decide +kernel
theorem dX4_wrap_111 : decode cX4_wrap 111 = .ok (.iadd, 1) := by decide +kernel
theorem dX4_wrap_112 : decode cX4_wrap 112 = .ok (.putfield 27, 3) := by decide +kernel
theorem dX4_wrap_115 : decode cX4_wrap 115 = .ok (.aload_n 0, 1) := by decide +kernel
theorem dX4_wrap_116 : decode cX4_wrap 116 = .ok (.getfield 27, 3) := by decide +kernel
theorem dX4_wrap_119 : decode cX4_wrap 119 = .ok (.ireturn, 1) := by decide +kernel
theorem dX4_headSize_0 : decode cX4_headSize 0 = .ok (.iconst 2, 1) := by decide +kernel
theorem dX4_headSize_1 : decode cX4_headSize 1 = .ok (.istore_n 3, 1) := by decide +kernel
theorem dX4_headSize_2 : decode cX4_headSize 2 = .ok (.iload_n 1, 1) := by decide +kernel
theorem dX4_headSize_3 : decode cX4_headSize 3 = .ok (.bipush 30, 2) := by decide +kernel
theorem dX4_headSize_5 : decode cX4_headSize 5 = .ok (.if_icmp .le 27, 3) := by decide +kernel
theorem dX4_headSize_8 : decode cX4_headSize 8 = .ok (.iload_n 1, 1) := by decide +kernel
theorem dX4_headSize_9 : decode cX4_headSize 9 = .ok (.i2l, 1) := by decide +kernel
theorem dX4_headSize_10 : decode cX4_headSize 10 = .ok (.lstore 4, 2) := by decide +kernel
theorem dX4_headSize_12 : decode cX4_headSize 12 = .ok (.lload 4, 2) := by decide +kernel
theorem dX4_headSize_14 : decode cX4_headSize 14 = .ok (.lconst 0, 1) := by decide +kernel
theorem dX4_headSize_15 : decode cX4_headSize 15 = .ok (.lcmp, 1) := by decide +kernel
theorem dX4_headSize_16 : decode cX4_headSize 16 = .ok (.ifCond .le 16, 3) := by decide +kernel
theorem dX4_headSize_19 : decode cX4_headSize 19 = .ok (.iinc 3 1, 3) := by decide +kernel
theorem dX4_headSize_22 : decode cX4_headSize 22 = .ok (.lload 4, 2) := by decide +kernel
theorem dX4_headSize_24 : decode cX4_headSize 24 = .ok (.bipush 7, 2) := by decide +kernel
theorem dX4_headSize_26 : decode cX4_headSize 26 = .ok (.lshr, 1) := by decide +kernel
theorem dX4_headSize_27 : decode cX4_headSize 27 = .ok (.lstore 4, 2) := by decide +kernel
theorem dX4_headSize_29 : decode cX4_headSize 29 = .ok (.goto (-17), 3) := by decide +kernel
theorem dX4_headSize_32 : decode cX4_headSize 32 = .ok (.iload_n 2, 1) := by decide +kernel
theorem dX4_headSize_33 : decode cX4_headSize 33 = .ok (.bipush 127, 2) := by decide +kernel
theorem dX4_headSize_35 : decode cX4_headSize 35 = .ok (.if_icmp .le 24, 3) := by decide +kernel
theorem dX4_headSize_38 : decode cX4_headSize 38 = .ok (.iload_n 2, 1) := by decide +kernel
theorem dX4_headSize_39 : decode cX4_headSize 39 = .ok (.istore 4, 2) := by decide +kernel
theorem dX4_headSize_41 : decode cX4_headSize 41 = .ok (.iload 4, 2) := by decide +kernel
theorem dX4_headSize_43 : decode cX4_headSize 43 = .ok (.ifCond .le 16, 3) := by decide +kernel
theorem dX4_headSize_46 : decode cX4_headSize 46 = .ok (.iinc 3 1, 3) := by decide +kernel
theorem dX4_headSize_49 : decode cX4_headSize 49 = .ok (.iload 4, 2) := by decide +kernel
theorem dX4_headSize_51 : decode cX4_headSize 51 = .ok (.bipush 8, 2) := by decide +kernel
theorem dX4_headSize_53 : decode cX4_headSize 53 = .ok (.ishr, 1) := by decide +kernel
theorem dX4_headSize_54 : decode cX4_headSize 54 = .ok (.istore 4, 2) := by decide +kernel
theorem dX4_headSize_56 : decode cX4_headSize 56 = .ok (.goto (-15), 3) := by decide +kernel
theorem dX4_headSize_59 : decode cX4_headSize 59 = .ok (.iload_n 3, 1) := by decide +kernel
theorem dX4_headSize_60 : decode cX4_headSize 60 = .ok (.ireturn, 1) := by decide +kernel
theorem dX4_head_0 : decode cX4_head 0 = .ok (.iload_n 1, 1) := by decide +kernel
theorem dX4_head_1 : decode cX4_head 1 = .ok (.istore 6, 2) := by decide +kernel
theorem dX4_head_3 : decode cX4_head 3 = .ok (.iload_n 2, 1) := by decide +kernel
theorem dX4_head_4 : decode cX4_head 4 = .ok (.bipush 6, 2) := by decide +kernel
theorem dX4_head_6 : decode cX4_head 6 = .ok (.ishl, 1) := by decide +kernel
theorem dX4_head_7 : decode cX4_head 7 = .ok (.iload 4, 2) := by decide +kernel
theorem dX4_head_9 : decode cX4_head 9 = .ok (.ifCond .eq 8, 3) := by decide +kernel
theorem dX4_head_12 : decode cX4_head 12 = .ok (.bipush 32, 2) := by decide +kernel
theorem dX4_head_14 : decode cX4_head 14 = .ok (.goto 4, 3) := by decide +kernel
theorem dX4_head_17 : decode cX4_head 17 = .ok (.iconst 0, 1) := by decide +kernel
theorem dX4_head_18 : decode cX4_head 18 = .ok (.ior, 1) := by decide +kernel
theorem dX4_head_19 : decode cX4_head 19 = .ok (.istore 7, 2) := by decide +kernel
theorem dX4_head_21 : decode cX4_head 21 = .ok (.iload_n 3, 1) := by decide +kernel
theorem dX4_head_22 : decode cX4_head 22 = .ok (.bipush 31, 2) := by decide +kernel
theorem dX4_head_24 : decode cX4_head 24 = .ok (.if_icmp .ge 21, 3) := by decide +kernel
theorem dX4_head_27 : decode cX4_head 27 = .ok (.aload_n 0, 1) := by decide +kernel
theorem dX4_head_28 : decode cX4_head 28 = .ok (.getfield 7, 3) := by decide +kernel
theorem dX4_head_31 : decode cX4_head 31 = .ok (.iload 6, 2) := by decide +kernel
theorem dX4_head_33 : decode cX4_head 33 = .ok (.iinc 6 1, 3) := by decide +kernel
theorem dX4_head_36 : decode cX4_head 36 = .ok (.iload 7, 2) := by decide +kernel
theorem dX4_head_38 : decode cX4_head 38 = .ok (.iload_n 3, 1) := by decide +kernel
theorem dX4_head_39 : decode cX4_head 39 = .ok (.ior, 1) := by decide +kernel
theorem dX4_head_40 : decode cX4_head 40 = .ok (.i2b, 1) := by decide +kernel
theorem dX4_head_41 : decode cX4_head 41 = .ok (.bastore, 1) := by decide +kernel
theorem dX4_head_42 : decode cX4_head 42 = .ok (.goto 97, 3) := by decide +kernel
theorem dX4_head_45 : decode cX4_head 45 = .ok (.aload_n 0, 1) := by decide +kernel
theorem dX4_head_46 : decode cX4_head 46 = .ok (.getfield 7, 3) := by decide +kernel
theorem dX4_head_49 : decode cX4_head 49 = .ok (.iload 6, 2) := by decide +kernel
theorem dX4_head_51 : decode cX4_head 51 = .ok (.iinc 6 1, 3) := by decide +kernel
theorem dX4_head_54 : decode cX4_head 54 = .ok (.iload 7, 2) := by decide +kernel
theorem dX4_head_56 : decode cX4_head 56 = .ok (.bipush 31, 2) := by decide +kernel
theorem dX4_head_58 : decode cX4_head 58 = .ok (.ior, 1) := by decide +kernel
theorem dX4_head_59 : decode cX4_head 59 = .ok (.i2b, 1) := by decide +kernel
theorem dX4_head_60 : decode cX4_head 60 = .ok (.bastore, 1) := by decide +kernel
theorem dX4_head_61 : decode cX4_head 61 = .ok (.iconst 0, 1) := by decide +kernel
theorem dX4_head_62 : decode cX4_head 62 = .ok (.istore 8, 2) := by decide +kernel
theorem dX4_head_64 : decode cX4_head 64 = .ok (.iload_n 3, 1) := by decide +kernel
theorem dX4_head_65 : decode cX4_head 65 = .ok (.i2l, 1) := by decide +kernel
theorem dX4_head_66 : decode cX4_head 66 = .ok (.lstore 9, 2) := by decide +kernel
theorem dX4_head_68 : decode cX4_head 68 = .ok (.lload 9, 2) := by decide +kernel
theorem dX4_head_70 : decode cX4_head 70 = .ok (.lconst 0, 1) := by decide +kernel
theorem dX4_head_71 : decode cX4_head 71 = .ok (.lcmp, 1) := by decide +kernel
theorem dX4_head_72 : decode cX4_head 72 = .ok (.ifCond .le 16, 3) := by decide +kernel
theorem dX4_head_75 : decode cX4_head 75 = .ok (.iinc 8 1, 3) := by decide +kernel
theorem dX4_head_78 : decode cX4_head 78 = .ok (.lload 9, 2) := by decide +kernel
theorem dX4_head_80 : decode cX4_head 80 = .ok (.bipush 7, 2) := by decide +kernel
theorem dX4_head_82 : decode cX4_head 82 = .ok (.lshr, 1) := by decide +kernel
theorem dX4_head_83 : decode cX4_head 83 = .ok (.lstore 9, 2) := by decide +kernel
theorem dX4_head_85 : decode cX4_head 85 = .ok (.goto (-17), 3) := by decide +kernel
theorem dX4_head_88 : decode cX4_head 88 = .ok (.iload 8, 2) := by decide +kernel
theorem dX4_head_90 : decode cX4_head 90 = .ok (.iconst 1, 1) := by decide +kernel
theorem dX4_head_91 : decode cX4_head 91 = .ok (.isub, 1) := by decide +kernel
theorem dX4_head_92 : decode cX4_head 92 = .ok (.istore 9, 2) := by decide +kernel
theorem dX4_head_94 : decode cX4_head 94 = .ok (.iload 9, 2) := by decide +kernel
theorem dX4_head_96 : decode cX4_head 96 = .ok (.ifCond .lt 43, 3) := by decide +kernel
theorem dX4_head_99 : decode cX4_head 99 = .ok (.aload_n 0, 1) := by decide +kernel
theorem dX4_head_100 : decode cX4_head 100 = .ok (.getfield 7, 3) := by decide +kernel
theorem dX4_head_103 : decode cX4_head 103 = .ok (.iload 6, 2) := by decide +kernel
theorem dX4_head_105 : decode cX4_head 105 = .ok (.iinc 6 1, 3) := by decide +kernel
theorem dX4_head_108 : decode cX4_head 108 = .ok (.iload_n 3, 1) := by decide +kernel
theorem dX4_head_109 : decode cX4_head 109 = .ok (.bipush 7, 2) := by decide +kernel
theorem dX4_head_111 : decode cX4_head 111 = .ok (.iload 9, 2) := by decide +kernel
theorem dX4_head_113 : decode cX4_head 113 = .ok (.imul, 1) := by decide +kernel
theorem dX4_head_114 : decode cX4_head 114 = .ok (.ishr, 1) := by decide +kernel
theorem dX4_head_115 : decode cX4_head 115 = .ok (.bipush 127, 2) := by decide +kernel
theorem dX4_head_117 : decode cX4_head 117 = .ok (.iand, 1) := by decide +kernel
theorem dX4_head_118 : decode cX4_head 118 = .ok (.iload 9, 2) := by decide +kernel
theorem dX4_head_120 : decode cX4_head 120 = .ok (.ifCond .le 9, 3) := by decide +kernel
theorem dX4_head_123 : decode cX4_head 123 = .ok (.sipush 128, 3) := by decide +kernel
theorem dX4_head_126 : decode cX4_head 126 = .ok (.goto 4, 3) := by decide +kernel
theorem dX4_head_129 : decode cX4_head 129 = .ok (.iconst 0, 1) := by decide +kernel
theorem dX4_head_130 : decode cX4_head 130 = .ok (.ior, 1) := by decide +kernel
theorem dX4_head_131 : decode cX4_head 131 = .ok (.i2b, 1) := by decide +kernel
theorem dX4_head_132 : decode cX4_head 132 = .ok (.bastore, 1) := by decide +kernel
theorem dX4_head_133 : decode cX4_head 133 = .ok (.iinc 9 (-1), 3) := by decide +kernel
theorem dX4_head_136 : decode cX4_head 136 = .ok (.goto (-42), 3) := by decide +kernel
theorem dX4_head_139 : decode cX4_head 139 = .ok (.iload 5, 2) := by decide +kernel
theorem dX4_head_141 : decode cX4_head 141 = .ok (.sipush 128, 3) := by decide +kernel
theorem dX4_head_144 : decode cX4_head 144 = .ok (.if_icmp .ge 19, 3) := by decide +kernel
theorem dX4_head_147 : decode cX4_head 147 = .ok (.aload_n 0, 1) := by decide +kernel
theorem dX4_head_148 : decode cX4_head 148 = .ok (.getfield 7, 3) := by decide +kernel
theorem dX4_head_151 : decode cX4_head 151 = .ok (.iload 6, 2) := by decide +kernel
theorem dX4_head_153 : decode cX4_head 153 = .ok (.iinc 6 1, 3) := by decide +kernel
theorem dX4_head_156 : decode cX4_head 156 = .ok (.iload 5, 2) := by decide +kernel
theorem dX4_head_158 : decode cX4_head 158 = .ok (.i2b, 1) := by decide +kernel
theorem dX4_head_159 : decode cX4_head 159 = .ok (.bastore, 1) := by decide +kernel
theorem dX4_head_160 : decode cX4_head 160 = .ok (.goto 81, 3) := by decide +kernel
theorem dX4_head_163 : decode cX4_head 163 = .ok (.iconst 0, 1) := by decide +kernel
theorem dX4_head_164 : decode cX4_head 164 = .ok (.istore 8, 2) := by decide +kernel
theorem dX4_head_166 : decode cX4_head 166 = .ok (.iload 5, 2) := by decide +kernel
theorem dX4_head_168 : decode cX4_head 168 = .ok (.istore 9, 2) := by decide +kernel
theorem dX4_head_170 : decode cX4_head 170 = .ok (.iload 9, 2) := by decide +kernel
theorem dX4_head_172 : decode cX4_head 172 = .ok (.ifCond .le 16, 3) := by decide +kernel
theorem dX4_head_175 : decode cX4_head 175 = .ok (.iinc 8 1, 3) := by decide +kernel
theorem dX4_head_178 : decode cX4_head 178 = .ok (.iload 9, 2) := by decide +kernel
theorem dX4_head_180 : decode cX4_head 180 = .ok (.bipush 8, 2) := by decide +kernel
theorem dX4_head_182 : decode cX4_head 182 = .ok (.ishr, 1) := by decide +kernel
theorem dX4_head_183 : decode cX4_head 183 = .ok (.istore 9, 2) := by decide +kernel
theorem dX4_head_185 : decode cX4_head 185 = .ok (.goto (-15), 3) := by decide +kernel
theorem dX4_head_188 : decode cX4_head 188 = .ok (.aload_n 0, 1) := by decide +kernel
theorem dX4_head_189 : decode cX4_head 189 = .ok (.getfield 7, 3) := by decide +kernel
theorem dX4_head_192 : decode cX4_head 192 = .ok (.iload 6, 2) := by decide +kernel
theorem dX4_head_194 : decode cX4_head 194 = .ok (.iinc 6 1, 3) := by decide +kernel
theorem dX4_head_197 : decode cX4_head 197 = .ok (.sipush 128, 3) := by decide +kernel
theorem dX4_head_200 : decode cX4_head 200 = .ok (.iload 8, 2) := by decide +kernel
theorem dX4_head_202 : decode cX4_head 202 = .ok (.iadd, 1) := by decide +kernel
theorem dX4_head_203 : decode cX4_head 203 = .ok (.i2b, 1) := by decide +kernel
theorem dX4_head_204 : decode cX4_head 204 = .ok (.bastore, 1) := by decide +kernel
theorem dX4_head_205 : decode cX4_head 205 = .ok (.iload 8, 2) := by decide +kernel
theorem dX4_head_207 : decode cX4_head 207 = .ok (.iconst 1, 1) := by decide +kernel
theorem dX4_head_208 : decode cX4_head 208 = .ok (.isub, 1) := by decide +kernel
theorem dX4_head_209 : decode cX4_head 209 = .ok (.istore 9, 2) := by decide +kernel
theorem dX4_head_211 : decode cX4_head 211 = .ok (.iload 9, 2) := by decide +kernel
theorem dX4_head_213 : decode cX4_head 213 = .ok (.ifCond .lt 28, 3) := by decide +kernel
theorem dX4_head_216 : decode cX4_head 216 = .ok (.aload_n 0, 1) := by decide +kernel
theorem dX4_head_217 : decode cX4_head 217 = .ok (.getfield 7, 3) := by decide +kernel
theorem dX4_head_220 : decode cX4_head 220 = .ok (.iload 6, 2) := by decide +kernel
theorem dX4_head_222 : decode cX4_head 222 = .ok (.iinc 6 1, 3) := by decide +kernel
theorem dX4_head_225 : decode cX4_head 225 = .ok (.iload 5, 2) := by decide +kernel
theorem dX4_head_227 : decode cX4_head 227 = .ok (.bipush 8, 2) := by decide +kernel
theorem dX4_head_229 : decode cX4_head 229 = .ok (.iload 9, 2) := by decide +kernel
theorem dX4_head_231 : decode cX4_head 231 = .ok (.imul, 1) := by decide +kernel
theorem dX4_head_232 : decode cX4_head 232 = .ok (.ishr, 1) := by decide +kernel
theorem dX4_head_233 : decode cX4_head 233 = .ok (.i2b, 1) := by decide +kernel
theorem dX4_head_234 : decode cX4_head 234 = .ok (.bastore, 1) := by decide +kernel
theorem dX4_head_235 : decode cX4_head 235 = .ok (.iinc 9 (-1), 3) := by decide +kernel
theorem dX4_head_238 : decode cX4_head 238 = .ok (.goto (-27), 3) := by decide +kernel
theorem dX4_head_241 : decode cX4_head 241 = .ok (.iload 6, 2) := by decide +kernel
theorem dX4_head_243 : decode cX4_head 243 = .ok (.ireturn, 1) := by decide +kernel
theorem dX4_add_0 : decode cX4_add 0 = .ok (.aload_n 0, 1) := by decide +kernel
theorem dX4_add_1 : decode cX4_add 1 = .ok (.iconst 0, 1) := by decide +kernel
theorem dX4_add_2 : decode cX4_add 2 = .ok (.putfield 23, 3) := by decide +kernel
theorem dX4_add_5 : decode cX4_add 5 = .ok (.iload_n 1, 1) := by decide +kernel
theorem dX4_add_6 : decode cX4_add 6 = .ok (.ifCond .lt 12, 3) := by decide +kernel
theorem dX4_add_9 : decode cX4_add 9 = .ok (.iload_n 1, 1) := by decide +kernel
theorem dX4_add_10 : decode cX4_add 10 = .ok (.iconst 3, 1) := by decide +kernel
theorem dX4_add_11 : decode cX4_add 11 = .ok (.if_icmp .gt 7, 3) := by decide +kernel
theorem dX4_add_14 : decode cX4_add 14 = .ok (.iload_n 2, 1) := by decide +kernel
theorem dX4_add_15 : decode cX4_add 15 = .ok (.ifCond .ge 9, 3) := by decide +kernel
theorem dX4_add_18 : decode cX4_add 18 = .ok (.aload_n 0, 1) := by decide +kernel
theorem dX4_add_19 : decode cX4_add 19 = .ok (.iconst 1, 1) := by decide +kernel
theorem dX4_add_20 : decode cX4_add 20 = .ok (.invokevirtual 30, 3) := by decide +kernel
theorem dX4_add_23 : decode cX4_add 23 = .ok (.ireturn, 1) := by decide +kernel
theorem dX4_add_24 : decode cX4_add 24 = .ok (.aload_n 0, 1) := by decide +kernel
theorem dX4_add_25 : decode cX4_add 25 = .ok (.lload_n 3, 1) := by decide +kernel
theorem dX4_add_26 : decode cX4_add 26 = .ok (.invokevirtual 92, 3) := by decide +kernel
theorem dX4_add_29 : decode cX4_add 29 = .ok (.istore 5, 2) := by decide +kernel
theorem dX4_add_31 : decode cX4_add 31 = .ok (.aload_n 0, 1) := by decide +kernel
theorem dX4_add_32 : decode cX4_add 32 = .ok (.getfield 27, 3) := by decide +kernel
theorem dX4_add_35 : decode cX4_add 35 = .ok (.aload_n 0, 1) := by decide +kernel
theorem dX4_add_36 : decode cX4_add 36 = .ok (.iload_n 2, 1) := by decide +kernel
theorem dX4_add_37 : decode cX4_add 37 = .ok (.iload 5, 2) := by decide +kernel
theorem dX4_add_39 : decode cX4_add 39 = .ok (.invokevirtual 84, 3) := by decide +kernel
theorem dX4_add_42 : decode cX4_add 42 = .ok (.iadd, 1) := by decide +kernel
theorem dX4_add_43 : decode cX4_add 43 = .ok (.iload 5, 2) := by decide +kernel
theorem dX4_add_45 : decode cX4_add 45 = .ok (.iadd, 1) := by decide +kernel
theorem dX4_add_46 : decode cX4_add 46 = .ok (.sipush 4096, 3) := by decide +kernel
theorem dX4_add_49 : decode cX4_add 49 = .ok (.if_icmp .le 9, 3) := by decide +kernel
theorem dX4_add_52 : decode cX4_add 52 = .ok (.aload_n 0, 1) := by decide +kernel
theorem dX4_add_53 : decode cX4_add 53 = .ok (.iconst 2, 1) := by decide +kernel
theorem dX4_add_54 : decode cX4_add 54 = .ok (.invokevirtual 30, 3) := by decide +kernel
theorem dX4_add_57 : decode cX4_add 57 = .ok (.ireturn, 1) := by decide +kernel
theorem dX4_add_58 : decode cX4_add 58 = .ok (.aload_n 0, 1) := by decide +kernel
theorem dX4_add_59 : decode cX4_add 59 = .ok (.aload_n 0, 1) := by decide +kernel
theorem dX4_add_60 : decode cX4_add 60 = .ok (.aload_n 0, 1) := by decide +kernel
theorem dX4_add_61 : decode cX4_add 61 = .ok (.getfield 27, 3) := by decide +kernel
theorem dX4_add_64 : decode cX4_add 64 = .ok (.iload_n 1, 1) := by decide +kernel
theorem dX4_add_65 : decode cX4_add 65 = .ok (.iload_n 2, 1) := by decide +kernel
theorem dX4_add_66 : decode cX4_add 66 = .ok (.iconst 0, 1) := by decide +kernel
theorem dX4_add_67 : decode cX4_add 67 = .ok (.iload 5, 2) := by decide +kernel
theorem dX4_add_69 : decode cX4_add 69 = .ok (.invokevirtual 88, 3) := by decide +kernel
theorem dX4_add_72 : decode cX4_add 72 = .ok (.putfield 27, 3) := by decide +kernel
theorem dX4_add_75 : decode cX4_add 75 = .ok (.iload 5, 2) := by decide +kernel
theorem dX4_add_77 : decode cX4_add 77 = .ok (.iconst 1, 1) := by decide +kernel
theorem dX4_add_78 : decode cX4_add 78 = .ok (.isub, 1) := by decide +kernel
theorem dX4_add_79 : decode cX4_add 79 = .ok (.istore 6, 2) := by decide +kernel
theorem dX4_add_81 : decode cX4_add 81 = .ok (.iload 6, 2) := by decide +kernel
theorem dX4_add_83 : decode cX4_add 83 = .ok (.ifCond .lt 34, 3) := by decide +kernel
theorem dX4_add_86 : decode cX4_add 86 = .ok (.aload_n 0, 1) := by decide +kernel
theorem dX4_add_87 : decode cX4_add 87 = .ok (.getfield 7, 3) := by decide +kernel
theorem dX4_add_90 : decode cX4_add 90 = .ok (.aload_n 0, 1) := by decide +kernel
theorem dX4_add_91 : decode cX4_add 91 = .ok (.dup, 1) := by decide +kernel
theorem dX4_add_92 : decode cX4_add 92 = .ok (.getfield 27, 3) := by decide +kernel
theorem dX4_add_95 : decode cX4_add 95 = .ok (.dup_x1, 1) := by decide +kernel
theorem dX4_add_96 : decode cX4_add 96 = .ok (.iconst 1, 1) := by decide +kernel
theorem dX4_add_97 : decode cX4_add 97 = .ok (.iadd, 1) := by decide +kernel
theorem dX4_add_98 : decode cX4_add 98 = .ok (.putfield 27, 3) := by decide +kernel
theorem dX4_add_101 : decode cX4_add 101 = .ok (.lload_n 3, 1) := by decide +kernel
theorem dX4_add_102 : decode cX4_add 102 = .ok (.bipush 8, 2) := by decide +kernel
theorem dX4_add_104 : decode cX4_add 104 = .ok (.iload 6, 2) := by decide +kernel
theorem dX4_add_106 : decode cX4_add 106 = .ok (.imul, 1) := by decide +kernel
theorem dX4_add_107 : decode cX4_add 107 = .ok (.lshr, 1) := by decide +kernel
theorem dX4_add_108 : decode cX4_add 108 = .ok (.l2i, 1) := by decide +kernel
theorem dX4_add_109 : decode cX4_add 109 = .ok (.i2b, 1) := by decide +kernel
theorem dX4_add_110 : decode cX4_add 110 = .ok (.bastore, 1) := by decide +kernel
theorem dX4_add_111 : decode cX4_add 111 = .ok (.iinc 6 (-1), 3) := by decide +kernel
theorem dX4_add_114 : decode cX4_add 114 = .ok (.goto (-33), 3) := by decide +kernel
theorem dX4_add_117 : decode cX4_add 117 = .ok (.aload_n 0, 1) := by decide +kernel
theorem dX4_add_118 : decode cX4_add 118 = .ok (.getfield 27, 3) := by decide +kernel
theorem dX4_add_121 : decode cX4_add 121 = .ok (.ireturn, 1) := by decide +kernel
theorem dX4_bytesOf_0 : decode cX4_bytesOf 0 = .ok (.iconst 1, 1) := by decide +kernel
theorem dX4_bytesOf_1 : decode cX4_bytesOf 1 = .ok (.istore_n 3, 1) := by decide +kernel
theorem dX4_bytesOf_2 : decode cX4_bytesOf 2 = .ok (.iload_n 3, 1) := by decide +kernel
theorem dX4_bytesOf_3 : decode cX4_bytesOf 3 = .ok (.bipush 8, 2) := by decide +kernel
theorem dX4_bytesOf_5 : decode cX4_bytesOf 5 = .ok (.if_icmp .ge 37, 3) := by decide +kernel
theorem dX4_bytesOf_8 : decode cX4_bytesOf 8 = .ok (.lload_n 1, 1) := by decide +kernel
theorem dX4_bytesOf_9 : decode cX4_bytesOf 9 = .ok (.bipush 8, 2) := by decide +kernel
theorem dX4_bytesOf_11 : decode cX4_bytesOf 11 = .ok (.iload_n 3, 1) := by decide +kernel
theorem dX4_bytesOf_12 : decode cX4_bytesOf 12 = .ok (.imul, 1) := by decide +kernel
theorem dX4_bytesOf_13 : decode cX4_bytesOf 13 = .ok (.iconst 1, 1) := by decide +kernel
theorem dX4_bytesOf_14 : decode cX4_bytesOf 14 = .ok (.isub, 1) := by decide +kernel
theorem dX4_bytesOf_15 : decode cX4_bytesOf 15 = .ok (.lshr, 1) := by decide +kernel
theorem dX4_bytesOf_16 : decode cX4_bytesOf 16 = .ok (.lconst 0, 1) := by decide +kernel
theorem dX4_bytesOf_17 : decode cX4_bytesOf 17 = .ok (.lcmp, 1) := by decide +kernel
theorem dX4_bytesOf_18 : decode cX4_bytesOf 18 = .ok (.ifCond .eq 24, 3) := by decide +kernel
theorem dX4_bytesOf_21 : decode cX4_bytesOf 21 = .ok (.lload_n 1, 1) := by decide +kernel
theorem dX4_bytesOf_22 : decode cX4_bytesOf 22 = .ok (.bipush 8, 2) := by decide +kernel
theorem dX4_bytesOf_24 : decode cX4_bytesOf 24 = .ok (.iload_n 3, 1) := by decide +kernel
theorem dX4_bytesOf_25 : decode cX4_bytesOf 25 = .ok (.imul, 1) := by decide +kernel
theorem dX4_bytesOf_26 : decode cX4_bytesOf 26 = .ok (.iconst 1, 1) := by decide +kernel
theorem dX4_bytesOf_27 : decode cX4_bytesOf 27 = .ok (.isub, 1) := by decide +kernel
theorem dX4_bytesOf_28 : decode cX4_bytesOf 28 = .ok (.lshr, 1) := by decide +kernel
theorem dX4_bytesOf_29 : decode cX4_bytesOf 29 = .ok (.ldc2_w 62, 3) := by decide +kernel
theorem dX4_bytesOf_32 : decode cX4_bytesOf 32 = .ok (.lcmp, 1) := by decide +kernel
theorem dX4_bytesOf_33 : decode cX4_bytesOf 33 = .ok (.ifCond .eq 9, 3) := by decide +kernel
theorem dX4_bytesOf_36 : decode cX4_bytesOf 36 = .ok (.iinc 3 1, 3) := by decide +kernel
theorem dX4_bytesOf_39 : decode cX4_bytesOf 39 = .ok (.goto (-37), 3) := by decide +kernel
theorem dX4_bytesOf_42 : decode cX4_bytesOf 42 = .ok (.iload_n 3, 1) := by decide +kernel
theorem dX4_bytesOf_43 : decode cX4_bytesOf 43 = .ok (.ireturn, 1) := by decide +kernel
theorem dX4_compare_0 : decode cX4_compare 0 = .ok (.aload_n 0, 1) := by decide +kernel
theorem dX4_compare_1 : decode cX4_compare 1 = .ok (.iconst 0, 1) := by decide +kernel
theorem dX4_compare_2 : decode cX4_compare 2 = .ok (.putfield 23, 3) := by decide +kernel
theorem dX4_compare_5 : decode cX4_compare 5 = .ok (.aload_n 0, 1) := by decide +kernel
theorem dX4_compare_6 : decode cX4_compare 6 = .ok (.iload_n 1, 1) := by decide +kernel
theorem dX4_compare_7 : decode cX4_compare 7 = .ok (.invokevirtual 80, 3) := by decide +kernel
theorem dX4_compare_10 : decode cX4_compare 10 = .ok (.ifCond .ne 11, 3) := by decide +kernel
theorem dX4_compare_13 : decode cX4_compare 13 = .ok (.aload_n 0, 1) := by decide +kernel
theorem dX4_compare_14 : decode cX4_compare 14 = .ok (.iload_n 2, 1) := by decide +kernel
theorem dX4_compare_15 : decode cX4_compare 15 = .ok (.invokevirtual 80, 3) := by decide +kernel
theorem dX4_compare_18 : decode cX4_compare 18 = .ok (.ifCond .eq 9, 3) := by decide +kernel
theorem dX4_compare_21 : decode cX4_compare 21 = .ok (.aload_n 0, 1) := by decide +kernel
theorem dX4_compare_22 : decode cX4_compare 22 = .ok (.iconst 1, 1) := by decide +kernel
theorem dX4_compare_23 : decode cX4_compare 23 = .ok (.invokevirtual 30, 3) := by decide +kernel
theorem dX4_compare_26 : decode cX4_compare 26 = .ok (.ireturn, 1) := by decide +kernel
theorem dX4_compare_27 : decode cX4_compare 27 = .ok (.iconst 0, 1) := by decide +kernel
theorem dX4_compare_28 : decode cX4_compare 28 = .ok (.istore_n 3, 1) := by decide +kernel
theorem dX4_compare_29 : decode cX4_compare 29 = .ok (.iload_n 3, 1) := by decide +kernel
theorem dX4_compare_30 : decode cX4_compare 30 = .ok (.sipush 4096, 3) := by decide +kernel
theorem dX4_compare_33 : decode cX4_compare 33 = .ok (.if_icmp .ge 115, 3) := by decide +kernel
theorem dX4_compare_36 : decode cX4_compare 36 = .ok (.iload_n 3, 1) := by decide +kernel
theorem dX4_compare_37 : decode cX4_compare 37 = .ok (.aload_n 0, 1) := by decide +kernel
theorem dX4_compare_38 : decode cX4_compare 38 = .ok (.getfield 16, 3) := by decide +kernel
theorem dX4_compare_41 : decode cX4_compare 41 = .ok (.bipush 8, 2) := by decide +kernel
theorem dX4_compare_43 : decode cX4_compare 43 = .ok (.iload_n 1, 1) := by decide +kernel
theorem dX4_compare_44 : decode cX4_compare 44 = .ok (.imul, 1) := by decide +kernel
theorem dX4_compare_45 : decode cX4_compare 45 = .ok (.iconst 5, 1) := by decide +kernel
theorem dX4_compare_46 : decode cX4_compare 46 = .ok (.iadd, 1) := by decide +kernel
theorem dX4_compare_47 : decode cX4_compare 47 = .ok (.iaload, 1) := by decide +kernel
theorem dX4_compare_48 : decode cX4_compare 48 = .ok (.if_icmp .ge 28, 3) := by decide +kernel
theorem dX4_compare_51 : decode cX4_compare 51 = .ok (.aload_n 0, 1) := by decide +kernel
theorem dX4_compare_52 : decode cX4_compare 52 = .ok (.getfield 13, 3) := by decide +kernel
theorem dX4_compare_55 : decode cX4_compare 55 = .ok (.aload_n 0, 1) := by decide +kernel
theorem dX4_compare_56 : decode cX4_compare 56 = .ok (.getfield 16, 3) := by decide +kernel
theorem dX4_compare_59 : decode cX4_compare 59 = .ok (.bipush 8, 2) := by decide +kernel
theorem dX4_compare_61 : decode cX4_compare 61 = .ok (.iload_n 1, 1) := by decide +kernel
theorem dX4_compare_62 : decode cX4_compare 62 = .ok (.imul, 1) := by decide +kernel
theorem dX4_compare_63 : decode cX4_compare 63 = .ok (.iconst 4, 1) := by decide +kernel
theorem dX4_compare_64 : decode cX4_compare 64 = .ok (.iadd, 1) := by decide +kernel
theorem dX4_compare_65 : decode cX4_compare 65 = .ok (.iaload, 1) := by decide +kernel
theorem dX4_compare_66 : decode cX4_compare 66 = .ok (.iload_n 3, 1) := by decide +kernel
theorem dX4_compare_67 : decode cX4_compare 67 = .ok (.iadd, 1) := by decide +kernel
theorem dX4_compare_68 : decode cX4_compare 68 = .ok (.baload, 1) := by decide +kernel
theorem dX4_compare_69 : decode cX4_compare 69 = .ok (.sipush 255, 3) := by decide +kernel
theorem dX4_compare_72 : decode cX4_compare 72 = .ok (.iand, 1) := by decide +kernel
theorem dX4_compare_73 : decode cX4_compare 73 = .ok (.goto 4, 3) := by decide +kernel
theorem dX4_compare_76 : decode cX4_compare 76 = .ok (.iconst 0, 1) := by decide +kernel
theorem dX4_compare_77 : decode cX4_compare 77 = .ok (.istore 4, 2) := by decide +kernel
theorem dX4_compare_79 : decode cX4_compare 79 = .ok (.iload_n 3, 1) := by decide +kernel
theorem dX4_compare_80 : decode cX4_compare 80 = .ok (.aload_n 0, 1) := by decide +kernel
theorem dX4_compare_81 : decode cX4_compare 81 = .ok (.getfield 16, 3) := by decide +kernel
theorem dX4_compare_84 : decode cX4_compare 84 = .ok (.bipush 8, 2) := by decide +kernel
theorem dX4_compare_86 : decode cX4_compare 86 = .ok (.iload_n 2, 1) := by decide +kernel
theorem dX4_compare_87 : decode cX4_compare 87 = .ok (.imul, 1) := by decide +kernel
theorem dX4_compare_88 : decode cX4_compare 88 = .ok (.iconst 5, 1) := by decide +kernel
theorem dX4_compare_89 : decode cX4_compare 89 = .ok (.iadd, 1) := by decide +kernel
theorem dX4_compare_90 : decode cX4_compare 90 = .ok (.iaload, 1) := by decide +kernel
theorem dX4_compare_91 : decode cX4_compare 91 = .ok (.if_icmp .ge 28, 3) := by decide +kernel
theorem dX4_compare_94 : decode cX4_compare 94 = .ok (.aload_n 0, 1) := by decide +kernel
theorem dX4_compare_95 : decode cX4_compare 95 = .ok (.getfield 13, 3) := by decide +kernel
theorem dX4_compare_98 : decode cX4_compare 98 = .ok (.aload_n 0, 1) := by decide +kernel
theorem dX4_compare_99 : decode cX4_compare 99 = .ok (.getfield 16, 3) := by decide +kernel
theorem dX4_compare_102 : decode cX4_compare 102 = .ok (.bipush 8, 2) := by decide +kernel
theorem dX4_compare_104 : decode cX4_compare 104 = .ok (.iload_n 2, 1) := by decide +kernel
theorem dX4_compare_105 : decode cX4_compare 105 = .ok (.imul, 1) := by decide +kernel
theorem dX4_compare_106 : decode cX4_compare 106 = .ok (.iconst 4, 1) := by decide +kernel
theorem dX4_compare_107 : decode cX4_compare 107 = .ok (.iadd, 1) := by decide +kernel
theorem dX4_compare_108 : decode cX4_compare 108 = .ok (.iaload, 1) := by decide +kernel
theorem dX4_compare_109 : decode cX4_compare 109 = .ok (.iload_n 3, 1) := by decide +kernel
theorem dX4_compare_110 : decode cX4_compare 110 = .ok (.iadd, 1) := by decide +kernel
theorem dX4_compare_111 : decode cX4_compare 111 = .ok (.baload, 1) := by decide +kernel
theorem dX4_compare_112 : decode cX4_compare 112 = .ok (.sipush 255, 3) := by decide +kernel
theorem dX4_compare_115 : decode cX4_compare 115 = .ok (.iand, 1) := by decide +kernel
theorem dX4_compare_116 : decode cX4_compare 116 = .ok (.goto 4, 3) := by decide +kernel
theorem dX4_compare_119 : decode cX4_compare 119 = .ok (.iconst 0, 1) := by decide +kernel
theorem dX4_compare_120 : decode cX4_compare 120 = .ok (.istore 5, 2) := by decide +kernel
theorem dX4_compare_122 : decode cX4_compare 122 = .ok (.iload 4, 2) := by decide +kernel
theorem dX4_compare_124 : decode cX4_compare 124 = .ok (.iload 5, 2) := by decide +kernel
theorem dX4_compare_126 : decode cX4_compare 126 = .ok (.if_icmp .eq 16, 3) := by decide +kernel
theorem dX4_compare_129 : decode cX4_compare 129 = .ok (.iload 4, 2) := by decide +kernel
theorem dX4_compare_131 : decode cX4_compare 131 = .ok (.iload 5, 2) := by decide +kernel
theorem dX4_compare_133 : decode cX4_compare 133 = .ok (.if_icmp .ge 7, 3) := by decide +kernel
theorem dX4_compare_136 : decode cX4_compare 136 = .ok (.iconst (-1), 1) := by decide +kernel
theorem dX4_compare_137 : decode cX4_compare 137 = .ok (.goto 4, 3) := by decide +kernel
theorem dX4_compare_140 : decode cX4_compare 140 = .ok (.iconst 1, 1) := by decide +kernel
theorem dX4_compare_141 : decode cX4_compare 141 = .ok (.ireturn, 1) := by decide +kernel
theorem dX4_compare_142 : decode cX4_compare 142 = .ok (.iinc 3 1, 3) := by decide +kernel
theorem dX4_compare_145 : decode cX4_compare 145 = .ok (.goto (-116), 3) := by decide +kernel
theorem dX4_compare_148 : decode cX4_compare 148 = .ok (.iconst 0, 1) := by decide +kernel
theorem dX4_compare_149 : decode cX4_compare 149 = .ok (.ireturn, 1) := by decide +kernel
theorem dX4_count_0 : decode cX4_count 0 = .ok (.aload_n 0, 1) := by decide +kernel
theorem dX4_count_1 : decode cX4_count 1 = .ok (.iconst 0, 1) := by decide +kernel
theorem dX4_count_2 : decode cX4_count 2 = .ok (.putfield 23, 3) := by decide +kernel
theorem dX4_count_5 : decode cX4_count 5 = .ok (.iload_n 1, 1) := by decide +kernel
theorem dX4_count_6 : decode cX4_count 6 = .ok (.ifCond .ne 10, 3) := by decide +kernel
theorem dX4_count_9 : decode cX4_count 9 = .ok (.aload_n 0, 1) := by decide +kernel
theorem dX4_count_10 : decode cX4_count 10 = .ok (.getfield 27, 3) := by decide +kernel
theorem dX4_count_13 : decode cX4_count 13 = .ok (.goto 20, 3) := by decide +kernel
theorem dX4_count_16 : decode cX4_count 16 = .ok (.iload_n 1, 1) := by decide +kernel
theorem dX4_count_17 : decode cX4_count 17 = .ok (.iconst 1, 1) := by decide +kernel
theorem dX4_count_18 : decode cX4_count 18 = .ok (.if_icmp .ne 10, 3) := by decide +kernel
theorem dX4_count_21 : decode cX4_count 21 = .ok (.aload_n 0, 1) := by decide +kernel
theorem dX4_count_22 : decode cX4_count 22 = .ok (.getfield 77, 3) := by decide +kernel
theorem dX4_count_25 : decode cX4_count 25 = .ok (.goto 8, 3) := by decide +kernel
theorem dX4_count_28 : decode cX4_count 28 = .ok (.aload_n 0, 1) := by decide +kernel
theorem dX4_count_29 : decode cX4_count 29 = .ok (.iconst 1, 1) := by decide +kernel
theorem dX4_count_30 : decode cX4_count 30 = .ok (.invokevirtual 30, 3) := by decide +kernel
theorem dX4_count_33 : decode cX4_count 33 = .ok (.ireturn, 1) := by decide +kernel
theorem dX4_word_0 : decode cX4_word 0 = .ok (.aload_n 0, 1) := by decide +kernel
theorem dX4_word_1 : decode cX4_word 1 = .ok (.iconst 0, 1) := by decide +kernel
theorem dX4_word_2 : decode cX4_word 2 = .ok (.putfield 23, 3) := by decide +kernel
theorem dX4_word_5 : decode cX4_word 5 = .ok (.iload_n 1, 1) := by decide +kernel
theorem dX4_word_6 : decode cX4_word 6 = .ok (.ifCond .lt 11, 3) := by decide +kernel
theorem dX4_word_9 : decode cX4_word 9 = .ok (.iload_n 1, 1) := by decide +kernel
theorem dX4_word_10 : decode cX4_word 10 = .ok (.aload_n 0, 1) := by decide +kernel
theorem dX4_word_11 : decode cX4_word 11 = .ok (.getfield 27, 3) := by decide +kernel
theorem dX4_word_14 : decode cX4_word 14 = .ok (.if_icmp .lt 10, 3) := by decide +kernel
theorem dX4_word_17 : decode cX4_word 17 = .ok (.aload_n 0, 1) := by decide +kernel
theorem dX4_word_18 : decode cX4_word 18 = .ok (.iconst 1, 1) := by decide +kernel
theorem dX4_word_19 : decode cX4_word 19 = .ok (.invokevirtual 30, 3) := by decide +kernel
theorem dX4_word_22 : decode cX4_word 22 = .ok (.i2l, 1) := by decide +kernel
theorem dX4_word_23 : decode cX4_word 23 = .ok (.lreturn, 1) := by decide +kernel
theorem dX4_word_24 : decode cX4_word 24 = .ok (.lconst 0, 1) := by decide +kernel
theorem dX4_word_25 : decode cX4_word 25 = .ok (.lstore_n 2, 1) := by decide +kernel
theorem dX4_word_26 : decode cX4_word 26 = .ok (.iload_n 1, 1) := by decide +kernel
theorem dX4_word_27 : decode cX4_word 27 = .ok (.istore 4, 2) := by decide +kernel
theorem dX4_word_29 : decode cX4_word 29 = .ok (.iload 4, 2) := by decide +kernel
theorem dX4_word_31 : decode cX4_word 31 = .ok (.iload_n 1, 1) := by decide +kernel
theorem dX4_word_32 : decode cX4_word 32 = .ok (.bipush 8, 2) := by decide +kernel
theorem dX4_word_34 : decode cX4_word 34 = .ok (.iadd, 1) := by decide +kernel
theorem dX4_word_35 : decode cX4_word 35 = .ok (.if_icmp .ge 41, 3) := by decide +kernel
theorem dX4_word_38 : decode cX4_word 38 = .ok (.lload_n 2, 1) := by decide +kernel
theorem dX4_word_39 : decode cX4_word 39 = .ok (.ldc2_w 96, 3) := by decide +kernel
theorem dX4_word_42 : decode cX4_word 42 = .ok (.lmul, 1) := by decide +kernel
theorem dX4_word_43 : decode cX4_word 43 = .ok (.iload 4, 2) := by decide +kernel
theorem dX4_word_45 : decode cX4_word 45 = .ok (.aload_n 0, 1) := by decide +kernel
theorem dX4_word_46 : decode cX4_word 46 = .ok (.getfield 27, 3) := by decide +kernel
theorem dX4_word_49 : decode cX4_word 49 = .ok (.if_icmp .ge 17, 3) := by decide +kernel
theorem dX4_word_52 : decode cX4_word 52 = .ok (.aload_n 0, 1) := by decide +kernel
theorem dX4_word_53 : decode cX4_word 53 = .ok (.getfield 7, 3) := by decide +kernel
theorem dX4_word_56 : decode cX4_word 56 = .ok (.iload 4, 2) := by decide +kernel
theorem dX4_word_58 : decode cX4_word 58 = .ok (.baload, 1) := by decide +kernel
theorem dX4_word_59 : decode cX4_word 59 = .ok (.sipush 255, 3) := by decide +kernel
theorem dX4_word_62 : decode cX4_word 62 = .ok (.iand, 1) := by decide +kernel
theorem dX4_word_63 : decode cX4_word 63 = .ok (.goto 4, 3) := by decide +kernel
theorem dX4_word_66 : decode cX4_word 66 = .ok (.iconst 0, 1) := by decide +kernel
theorem dX4_word_67 : decode cX4_word 67 = .ok (.i2l, 1) := by decide +kernel
theorem dX4_word_68 : decode cX4_word 68 = .ok (.ladd, 1) := by decide +kernel
theorem dX4_word_69 : decode cX4_word 69 = .ok (.lstore_n 2, 1) := by decide +kernel
theorem dX4_word_70 : decode cX4_word 70 = .ok (.iinc 4 1, 3) := by decide +kernel
theorem dX4_word_73 : decode cX4_word 73 = .ok (.goto (-44), 3) := by decide +kernel
theorem dX4_word_76 : decode cX4_word 76 = .ok (.lload_n 2, 1) := by decide +kernel
theorem dX4_word_77 : decode cX4_word 77 = .ok (.lreturn, 1) := by decide +kernel
