theorem dX1_init_0 : decode cX1_init 0 = .ok (.aload_n 0, 1) := by decide +kernel
theorem dX1_init_1 : decode cX1_init 1 = .ok (.invokespecial 3, 3) := by decide +kernel
theorem dX1_init_4 : decode cX1_init 4 = .ok (.aload_n 0, 1) := by decide +kernel
theorem dX1_init_5 : decode cX1_init 5 = .ok (.iconst 0, 1) := by decide +kernel
theorem dX1_init_6 : decode cX1_init 6 = .ok (.putfield 9, 3) := by decide +kernel
theorem dX1_init_9 : decode cX1_init 9 = .ok (.aload_n 0, 1) := by decide +kernel
theorem dX1_init_10 : decode cX1_init 10 = .ok (.iconst 0, 1) := by decide +kernel
theorem dX1_init_11 : decode cX1_init 11 = .ok (.putfield 15, 3) := by decide +kernel
theorem dX1_init_14 : decode cX1_init 14 = .ok (.aload_n 0, 1) := by decide +kernel
theorem dX1_init_15 : decode cX1_init 15 = .ok (.iconst 0, 1) := by decide +kernel
theorem dX1_init_16 : decode cX1_init 16 = .ok (.putfield 19, 3) := by decide +kernel
theorem dX1_init_19 : decode cX1_init 19 = .ok (.aload_n 0, 1) := by decide +kernel
theorem dX1_init_20 : decode cX1_init 20 = .ok (.iconst 0, 1) := by decide +kernel
theorem dX1_init_21 : decode cX1_init 21 = .ok (.putfield 22, 3) := by decide +kernel
theorem dX1_init_24 : decode cX1_init 24 = .ok (.aload_n 0, 1) := by decide +kernel
theorem dX1_init_25 : decode cX1_init 25 = .ok (.iconst 0, 1) := by decide +kernel
theorem dX1_init_26 : decode cX1_init 26 = .ok (.putfield 25, 3) := by decide +kernel
theorem dX1_init_29 : decode cX1_init 29 = .ok (.aload_n 0, 1) := by decide +kernel
theorem dX1_init_30 : decode cX1_init 30 = .ok (.iconst 0, 1) := by decide +kernel
theorem dX1_init_31 : decode cX1_init 31 = .ok (.putfield 28, 3) := by decide +kernel
theorem dX1_init_34 : decode cX1_init 34 = .ok (.return_, 1) := by decide +kernel
theorem dX1_decode_0 : decode cX1_decode 0 = .ok (.aload_n 0, 1) := by decide +kernel
theorem dX1_decode_1 : decode cX1_decode 1 = .ok (.aload_n 1, 1) := by decide +kernel
theorem dX1_decode_2 : decode cX1_decode 2 = .ok (.iload_n 2, 1) := by decide +kernel
theorem dX1_decode_3 : decode cX1_decode 3 = .ok (.iload_n 3, 1) := by decide +kernel
theorem dX1_decode_4 : decode cX1_decode 4 = .ok (.invokevirtual 31, 3) := by decide +kernel
theorem dX1_decode_7 : decode cX1_decode 7 = .ok (.istore 5, 2) := by decide +kernel
theorem dX1_decode_9 : decode cX1_decode 9 = .ok (.iload 5, 2) := by decide +kernel
theorem dX1_decode_11 : decode cX1_decode 11 = .ok (.iconst (-1), 1) := by decide +kernel
theorem dX1_decode_12 : decode cX1_decode 12 = .ok (.if_icmp .eq 9, 3) := by decide +kernel
theorem dX1_decode_15 : decode cX1_decode 15 = .ok (.iload 5, 2) := by decide +kernel
theorem dX1_decode_17 : decode cX1_decode 17 = .ok (.iload_n 3, 1) := by decide +kernel
theorem dX1_decode_18 : decode cX1_decode 18 = .ok (.if_icmp .lt 5, 3) := by decide +kernel
theorem dX1_decode_21 : decode cX1_decode 21 = .ok (.iconst 0, 1) := by decide +kernel
theorem dX1_decode_22 : decode cX1_decode 22 = .ok (.ireturn, 1) := by decide +kernel
theorem dX1_decode_23 : decode cX1_decode 23 = .ok (.aload_n 1, 1) := by decide +kernel
theorem dX1_decode_24 : decode cX1_decode 24 = .ok (.iload 5, 2) := by decide +kernel
theorem dX1_decode_26 : decode cX1_decode 26 = .ok (.invokevirtual 35, 3) := by decide +kernel
theorem dX1_decode_29 : decode cX1_decode 29 = .ok (.istore 6, 2) := by decide +kernel
theorem dX1_decode_31 : decode cX1_decode 31 = .ok (.aload_n 0, 1) := by decide +kernel
theorem dX1_decode_32 : decode cX1_decode 32 = .ok (.iload 6, 2) := by decide +kernel
theorem dX1_decode_34 : decode cX1_decode 34 = .ok (.sipush 128, 3) := by decide +kernel
theorem dX1_decode_37 : decode cX1_decode 37 = .ok (.if_icmp .ne 7, 3) := by decide +kernel
theorem dX1_decode_40 : decode cX1_decode 40 = .ok (.iconst 1, 1) := by decide +kernel
theorem dX1_decode_41 : decode cX1_decode 41 = .ok (.goto 4, 3) := by decide +kernel
theorem dX1_decode_44 : decode cX1_decode 44 = .ok (.iconst 0, 1) := by decide +kernel
theorem dX1_decode_45 : decode cX1_decode 45 = .ok (.putfield 22, 3) := by decide +kernel
theorem dX1_decode_48 : decode cX1_decode 48 = .ok (.aload_n 0, 1) := by decide +kernel
theorem dX1_decode_49 : decode cX1_decode 49 = .ok (.iconst 0, 1) := by decide +kernel
theorem dX1_decode_50 : decode cX1_decode 50 = .ok (.putfield 25, 3) := by decide +kernel
theorem dX1_decode_53 : decode cX1_decode 53 = .ok (.aload_n 0, 1) := by decide +kernel
theorem dX1_decode_54 : decode cX1_decode 54 = .ok (.iload 5, 2) := by decide +kernel
theorem dX1_decode_56 : decode cX1_decode 56 = .ok (.iconst 1, 1) := by decide +kernel
theorem dX1_decode_57 : decode cX1_decode 57 = .ok (.iadd, 1) := by decide +kernel
theorem dX1_decode_58 : decode cX1_decode 58 = .ok (.putfield 28, 3) := by decide +kernel
theorem dX1_decode_61 : decode cX1_decode 61 = .ok (.aload_n 0, 1) := by decide +kernel
theorem dX1_decode_62 : decode cX1_decode 62 = .ok (.getfield 22, 3) := by decide +kernel
theorem dX1_decode_65 : decode cX1_decode 65 = .ok (.ifCond .eq 21, 3) := by decide +kernel
theorem dX1_decode_68 : decode cX1_decode 68 = .ok (.aload_n 0, 1) := by decide +kernel
theorem dX1_decode_69 : decode cX1_decode 69 = .ok (.getfield 15, 3) := by decide +kernel
theorem dX1_decode_72 : decode cX1_decode 72 = .ok (.ifCond .eq 12, 3) := by decide +kernel
theorem dX1_decode_75 : decode cX1_decode 75 = .ok (.iload 4, 2) := by decide +kernel
theorem dX1_decode_77 : decode cX1_decode 77 = .ok (.ifCond .ne 7, 3) := by decide +kernel
theorem dX1_decode_80 : decode cX1_decode 80 = .ok (.iconst 1, 1) := by decide +kernel
theorem dX1_decode_81 : decode cX1_decode 81 = .ok (.goto 4, 3) := by decide +kernel
theorem dX1_decode_84 : decode cX1_decode 84 = .ok (.iconst 0, 1) := by decide +kernel
theorem dX1_decode_85 : decode cX1_decode 85 = .ok (.ireturn, 1) := by decide +kernel
theorem dX1_decode_86 : decode cX1_decode 86 = .ok (.iload 6, 2) := by decide +kernel
theorem dX1_decode_88 : decode cX1_decode 88 = .ok (.sipush 128, 3) := by decide +kernel
theorem dX1_decode_91 : decode cX1_decode 91 = .ok (.if_icmp .ge 12, 3) := by decide +kernel
theorem dX1_decode_94 : decode cX1_decode 94 = .ok (.aload_n 0, 1) := by decide +kernel
theorem dX1_decode_95 : decode cX1_decode 95 = .ok (.iload 6, 2) := by decide +kernel
theorem dX1_decode_97 : decode cX1_decode 97 = .ok (.putfield 25, 3) := by decide +kernel
theorem dX1_decode_100 : decode cX1_decode 100 = .ok (.goto 22, 3) := by decide +kernel
theorem dX1_decode_103 : decode cX1_decode 103 = .ok (.aload_n 0, 1) := by decide +kernel
theorem dX1_decode_104 : decode cX1_decode 104 = .ok (.aload_n 1, 1) := by decide +kernel
theorem dX1_decode_105 : decode cX1_decode 105 = .ok (.iload 6, 2) := by decide +kernel
theorem dX1_decode_107 : decode cX1_decode 107 = .ok (.sipush 128, 3) := by decide +kernel
theorem dX1_decode_110 : decode cX1_decode 110 = .ok (.isub, 1) := by decide +kernel
theorem dX1_decode_111 : decode cX1_decode 111 = .ok (.iload_n 3, 1) := by decide +kernel
theorem dX1_decode_112 : decode cX1_decode 112 = .ok (.iload 4, 2) := by decide +kernel
theorem dX1_decode_114 : decode cX1_decode 114 = .ok (.invokevirtual 41, 3) := by decide +kernel
theorem dX1_decode_117 : decode cX1_decode 117 = .ok (.ifCond .ne 5, 3) := by decide +kernel
theorem dX1_decode_120 : decode cX1_decode 120 = .ok (.iconst 0, 1) := by decide +kernel
theorem dX1_decode_121 : decode cX1_decode 121 = .ok (.ireturn, 1) := by decide +kernel
theorem dX1_decode_122 : decode cX1_decode 122 = .ok (.aload_n 0, 1) := by decide +kernel
theorem dX1_decode_123 : decode cX1_decode 123 = .ok (.getfield 25, 3) := by decide +kernel
theorem dX1_decode_126 : decode cX1_decode 126 = .ok (.iload_n 3, 1) := by decide +kernel
theorem dX1_decode_127 : decode cX1_decode 127 = .ok (.aload_n 0, 1) := by decide +kernel
theorem dX1_decode_128 : decode cX1_decode 128 = .ok (.getfield 28, 3) := by decide +kernel
theorem dX1_decode_131 : decode cX1_decode 131 = .ok (.isub, 1) := by decide +kernel
theorem dX1_decode_132 : decode cX1_decode 132 = .ok (.if_icmp .gt 7, 3) := by decide +kernel
theorem dX1_decode_135 : decode cX1_decode 135 = .ok (.iconst 1, 1) := by decide +kernel
theorem dX1_decode_136 : decode cX1_decode 136 = .ok (.goto 4, 3) := by decide +kernel
theorem dX1_decode_139 : decode cX1_decode 139 = .ok (.iconst 0, 1) := by decide +kernel
theorem dX1_decode_140 : decode cX1_decode 140 = .ok (.ireturn, 1) := by decide +kernel
theorem dX1_decodeIdentifier_0 : decode cX1_decodeIdentifier 0 = .ok (.iload_n 2, 1) := by decide +kernel
theorem dX1_decodeIdentifier_1 : decode cX1_decodeIdentifier 1 = .ok (.iload_n 3, 1) := by decide +kernel
theorem dX1_decodeIdentifier_2 : decode cX1_decodeIdentifier 2 = .ok (.if_icmp .lt 5, 3) := by decide +kernel
theorem dX1_decodeIdentifier_5 : decode cX1_decodeIdentifier 5 = .ok (.iconst (-1), 1) := by decide +kernel
theorem dX1_decodeIdentifier_6 : decode cX1_decodeIdentifier 6 = .ok (.ireturn, 1) := by decide +kernel
theorem dX1_decodeIdentifier_7 : decode cX1_decodeIdentifier 7 = .ok (.aload_n 1, 1) := by decide +kernel
theorem dX1_decodeIdentifier_8 : decode cX1_decodeIdentifier 8 = .ok (.iload_n 2, 1) := by decide +kernel
theorem dX1_decodeIdentifier_9 : decode cX1_decodeIdentifier 9 = .ok (.invokevirtual 35, 3) := by decide +kernel
theorem dX1_decodeIdentifier_12 : decode cX1_decodeIdentifier 12 = .ok (.istore 4, 2) := by decide +kernel
theorem dX1_decodeIdentifier_14 : decode cX1_decodeIdentifier 14 = .ok (.aload_n 0, 1) := by decide +kernel
theorem dX1_decodeIdentifier_15 : decode cX1_decodeIdentifier 15 = .ok (.iload 4, 2) := by decide +kernel
theorem dX1_decodeIdentifier_17 : decode cX1_decodeIdentifier 17 = .ok (.bipush 6, 2) := by decide +kernel
theorem dX1_decodeIdentifier_19 : decode cX1_decodeIdentifier 19 = .ok (.ishr, 1) := by decide +kernel
theorem dX1_decodeIdentifier_20 : decode cX1_decodeIdentifier 20 = .ok (.putfield 9, 3) := by decide +kernel
theorem dX1_decodeIdentifier_23 : decode cX1_decodeIdentifier 23 = .ok (.aload_n 0, 1) := by decide +kernel
theorem dX1_decodeIdentifier_24 : decode cX1_decodeIdentifier 24 = .ok (.iload 4, 2) := by decide +kernel
theorem dX1_decodeIdentifier_26 : decode cX1_decodeIdentifier 26 = .ok (.bipush 32, 2) := by decide +kernel
theorem dX1_decodeIdentifier_28 : decode cX1_decodeIdentifier 28 = .ok (.iand, 1) := by decide +kernel
theorem dX1_decodeIdentifier_29 : decode cX1_decodeIdentifier 29 = .ok (.ifCond .eq 7, 3) := by decide +kernel
theorem dX1_decodeIdentifier_32 : decode cX1_decodeIdentifier 32 = .ok (.iconst 1, 1) := by decide +kernel
theorem dX1_decodeIdentifier_33 : decode cX1_decodeIdentifier 33 = .ok (.goto 4, 3) := by decide +kernel
theorem dX1_decodeIdentifier_36 : decode cX1_decodeIdentifier 36 = .ok (.iconst 0, 1) := by decide +kernel
theorem dX1_decodeIdentifier_37 : decode cX1_decodeIdentifier 37 = .ok (.putfield 15, 3) := by decide +kernel
theorem dX1_decodeIdentifier_40 : decode cX1_decodeIdentifier 40 = .ok (.aload_n 0, 1) := by decide +kernel
theorem dX1_decodeIdentifier_41 : decode cX1_decodeIdentifier 41 = .ok (.iload 4, 2) := by decide +kernel
theorem dX1_decodeIdentifier_43 : decode cX1_decodeIdentifier 43 = .ok (.bipush 31, 2) := by decide +kernel
theorem dX1_decodeIdentifier_45 : decode cX1_decodeIdentifier 45 = .ok (.iand, 1) := by decide +kernel
theorem dX1_decodeIdentifier_46 : decode cX1_decodeIdentifier 46 = .ok (.putfield 19, 3) := by decide +kernel
theorem dX1_decodeIdentifier_49 : decode cX1_decodeIdentifier 49 = .ok (.aload_n 0, 1) := by decide +kernel
theorem dX1_decodeIdentifier_50 : decode cX1_decodeIdentifier 50 = .ok (.getfield 19, 3) := by decide +kernel
theorem dX1_decodeIdentifier_53 : decode cX1_decodeIdentifier 53 = .ok (.bipush 31, 2) := by decide +kernel
theorem dX1_decodeIdentifier_55 : decode cX1_decodeIdentifier 55 = .ok (.if_icmp .ge 9, 3) := by decide +kernel
theorem dX1_decodeIdentifier_58 : decode cX1_decodeIdentifier 58 = .ok (.iload_n 2, 1) := by decide +kernel
theorem dX1_decodeIdentifier_59 : decode cX1_decodeIdentifier 59 = .ok (.iconst 1, 1) := by decide +kernel
theorem dX1_decodeIdentifier_60 : decode cX1_decodeIdentifier 60 = .ok (.iadd, 1) := by decide +kernel
theorem dX1_decodeIdentifier_61 : decode cX1_decodeIdentifier 61 = .ok (.goto 12, 3) := by decide +kernel
theorem dX1_decodeIdentifier_64 : decode cX1_decodeIdentifier 64 = .ok (.aload_n 0, 1) := by decide +kernel
theorem dX1_decodeIdentifier_65 : decode cX1_decodeIdentifier 65 = .ok (.aload_n 1, 1) := by decide +kernel
theorem dX1_decodeIdentifier_66 : decode cX1_decodeIdentifier 66 = .ok (.iload_n 2, 1) := by decide +kernel
theorem dX1_decodeIdentifier_67 : decode cX1_decodeIdentifier 67 = .ok (.iconst 1, 1) := by decide +kernel
theorem dX1_decodeIdentifier_68 : decode cX1_decodeIdentifier 68 = .ok (.iadd, 1) := by decide +kernel
theorem dX1_decodeIdentifier_69 : decode cX1_decodeIdentifier 69 = .ok (.iload_n 3, 1) := by decide +kernel
theorem dX1_decodeIdentifier_70 : decode cX1_decodeIdentifier 70 = .ok (.invokevirtual 45, 3) := by decide +kernel
theorem dX1_decodeIdentifier_73 : decode cX1_decodeIdentifier 73 = .ok (.ireturn, 1) := by decide +kernel
theorem dX1_decodeLongNumber_0 : decode cX1_decodeLongNumber 0 = .ok (.aload_n 1, 1) := by decide +kernel
theorem dX1_decodeLongNumber_1 : decode cX1_decodeLongNumber 1 = .ok (.iload_n 2, 1) := by decide +kernel
theorem dX1_decodeLongNumber_2 : decode cX1_decodeLongNumber 2 = .ok (.invokevirtual 35, 3) := by decide +kernel
theorem dX1_decodeLongNumber_5 : decode cX1_decodeLongNumber 5 = .ok (.bipush 127, 2) := by decide +kernel
theorem dX1_decodeLongNumber_7 : decode cX1_decodeLongNumber 7 = .ok (.iand, 1) := by decide +kernel
theorem dX1_decodeLongNumber_8 : decode cX1_decodeLongNumber 8 = .ok (.ifCond .ne 5, 3) := by decide +kernel
theorem dX1_decodeLongNumber_11 : decode cX1_decodeLongNumber 11 = .ok (.iconst (-1), 1) := by decide +kernel
theorem dX1_decodeLongNumber_12 : decode cX1_decodeLongNumber 12 = .ok (.ireturn, 1) := by decide +kernel
theorem dX1_decodeLongNumber_13 : decode cX1_decodeLongNumber 13 = .ok (.lconst 0, 1) := by decide +kernel
theorem dX1_decodeLongNumber_14 : decode cX1_decodeLongNumber 14 = .ok (.lstore 4, 2) := by decide +kernel
theorem dX1_decodeLongNumber_16 : decode cX1_decodeLongNumber 16 = .ok (.iload_n 2, 1) := by decide +kernel
theorem dX1_decodeLongNumber_17 : decode cX1_decodeLongNumber 17 = .ok (.istore 6, 2) := by decide +kernel
theorem dX1_decodeLongNumber_19 : decode cX1_decodeLongNumber 19 = .ok (.iload 6, 2) := by decide +kernel
theorem dX1_decodeLongNumber_21 : decode cX1_decodeLongNumber 21 = .ok (.iload_n 3, 1) := by decide +kernel
theorem dX1_decodeLongNumber_22 : decode cX1_decodeLongNumber 22 = .ok (.if_icmp .ge 92, 3) := by decide +kernel
theorem dX1_decodeLongNumber_25 : decode cX1_decodeLongNumber 25 = .ok (.aload_n 1, 1) := by decide +kernel
theorem dX1_decodeLongNumber_26 : decode cX1_decodeLongNumber 26 = .ok (.iload 6, 2) := by decide +kernel
theorem dX1_decodeLongNumber_28 : decode cX1_decodeLongNumber 28 = .ok (.invokevirtual 35, 3) := by decide +kernel
theorem dX1_decodeLongNumber_31 : decode cX1_decodeLongNumber 31 = .ok (.istore 7, 2) := by decide +kernel
theorem dX1_decodeLongNumber_33 : decode cX1_decodeLongNumber 33 = .ok (.lload 4, 2) := by decide +kernel
theorem dX1_decodeLongNumber_35 : decode cX1_decodeLongNumber 35 = .ok (.ldc2_w 48, 3) := by decide +kernel
theorem dX1_decodeLongNumber_38 : decode cX1_decodeLongNumber 38 = .ok (.lcmp, 1) := by decide +kernel
theorem dX1_decodeLongNumber_39 : decode cX1_decodeLongNumber 39 = .ok (.ifCond .le 8, 3) := by decide +kernel
theorem dX1_decodeLongNumber_42 : decode cX1_decodeLongNumber 42 = .ok (.lload 4, 2) := by decide +kernel
theorem dX1_decodeLongNumber_44 : decode cX1_decodeLongNumber 44 = .ok (.goto 16, 3) := by decide +kernel
theorem dX1_decodeLongNumber_47 : decode cX1_decodeLongNumber 47 = .ok (.lload 4, 2) := by decide +kernel
theorem dX1_decodeLongNumber_49 : decode cX1_decodeLongNumber 49 = .ok (.ldc2_w 50, 3) := by decide +kernel
theorem dX1_decodeLongNumber_52 : decode cX1_decodeLongNumber 52 = .ok (.lmul, 1) := by decide +kernel
theorem dX1_decodeLongNumber_53 : decode cX1_decodeLongNumber 53 = .ok (.iload 7, 2) := by decide +kernel
theorem dX1_decodeLongNumber_55 : decode cX1_decodeLongNumber 55 = .ok (.bipush 127, 2) := by decide +kernel
theorem dX1_decodeLongNumber_57 : decode cX1_decodeLongNumber 57 = .ok (.iand, 1) := by decide +kernel
theorem dX1_decodeLongNumber_58 : decode cX1_decodeLongNumber 58 = .ok (.i2l, 1) := by decide +kernel
theorem dX1_decodeLongNumber_59 : decode cX1_decodeLongNumber 59 = .ok (.ladd, 1) := by decide +kernel
theorem dX1_decodeLongNumber_60 : decode cX1_decodeLongNumber 60 = .ok (.lstore 4, 2) := by decide +kernel
theorem dX1_decodeLongNumber_62 : decode cX1_decodeLongNumber 62 = .ok (.iload 7, 2) := by decide +kernel
theorem dX1_decodeLongNumber_64 : decode cX1_decodeLongNumber 64 = .ok (.sipush 128, 3) := by decide +kernel
theorem dX1_decodeLongNumber_67 : decode cX1_decodeLongNumber 67 = .ok (.if_icmp .ge 41, 3) := by decide +kernel
theorem dX1_decodeLongNumber_70 : decode cX1_decodeLongNumber 70 = .ok (.aload_n 0, 1) := by decide +kernel
theorem dX1_decodeLongNumber_71 : decode cX1_decodeLongNumber 71 = .ok (.lload 4, 2) := by decide +kernel
theorem dX1_decodeLongNumber_73 : decode cX1_decodeLongNumber 73 = .ok (.ldc2_w 48, 3) := by decide +kernel
theorem dX1_decodeLongNumber_76 : decode cX1_decodeLongNumber 76 = .ok (.lcmp, 1) := by decide +kernel
theorem dX1_decodeLongNumber_77 : decode cX1_decodeLongNumber 77 = .ok (.ifCond .le 7, 3) := by decide +kernel
theorem dX1_decodeLongNumber_80 : decode cX1_decodeLongNumber 80 = .ok (.iconst (-1), 1) := by decide +kernel
theorem dX1_decodeLongNumber_81 : decode cX1_decodeLongNumber 81 = .ok (.goto 6, 3) := by decide +kernel
theorem dX1_decodeLongNumber_84 : decode cX1_decodeLongNumber 84 = .ok (.lload 4, 2) := by decide +kernel
theorem dX1_decodeLongNumber_86 : decode cX1_decodeLongNumber 86 = .ok (.l2i, 1) := by decide +kernel
theorem dX1_decodeLongNumber_87 : decode cX1_decodeLongNumber 87 = .ok (.putfield 19, 3) := by decide +kernel
theorem dX1_decodeLongNumber_90 : decode cX1_decodeLongNumber 90 = .ok (.lload 4, 2) := by decide +kernel
theorem dX1_decodeLongNumber_92 : decode cX1_decodeLongNumber 92 = .ok (.ldc2_w 52, 3) := by decide +kernel
theorem dX1_decodeLongNumber_95 : decode cX1_decodeLongNumber 95 = .ok (.lcmp, 1) := by decide +kernel
theorem dX1_decodeLongNumber_96 : decode cX1_decodeLongNumber 96 = .ok (.ifCond .ge 7, 3) := by decide +kernel
theorem dX1_decodeLongNumber_99 : decode cX1_decodeLongNumber 99 = .ok (.iconst (-1), 1) := by decide +kernel
theorem dX1_decodeLongNumber_100 : decode cX1_decodeLongNumber 100 = .ok (.goto 7, 3) := by decide +kernel
theorem dX1_decodeLongNumber_103 : decode cX1_decodeLongNumber 103 = .ok (.iload 6, 2) := by decide +kernel
theorem dX1_decodeLongNumber_105 : decode cX1_decodeLongNumber 105 = .ok (.iconst 1, 1) := by decide +kernel
theorem dX1_decodeLongNumber_106 : decode cX1_decodeLongNumber 106 = .ok (.iadd, 1) := by decide +kernel
theorem dX1_decodeLongNumber_107 : decode cX1_decodeLongNumber 107 = .ok (.ireturn, 1) := by decide +kernel
theorem dX1_decodeLongNumber_108 : decode cX1_decodeLongNumber 108 = .ok (.iinc 6 1, 3) := by decide +kernel
theorem dX1_decodeLongNumber_111 : decode cX1_decodeLongNumber 111 = .ok (.goto (-92), 3) := by decide +kernel
theorem dX1_decodeLongNumber_114 : decode cX1_decodeLongNumber 114 = .ok (.iconst (-1), 1) := by decide +kernel
theorem dX1_decodeLongNumber_115 : decode cX1_decodeLongNumber 115 = .ok (.ireturn, 1) := by decide +kernel
theorem dX1_decodeLongLength_0 : decode cX1_decodeLongLength 0 = .ok (.iload_n 2, 1) := by decide +kernel
theorem dX1_decodeLongLength_1 : decode cX1_decodeLongLength 1 = .ok (.iload_n 3, 1) := by decide +kernel
theorem dX1_decodeLongLength_2 : decode cX1_decodeLongLength 2 = .ok (.aload_n 0, 1) := by decide +kernel
theorem dX1_decodeLongLength_3 : decode cX1_decodeLongLength 3 = .ok (.getfield 28, 3) := by decide +kernel
theorem dX1_decodeLongLength_6 : decode cX1_decodeLongLength 6 = .ok (.isub, 1) := by decide +kernel
theorem dX1_decodeLongLength_7 : decode cX1_decodeLongLength 7 = .ok (.if_icmp .le 5, 3) := by decide +kernel
theorem dX1_decodeLongLength_10 : decode cX1_decodeLongLength 10 = .ok (.iconst 0, 1) := by decide +kernel
theorem dX1_decodeLongLength_11 : decode cX1_decodeLongLength 11 = .ok (.ireturn, 1) := by decide +kernel
theorem dX1_decodeLongLength_12 : decode cX1_decodeLongLength 12 = .ok (.aload_n 1, 1) := by decide +kernel
theorem dX1_decodeLongLength_13 : decode cX1_decodeLongLength 13 = .ok (.aload_n 0, 1) := by decide +kernel
theorem dX1_decodeLongLength_14 : decode cX1_decodeLongLength 14 = .ok (.getfield 28, 3) := by decide +kernel
theorem dX1_decodeLongLength_17 : decode cX1_decodeLongLength 17 = .ok (.invokevirtual 35, 3) := by decide +kernel
theorem dX1_decodeLongLength_20 : decode cX1_decodeLongLength 20 = .ok (.ifCond .ne 7, 3) := by decide +kernel
theorem dX1_decodeLongLength_23 : decode cX1_decodeLongLength 23 = .ok (.iconst 1, 1) := by decide +kernel
theorem dX1_decodeLongLength_24 : decode cX1_decodeLongLength 24 = .ok (.goto 4, 3) := by decide +kernel
theorem dX1_decodeLongLength_27 : decode cX1_decodeLongLength 27 = .ok (.iconst 0, 1) := by decide +kernel
theorem dX1_decodeLongLength_28 : decode cX1_decodeLongLength 28 = .ok (.istore 5, 2) := by decide +kernel
theorem dX1_decodeLongLength_30 : decode cX1_decodeLongLength 30 = .ok (.iconst 0, 1) := by decide +kernel
theorem dX1_decodeLongLength_31 : decode cX1_decodeLongLength 31 = .ok (.istore 6, 2) := by decide +kernel
theorem dX1_decodeLongLength_33 : decode cX1_decodeLongLength 33 = .ok (.iload 6, 2) := by decide +kernel
theorem dX1_decodeLongLength_35 : decode cX1_decodeLongLength 35 = .ok (.iload_n 2, 1) := by decide +kernel
theorem dX1_decodeLongLength_36 : decode cX1_decodeLongLength 36 = .ok (.if_icmp .ge 50, 3) := by decide +kernel
theorem dX1_decodeLongLength_39 : decode cX1_decodeLongLength 39 = .ok (.aload_n 0, 1) := by decide +kernel
theorem dX1_decodeLongLength_40 : decode cX1_decodeLongLength 40 = .ok (.aload_n 0, 1) := by decide +kernel
theorem dX1_decodeLongLength_41 : decode cX1_decodeLongLength 41 = .ok (.getfield 25, 3) := by decide +kernel
theorem dX1_decodeLongLength_44 : decode cX1_decodeLongLength 44 = .ok (.sipush 4096, 3) := by decide +kernel
theorem dX1_decodeLongLength_47 : decode cX1_decodeLongLength 47 = .ok (.if_icmp .le 10, 3) := by decide +kernel
theorem dX1_decodeLongLength_50 : decode cX1_decodeLongLength 50 = .ok (.aload_n 0, 1) := by decide +kernel
theorem dX1_decodeLongLength_51 : decode cX1_decodeLongLength 51 = .ok (.getfield 25, 3) := by decide +kernel
theorem dX1_decodeLongLength_54 : decode cX1_decodeLongLength 54 = .ok (.goto 23, 3) := by decide +kernel
theorem dX1_decodeLongLength_57 : decode cX1_decodeLongLength 57 = .ok (.aload_n 0, 1) := by decide +kernel
theorem dX1_decodeLongLength_58 : decode cX1_decodeLongLength 58 = .ok (.getfield 25, 3) := by decide +kernel
theorem dX1_decodeLongLength_61 : decode cX1_decodeLongLength 61 = .ok (.sipush 256, 3) := by decide +kernel
theorem dX1_decodeLongLength_64 : decode cX1_decodeLongLength 64 = .ok (.imul, 1) := by decide +kernel
theorem dX1_decodeLongLength_65 : decode cX1_decodeLongLength 65 = .ok (.aload_n 1, 1) := by decide +kernel
theorem dX1_decodeLongLength_66 : decode cX1_decodeLongLength 66 = .ok (.aload_n 0, 1) := by decide +kernel
theorem dX1_decodeLongLength_67 : decode cX1_decodeLongLength 67 = .ok (.getfield 28, 3) := by decide +kernel
theorem dX1_decodeLongLength_70 : decode cX1_decodeLongLength 70 = .ok (.iload 6, 2) := by decide +kernel
theorem dX1_decodeLongLength_72 : decode cX1_decodeLongLength 72 = .ok (.iadd, 1) := by decide +kernel
theorem dX1_decodeLongLength_73 : decode cX1_decodeLongLength 73 = .ok (.invokevirtual 35, 3) := by decide +kernel
theorem dX1_decodeLongLength_76 : decode cX1_decodeLongLength 76 = .ok (.iadd, 1) := by decide +kernel
theorem dX1_decodeLongLength_77 : decode cX1_decodeLongLength 77 = .ok (.putfield 25, 3) := by decide +kernel
theorem dX1_decodeLongLength_80 : decode cX1_decodeLongLength 80 = .ok (.iinc 6 1, 3) := by decide +kernel
theorem dX1_decodeLongLength_83 : decode cX1_decodeLongLength 83 = .ok (.goto (-50), 3) := by decide +kernel
theorem dX1_decodeLongLength_86 : decode cX1_decodeLongLength 86 = .ok (.aload_n 0, 1) := by decide +kernel
theorem dX1_decodeLongLength_87 : decode cX1_decodeLongLength 87 = .ok (.dup, 1) := by decide +kernel
theorem dX1_decodeLongLength_88 : decode cX1_decodeLongLength 88 = .ok (.getfield 28, 3) := by decide +kernel
theorem dX1_decodeLongLength_91 : decode cX1_decodeLongLength 91 = .ok (.iload_n 2, 1) := by decide +kernel
theorem dX1_decodeLongLength_92 : decode cX1_decodeLongLength 92 = .ok (.iadd, 1) := by decide +kernel
theorem dX1_decodeLongLength_93 : decode cX1_decodeLongLength 93 = .ok (.putfield 28, 3) := by decide +kernel
theorem dX1_decodeLongLength_96 : decode cX1_decodeLongLength 96 = .ok (.iload 4, 2) := by decide +kernel
theorem dX1_decodeLongLength_98 : decode cX1_decodeLongLength 98 = .ok (.ifCond .eq 18, 3) := by decide +kernel
theorem dX1_decodeLongLength_101 : decode cX1_decodeLongLength 101 = .ok (.iload 5, 2) := by decide +kernel
theorem dX1_decodeLongLength_103 : decode cX1_decodeLongLength 103 = .ok (.ifCond .ne 17, 3) := by decide +kernel
theorem dX1_decodeLongLength_106 : decode cX1_decodeLongLength 106 = .ok (.aload_n 0, 1) := by decide +kernel
theorem dX1_decodeLongLength_107 : decode cX1_decodeLongLength 107 = .ok (.getfield 25, 3) := by decide +kernel
theorem dX1_decodeLongLength_110 : decode cX1_decodeLongLength 110 = .ok (.sipush 128, 3) := by decide +kernel
theorem dX1_decodeLongLength_113 : decode cX1_decodeLongLength 113 = .ok (.if_icmp .lt 7, 3) := by decide +kernel
theorem dX1_decodeLongLength_116 : decode cX1_decodeLongLength 116 = .ok (.iconst 1, 1) := by decide +kernel
theorem dX1_decodeLongLength_117 : decode cX1_decodeLongLength 117 = .ok (.goto 4, 3) := by decide +kernel
theorem dX1_decodeLongLength_120 : decode cX1_decodeLongLength 120 = .ok (.iconst 0, 1) := by decide +kernel
theorem dX1_decodeLongLength_121 : decode cX1_decodeLongLength 121 = .ok (.ireturn, 1) := by decide +kernel
