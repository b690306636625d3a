theorem dX2_init_0 : decode cX2_init 0 = .ok (.aload_n 0, 1) := by decide +kernel
theorem dX2_init_1 : decode cX2_init 1 = .ok (.invokespecial 3, 3) := by decide +kernel
theorem dX2_init_4 : decode cX2_init 4 = .ok (.aload_n 0, 1) := by decide +kernel
theorem dX2_init_5 : decode cX2_init 5 = .ok (.new 9, 3) := by decide +kernel
theorem dX2_init_8 : decode cX2_init 8 = .ok (.dup, 1) := by decide +kernel
theorem dX2_init_9 : decode cX2_init 9 = .ok (.invokespecial 11, 3) := by decide +kernel
theorem dX2_init_12 : decode cX2_init 12 = .ok (.putfield 12, 3) := by decide +kernel
theorem dX2_init_15 : decode cX2_init 15 = .ok (.aload_n 0, 1) := by decide +kernel
theorem dX2_init_16 : decode cX2_init 16 = .ok (.new 18, 3) := by decide +kernel
theorem dX2_init_19 : decode cX2_init 19 = .ok (.dup, 1) := by decide +kernel
theorem dX2_init_20 : decode cX2_init 20 = .ok (.invokespecial 20, 3) := by decide +kernel
theorem dX2_init_23 : decode cX2_init 23 = .ok (.putfield 21, 3) := by decide +kernel
theorem dX2_init_26 : decode cX2_init 26 = .ok (.aload_n 0, 1) := by decide +kernel
theorem dX2_init_27 : decode cX2_init 27 = .ok (.bipush 64, 2) := by decide +kernel
theorem dX2_init_29 : decode cX2_init 29 = .ok (.newarray .int, 2) := by decide +kernel
theorem dX2_init_31 : decode cX2_init 31 = .ok (.putfield 25, 3) := by decide +kernel
theorem dX2_init_34 : decode cX2_init 34 = .ok (.aload_n 0, 1) := by decide +kernel
theorem dX2_init_35 : decode cX2_init 35 = .ok (.iconst 0, 1) := by decide +kernel
theorem dX2_init_36 : decode cX2_init 36 = .ok (.putfield 29, 3) := by decide +kernel
theorem dX2_init_39 : decode cX2_init 39 = .ok (.aload_n 0, 1) := by decide +kernel
theorem dX2_init_40 : decode cX2_init 40 = .ok (.iconst 0, 1) := by decide +kernel
theorem dX2_init_41 : decode cX2_init 41 = .ok (.putfield 33, 3) := by decide +kernel
theorem dX2_init_44 : decode cX2_init 44 = .ok (.return_, 1) := by decide +kernel
theorem dX2_layOut_0 : decode cX2_layOut 0 = .ok (.aload_n 0, 1) := by decide +kernel
theorem dX2_layOut_1 : decode cX2_layOut 1 = .ok (.getfield 12, 3) := by decide +kernel
theorem dX2_layOut_4 : decode cX2_layOut 4 = .ok (.aload_n 1, 1) := by decide +kernel
theorem dX2_layOut_5 : decode cX2_layOut 5 = .ok (.invokevirtual 41, 3) := by decide +kernel
theorem dX2_layOut_8 : decode cX2_layOut 8 = .ok (.aload_n 0, 1) := by decide +kernel
theorem dX2_layOut_9 : decode cX2_layOut 9 = .ok (.iload_n 2, 1) := by decide +kernel
theorem dX2_layOut_10 : decode cX2_layOut 10 = .ok (.putfield 33, 3) := by decide +kernel
theorem dX2_layOut_13 : decode cX2_layOut 13 = .ok (.aload_n 0, 1) := by decide +kernel
theorem dX2_layOut_14 : decode cX2_layOut 14 = .ok (.iconst 0, 1) := by decide +kernel
theorem dX2_layOut_15 : decode cX2_layOut 15 = .ok (.putfield 29, 3) := by decide +kernel
theorem dX2_layOut_18 : decode cX2_layOut 18 = .ok (.aload_n 0, 1) := by decide +kernel
theorem dX2_layOut_19 : decode cX2_layOut 19 = .ok (.iconst 0, 1) := by decide +kernel
theorem dX2_layOut_20 : decode cX2_layOut 20 = .ok (.aload_n 0, 1) := by decide +kernel
theorem dX2_layOut_21 : decode cX2_layOut 21 = .ok (.getfield 12, 3) := by decide +kernel
theorem dX2_layOut_24 : decode cX2_layOut 24 = .ok (.invokevirtual 45, 3) := by decide +kernel
theorem dX2_layOut_27 : decode cX2_layOut 27 = .ok (.iconst (-1), 1) := by decide +kernel
theorem dX2_layOut_28 : decode cX2_layOut 28 = .ok (.iconst 1, 1) := by decide +kernel
theorem dX2_layOut_29 : decode cX2_layOut 29 = .ok (.invokevirtual 49, 3) := by decide +kernel
theorem dX2_layOut_32 : decode cX2_layOut 32 = .ok (.istore_n 3, 1) := by decide +kernel
theorem dX2_layOut_33 : decode cX2_layOut 33 = .ok (.iload_n 3, 1) := by decide +kernel
theorem dX2_layOut_34 : decode cX2_layOut 34 = .ok (.iconst (-1), 1) := by decide +kernel
theorem dX2_layOut_35 : decode cX2_layOut 35 = .ok (.if_icmp .eq 18, 3) := by decide +kernel
theorem dX2_layOut_38 : decode cX2_layOut 38 = .ok (.iload_n 3, 1) := by decide +kernel
theorem dX2_layOut_39 : decode cX2_layOut 39 = .ok (.aload_n 0, 1) := by decide +kernel
theorem dX2_layOut_40 : decode cX2_layOut 40 = .ok (.getfield 12, 3) := by decide +kernel
theorem dX2_layOut_43 : decode cX2_layOut 43 = .ok (.invokevirtual 45, 3) := by decide +kernel
theorem dX2_layOut_46 : decode cX2_layOut 46 = .ok (.if_icmp .ne 7, 3) := by decide +kernel
theorem dX2_layOut_49 : decode cX2_layOut 49 = .ok (.iconst 1, 1) := by decide +kernel
theorem dX2_layOut_50 : decode cX2_layOut 50 = .ok (.goto 4, 3) := by decide +kernel
theorem dX2_layOut_53 : decode cX2_layOut 53 = .ok (.iconst 0, 1) := by decide +kernel
theorem dX2_layOut_54 : decode cX2_layOut 54 = .ok (.ireturn, 1) := by decide +kernel
theorem dX2_layOutValue_0 : decode cX2_layOutValue 0 = .ok (.iload 4, 2) := by decide +kernel
theorem dX2_layOutValue_2 : decode cX2_layOutValue 2 = .ok (.bipush 40, 2) := by decide +kernel
theorem dX2_layOutValue_4 : decode cX2_layOutValue 4 = .ok (.if_icmp .gt 33, 3) := by decide +kernel
theorem dX2_layOutValue_7 : decode cX2_layOutValue 7 = .ok (.aload_n 0, 1) := by decide +kernel
theorem dX2_layOutValue_8 : decode cX2_layOutValue 8 = .ok (.getfield 29, 3) := by decide +kernel
theorem dX2_layOutValue_11 : decode cX2_layOutValue 11 = .ok (.sipush 2048, 3) := by decide +kernel
theorem dX2_layOutValue_14 : decode cX2_layOutValue 14 = .ok (.if_icmp .ge 23, 3) := by decide +kernel
theorem dX2_layOutValue_17 : decode cX2_layOutValue 17 = .ok (.aload_n 0, 1) := by decide +kernel
theorem dX2_layOutValue_18 : decode cX2_layOutValue 18 = .ok (.getfield 21, 3) := by decide +kernel
theorem dX2_layOutValue_21 : decode cX2_layOutValue 21 = .ok (.aload_n 0, 1) := by decide +kernel
theorem dX2_layOutValue_22 : decode cX2_layOutValue 22 = .ok (.getfield 12, 3) := by decide +kernel
theorem dX2_layOutValue_25 : decode cX2_layOutValue 25 = .ok (.iload_n 1, 1) := by decide +kernel
theorem dX2_layOutValue_26 : decode cX2_layOutValue 26 = .ok (.iload_n 2, 1) := by decide +kernel
theorem dX2_layOutValue_27 : decode cX2_layOutValue 27 = .ok (.aload_n 0, 1) := by decide +kernel
theorem dX2_layOutValue_28 : decode cX2_layOutValue 28 = .ok (.getfield 33, 3) := by decide +kernel
theorem dX2_layOutValue_31 : decode cX2_layOutValue 31 = .ok (.invokevirtual 82, 3) := by decide +kernel
theorem dX2_layOutValue_34 : decode cX2_layOutValue 34 = .ok (.ifCond .ne 5, 3) := by decide +kernel
theorem dX2_layOutValue_37 : decode cX2_layOutValue 37 = .ok (.iconst (-1), 1) := by decide +kernel
theorem dX2_layOutValue_38 : decode cX2_layOutValue 38 = .ok (.ireturn, 1) := by decide +kernel
theorem dX2_layOutValue_39 : decode cX2_layOutValue 39 = .ok (.aload_n 0, 1) := by decide +kernel
theorem dX2_layOutValue_40 : decode cX2_layOutValue 40 = .ok (.iload_n 1, 1) := by decide +kernel
theorem dX2_layOutValue_41 : decode cX2_layOutValue 41 = .ok (.iload_n 3, 1) := by decide +kernel
theorem dX2_layOutValue_42 : decode cX2_layOutValue 42 = .ok (.invokevirtual 86, 3) := by decide +kernel
theorem dX2_layOutValue_45 : decode cX2_layOutValue 45 = .ok (.istore 5, 2) := by decide +kernel
theorem dX2_layOutValue_47 : decode cX2_layOutValue 47 = .ok (.aload_n 0, 1) := by decide +kernel
theorem dX2_layOutValue_48 : decode cX2_layOutValue 48 = .ok (.getfield 21, 3) := by decide +kernel
theorem dX2_layOutValue_51 : decode cX2_layOutValue 51 = .ok (.getfield 89, 3) := by decide +kernel
theorem dX2_layOutValue_54 : decode cX2_layOutValue 54 = .ok (.istore 6, 2) := by decide +kernel
theorem dX2_layOutValue_56 : decode cX2_layOutValue 56 = .ok (.aload_n 0, 1) := by decide +kernel
theorem dX2_layOutValue_57 : decode cX2_layOutValue 57 = .ok (.getfield 21, 3) := by decide +kernel
theorem dX2_layOutValue_60 : decode cX2_layOutValue 60 = .ok (.getfield 92, 3) := by decide +kernel
theorem dX2_layOutValue_63 : decode cX2_layOutValue 63 = .ok (.ifCond .eq 43, 3) := by decide +kernel
theorem dX2_layOutValue_66 : decode cX2_layOutValue 66 = .ok (.aload_n 0, 1) := by decide +kernel
theorem dX2_layOutValue_67 : decode cX2_layOutValue 67 = .ok (.iload 6, 2) := by decide +kernel
theorem dX2_layOutValue_69 : decode cX2_layOutValue 69 = .ok (.iload_n 2, 1) := by decide +kernel
theorem dX2_layOutValue_70 : decode cX2_layOutValue 70 = .ok (.iload 5, 2) := by decide +kernel
theorem dX2_layOutValue_72 : decode cX2_layOutValue 72 = .ok (.iload 4, 2) := by decide +kernel
theorem dX2_layOutValue_74 : decode cX2_layOutValue 74 = .ok (.iconst 1, 1) := by decide +kernel
theorem dX2_layOutValue_75 : decode cX2_layOutValue 75 = .ok (.iadd, 1) := by decide +kernel
theorem dX2_layOutValue_76 : decode cX2_layOutValue 76 = .ok (.invokevirtual 95, 3) := by decide +kernel
theorem dX2_layOutValue_79 : decode cX2_layOutValue 79 = .ok (.istore 7, 2) := by decide +kernel
theorem dX2_layOutValue_81 : decode cX2_layOutValue 81 = .ok (.iload 7, 2) := by decide +kernel
theorem dX2_layOutValue_83 : decode cX2_layOutValue 83 = .ok (.iconst (-1), 1) := by decide +kernel
theorem dX2_layOutValue_84 : decode cX2_layOutValue 84 = .ok (.if_icmp .ne 5, 3) := by decide +kernel
theorem dX2_layOutValue_87 : decode cX2_layOutValue 87 = .ok (.iconst (-1), 1) := by decide +kernel
theorem dX2_layOutValue_88 : decode cX2_layOutValue 88 = .ok (.ireturn, 1) := by decide +kernel
theorem dX2_layOutValue_89 : decode cX2_layOutValue 89 = .ok (.aload_n 0, 1) := by decide +kernel
theorem dX2_layOutValue_90 : decode cX2_layOutValue 90 = .ok (.iload 5, 2) := by decide +kernel
theorem dX2_layOutValue_92 : decode cX2_layOutValue 92 = .ok (.iconst 5, 1) := by decide +kernel
theorem dX2_layOutValue_93 : decode cX2_layOutValue 93 = .ok (.iload 7, 2) := by decide +kernel
theorem dX2_layOutValue_95 : decode cX2_layOutValue 95 = .ok (.iload 6, 2) := by decide +kernel
theorem dX2_layOutValue_97 : decode cX2_layOutValue 97 = .ok (.isub, 1) := by decide +kernel
theorem dX2_layOutValue_98 : decode cX2_layOutValue 98 = .ok (.invokevirtual 98, 3) := by decide +kernel
theorem dX2_layOutValue_101 : decode cX2_layOutValue 101 = .ok (.iload 7, 2) := by decide +kernel
theorem dX2_layOutValue_103 : decode cX2_layOutValue 103 = .ok (.iconst 2, 1) := by decide +kernel
theorem dX2_layOutValue_104 : decode cX2_layOutValue 104 = .ok (.iadd, 1) := by decide +kernel
theorem dX2_layOutValue_105 : decode cX2_layOutValue 105 = .ok (.ireturn, 1) := by decide +kernel
theorem dX2_layOutValue_106 : decode cX2_layOutValue 106 = .ok (.iload 6, 2) := by decide +kernel
theorem dX2_layOutValue_108 : decode cX2_layOutValue 108 = .ok (.aload_n 0, 1) := by decide +kernel
theorem dX2_layOutValue_109 : decode cX2_layOutValue 109 = .ok (.getfield 21, 3) := by decide +kernel
theorem dX2_layOutValue_112 : decode cX2_layOutValue 112 = .ok (.getfield 102, 3) := by decide +kernel
theorem dX2_layOutValue_115 : decode cX2_layOutValue 115 = .ok (.iadd, 1) := by decide +kernel
theorem dX2_layOutValue_116 : decode cX2_layOutValue 116 = .ok (.istore 7, 2) := by decide +kernel
theorem dX2_layOutValue_118 : decode cX2_layOutValue 118 = .ok (.aload_n 0, 1) := by decide +kernel
theorem dX2_layOutValue_119 : decode cX2_layOutValue 119 = .ok (.getfield 21, 3) := by decide +kernel
theorem dX2_layOutValue_122 : decode cX2_layOutValue 122 = .ok (.getfield 104, 3) := by decide +kernel
theorem dX2_layOutValue_125 : decode cX2_layOutValue 125 = .ok (.ifCond .eq 22, 3) := by decide +kernel
theorem dX2_layOutValue_128 : decode cX2_layOutValue 128 = .ok (.aload_n 0, 1) := by decide +kernel
theorem dX2_layOutValue_129 : decode cX2_layOutValue 129 = .ok (.iload 6, 2) := by decide +kernel
theorem dX2_layOutValue_131 : decode cX2_layOutValue 131 = .ok (.iload 7, 2) := by decide +kernel
theorem dX2_layOutValue_133 : decode cX2_layOutValue 133 = .ok (.iload 5, 2) := by decide +kernel
theorem dX2_layOutValue_135 : decode cX2_layOutValue 135 = .ok (.iload 4, 2) := by decide +kernel
theorem dX2_layOutValue_137 : decode cX2_layOutValue 137 = .ok (.iconst 1, 1) := by decide +kernel
theorem dX2_layOutValue_138 : decode cX2_layOutValue 138 = .ok (.iadd, 1) := by decide +kernel
theorem dX2_layOutValue_139 : decode cX2_layOutValue 139 = .ok (.invokevirtual 107, 3) := by decide +kernel
theorem dX2_layOutValue_142 : decode cX2_layOutValue 142 = .ok (.ifCond .ne 5, 3) := by decide +kernel
theorem dX2_layOutValue_145 : decode cX2_layOutValue 145 = .ok (.iconst (-1), 1) := by decide +kernel
theorem dX2_layOutValue_146 : decode cX2_layOutValue 146 = .ok (.ireturn, 1) := by decide +kernel
theorem dX2_layOutValue_147 : decode cX2_layOutValue 147 = .ok (.iload 7, 2) := by decide +kernel
theorem dX2_layOutValue_149 : decode cX2_layOutValue 149 = .ok (.ireturn, 1) := by decide +kernel
theorem dX2_enter_0 : decode cX2_enter 0 = .ok (.aload_n 0, 1) := by decide +kernel
theorem dX2_enter_1 : decode cX2_enter 1 = .ok (.getfield 29, 3) := by decide +kernel
theorem dX2_enter_4 : decode cX2_enter 4 = .ok (.istore_n 3, 1) := by decide +kernel
theorem dX2_enter_5 : decode cX2_enter 5 = .ok (.iload_n 3, 1) := by decide +kernel
theorem dX2_enter_6 : decode cX2_enter 6 = .ok (.iconst 1, 1) := by decide +kernel
theorem dX2_enter_7 : decode cX2_enter 7 = .ok (.iadd, 1) := by decide +kernel
theorem dX2_enter_8 : decode cX2_enter 8 = .ok (.bipush 8, 2) := by decide +kernel
theorem dX2_enter_10 : decode cX2_enter 10 = .ok (.imul, 1) := by decide +kernel
theorem dX2_enter_11 : decode cX2_enter 11 = .ok (.aload_n 0, 1) := by decide +kernel
theorem dX2_enter_12 : decode cX2_enter 12 = .ok (.getfield 25, 3) := by decide +kernel
theorem dX2_enter_15 : decode cX2_enter 15 = .ok (.arraylength, 1) := by decide +kernel
theorem dX2_enter_16 : decode cX2_enter 16 = .ok (.if_icmp .le 27, 3) := by decide +kernel
theorem dX2_enter_19 : decode cX2_enter 19 = .ok (.aload_n 0, 1) := by decide +kernel
theorem dX2_enter_20 : decode cX2_enter 20 = .ok (.aload_n 0, 1) := by decide +kernel
theorem dX2_enter_21 : decode cX2_enter 21 = .ok (.getfield 25, 3) := by decide +kernel
theorem dX2_enter_24 : decode cX2_enter 24 = .ok (.sipush 16384, 3) := by decide +kernel
theorem dX2_enter_27 : decode cX2_enter 27 = .ok (.iconst 2, 1) := by decide +kernel
theorem dX2_enter_28 : decode cX2_enter 28 = .ok (.aload_n 0, 1) := by decide +kernel
theorem dX2_enter_29 : decode cX2_enter 29 = .ok (.getfield 25, 3) := by decide +kernel
theorem dX2_enter_32 : decode cX2_enter 32 = .ok (.arraylength, 1) := by decide +kernel
theorem dX2_enter_33 : decode cX2_enter 33 = .ok (.imul, 1) := by decide +kernel
theorem dX2_enter_34 : decode cX2_enter 34 = .ok (.invokestatic 61, 3) := by decide +kernel
theorem dX2_enter_37 : decode cX2_enter 37 = .ok (.invokestatic 111, 3) := by decide +kernel
theorem dX2_enter_40 : decode cX2_enter 40 = .ok (.putfield 25, 3) := by decide +kernel
theorem dX2_enter_43 : decode cX2_enter 43 = .ok (.aload_n 0, 1) := by decide +kernel
theorem dX2_enter_44 : decode cX2_enter 44 = .ok (.iload_n 3, 1) := by decide +kernel
theorem dX2_enter_45 : decode cX2_enter 45 = .ok (.iconst 1, 1) := by decide +kernel
theorem dX2_enter_46 : decode cX2_enter 46 = .ok (.iadd, 1) := by decide +kernel
theorem dX2_enter_47 : decode cX2_enter 47 = .ok (.putfield 29, 3) := by decide +kernel
theorem dX2_enter_50 : decode cX2_enter 50 = .ok (.aload_n 0, 1) := by decide +kernel
theorem dX2_enter_51 : decode cX2_enter 51 = .ok (.iload_n 3, 1) := by decide +kernel
theorem dX2_enter_52 : decode cX2_enter 52 = .ok (.iconst 0, 1) := by decide +kernel
theorem dX2_enter_53 : decode cX2_enter 53 = .ok (.aload_n 0, 1) := by decide +kernel
theorem dX2_enter_54 : decode cX2_enter 54 = .ok (.getfield 21, 3) := by decide +kernel
theorem dX2_enter_57 : decode cX2_enter 57 = .ok (.getfield 117, 3) := by decide +kernel
theorem dX2_enter_60 : decode cX2_enter 60 = .ok (.invokevirtual 98, 3) := by decide +kernel
theorem dX2_enter_63 : decode cX2_enter 63 = .ok (.aload_n 0, 1) := by decide +kernel
theorem dX2_enter_64 : decode cX2_enter 64 = .ok (.iload_n 3, 1) := by decide +kernel
theorem dX2_enter_65 : decode cX2_enter 65 = .ok (.iconst 1, 1) := by decide +kernel
theorem dX2_enter_66 : decode cX2_enter 66 = .ok (.aload_n 0, 1) := by decide +kernel
theorem dX2_enter_67 : decode cX2_enter 67 = .ok (.getfield 21, 3) := by decide +kernel
theorem dX2_enter_70 : decode cX2_enter 70 = .ok (.getfield 120, 3) := by decide +kernel
theorem dX2_enter_73 : decode cX2_enter 73 = .ok (.invokevirtual 98, 3) := by decide +kernel
theorem dX2_enter_76 : decode cX2_enter 76 = .ok (.aload_n 0, 1) := by decide +kernel
theorem dX2_enter_77 : decode cX2_enter 77 = .ok (.iload_n 3, 1) := by decide +kernel
theorem dX2_enter_78 : decode cX2_enter 78 = .ok (.iconst 2, 1) := by decide +kernel
theorem dX2_enter_79 : decode cX2_enter 79 = .ok (.aload_n 0, 1) := by decide +kernel
theorem dX2_enter_80 : decode cX2_enter 80 = .ok (.getfield 21, 3) := by decide +kernel
theorem dX2_enter_83 : decode cX2_enter 83 = .ok (.getfield 104, 3) := by decide +kernel
theorem dX2_enter_86 : decode cX2_enter 86 = .ok (.ifCond .eq 7, 3) := by decide +kernel
theorem dX2_enter_89 : decode cX2_enter 89 = .ok (.iconst 1, 1) := by decide +kernel
theorem dX2_enter_90 : decode cX2_enter 90 = .ok (.goto 4, 3) := by decide +kernel
theorem dX2_enter_93 : decode cX2_enter 93 = .ok (.iconst 0, 1) := by decide +kernel
theorem dX2_enter_94 : decode cX2_enter 94 = .ok (.invokevirtual 98, 3) := by decide +kernel
theorem dX2_enter_97 : decode cX2_enter 97 = .ok (.aload_n 0, 1) := by decide +kernel
theorem dX2_enter_98 : decode cX2_enter 98 = .ok (.iload_n 3, 1) := by decide +kernel
theorem dX2_enter_99 : decode cX2_enter 99 = .ok (.iconst 3, 1) := by decide +kernel
theorem dX2_enter_100 : decode cX2_enter 100 = .ok (.iload_n 1, 1) := by decide +kernel
theorem dX2_enter_101 : decode cX2_enter 101 = .ok (.invokevirtual 98, 3) := by decide +kernel
theorem dX2_enter_104 : decode cX2_enter 104 = .ok (.aload_n 0, 1) := by decide +kernel
theorem dX2_enter_105 : decode cX2_enter 105 = .ok (.iload_n 3, 1) := by decide +kernel
theorem dX2_enter_106 : decode cX2_enter 106 = .ok (.iconst 4, 1) := by decide +kernel
theorem dX2_enter_107 : decode cX2_enter 107 = .ok (.aload_n 0, 1) := by decide +kernel
theorem dX2_enter_108 : decode cX2_enter 108 = .ok (.getfield 21, 3) := by decide +kernel
theorem dX2_enter_111 : decode cX2_enter 111 = .ok (.getfield 89, 3) := by decide +kernel
theorem dX2_enter_114 : decode cX2_enter 114 = .ok (.invokevirtual 98, 3) := by decide +kernel
theorem dX2_enter_117 : decode cX2_enter 117 = .ok (.aload_n 0, 1) := by decide +kernel
theorem dX2_enter_118 : decode cX2_enter 118 = .ok (.iload_n 3, 1) := by decide +kernel
theorem dX2_enter_119 : decode cX2_enter 119 = .ok (.iconst 5, 1) := by decide +kernel
theorem dX2_enter_120 : decode cX2_enter 120 = .ok (.aload_n 0, 1) := by decide +kernel
theorem dX2_enter_121 : decode cX2_enter 121 = .ok (.getfield 21, 3) := by decide +kernel
theorem dX2_enter_124 : decode cX2_enter 124 = .ok (.getfield 102, 3) := by decide +kernel
theorem dX2_enter_127 : decode cX2_enter 127 = .ok (.invokevirtual 98, 3) := by decide +kernel
theorem dX2_enter_130 : decode cX2_enter 130 = .ok (.aload_n 0, 1) := by decide +kernel
theorem dX2_enter_131 : decode cX2_enter 131 = .ok (.iload_n 3, 1) := by decide +kernel
theorem dX2_enter_132 : decode cX2_enter 132 = .ok (.bipush 6, 2) := by decide +kernel
theorem dX2_enter_134 : decode cX2_enter 134 = .ok (.iload_n 2, 1) := by decide +kernel
theorem dX2_enter_135 : decode cX2_enter 135 = .ok (.invokevirtual 98, 3) := by decide +kernel
theorem dX2_enter_138 : decode cX2_enter 138 = .ok (.aload_n 0, 1) := by decide +kernel
theorem dX2_enter_139 : decode cX2_enter 139 = .ok (.iload_n 3, 1) := by decide +kernel
theorem dX2_enter_140 : decode cX2_enter 140 = .ok (.bipush 7, 2) := by decide +kernel
theorem dX2_enter_142 : decode cX2_enter 142 = .ok (.iconst 0, 1) := by decide +kernel
theorem dX2_enter_143 : decode cX2_enter 143 = .ok (.invokevirtual 98, 3) := by decide +kernel
theorem dX2_enter_146 : decode cX2_enter 146 = .ok (.aload_n 0, 1) := by decide +kernel
theorem dX2_enter_147 : decode cX2_enter 147 = .ok (.iload_n 2, 1) := by decide +kernel
theorem dX2_enter_148 : decode cX2_enter 148 = .ok (.bipush 7, 2) := by decide +kernel
theorem dX2_enter_150 : decode cX2_enter 150 = .ok (.aload_n 0, 1) := by decide +kernel
theorem dX2_enter_151 : decode cX2_enter 151 = .ok (.iload_n 2, 1) := by decide +kernel
theorem dX2_enter_152 : decode cX2_enter 152 = .ok (.bipush 7, 2) := by decide +kernel
theorem dX2_enter_154 : decode cX2_enter 154 = .ok (.invokevirtual 53, 3) := by decide +kernel
theorem dX2_enter_157 : decode cX2_enter 157 = .ok (.iconst 1, 1) := by decide +kernel
theorem dX2_enter_158 : decode cX2_enter 158 = .ok (.iadd, 1) := by decide +kernel
theorem dX2_enter_159 : decode cX2_enter 159 = .ok (.invokevirtual 98, 3) := by decide +kernel
theorem dX2_enter_162 : decode cX2_enter 162 = .ok (.iload_n 3, 1) := by decide +kernel
theorem dX2_enter_163 : decode cX2_enter 163 = .ok (.ireturn, 1) := by decide +kernel
theorem dX2_put_0 : decode cX2_put 0 = .ok (.aload_n 0, 1) := by decide +kernel
theorem dX2_put_1 : decode cX2_put 1 = .ok (.iload_n 1, 1) := by decide +kernel
theorem dX2_put_2 : decode cX2_put 2 = .ok (.iload_n 2, 1) := by decide +kernel
theorem dX2_put_3 : decode cX2_put 3 = .ok (.invokevirtual 37, 3) := by decide +kernel
theorem dX2_put_6 : decode cX2_put 6 = .ok (.istore 4, 2) := by decide +kernel
theorem dX2_put_8 : decode cX2_put 8 = .ok (.iload 4, 2) := by decide +kernel
theorem dX2_put_10 : decode cX2_put 10 = .ok (.ifCond .lt 21, 3) := by decide +kernel
theorem dX2_put_13 : decode cX2_put 13 = .ok (.iload 4, 2) := by decide +kernel
theorem dX2_put_15 : decode cX2_put 15 = .ok (.aload_n 0, 1) := by decide +kernel
theorem dX2_put_16 : decode cX2_put 16 = .ok (.getfield 25, 3) := by decide +kernel
theorem dX2_put_19 : decode cX2_put 19 = .ok (.arraylength, 1) := by decide +kernel
theorem dX2_put_20 : decode cX2_put 20 = .ok (.if_icmp .ge 11, 3) := by decide +kernel
theorem dX2_put_23 : decode cX2_put 23 = .ok (.aload_n 0, 1) := by decide +kernel
theorem dX2_put_24 : decode cX2_put 24 = .ok (.getfield 25, 3) := by decide +kernel
theorem dX2_put_27 : decode cX2_put 27 = .ok (.iload 4, 2) := by decide +kernel
theorem dX2_put_29 : decode cX2_put 29 = .ok (.iload_n 3, 1) := by decide +kernel
theorem dX2_put_30 : decode cX2_put 30 = .ok (.iastore, 1) := by decide +kernel
theorem dX2_put_31 : decode cX2_put 31 = .ok (.return_, 1) := by decide +kernel
theorem dX2_indexOf_0 : decode cX2_indexOf 0 = .ok (.aload_n 0, 1) := by decide +kernel
theorem dX2_indexOf_1 : decode cX2_indexOf 1 = .ok (.iload_n 1, 1) := by decide +kernel
theorem dX2_indexOf_2 : decode cX2_indexOf 2 = .ok (.invokevirtual 78, 3) := by decide +kernel
theorem dX2_indexOf_5 : decode cX2_indexOf 5 = .ok (.ifCond .eq 22, 3) := by decide +kernel
theorem dX2_indexOf_8 : decode cX2_indexOf 8 = .ok (.iload_n 2, 1) := by decide +kernel
theorem dX2_indexOf_9 : decode cX2_indexOf 9 = .ok (.ifCond .lt 18, 3) := by decide +kernel
theorem dX2_indexOf_12 : decode cX2_indexOf 12 = .ok (.iload_n 2, 1) := by decide +kernel
theorem dX2_indexOf_13 : decode cX2_indexOf 13 = .ok (.bipush 8, 2) := by decide +kernel
theorem dX2_indexOf_15 : decode cX2_indexOf 15 = .ok (.if_icmp .ge 12, 3) := by decide +kernel
theorem dX2_indexOf_18 : decode cX2_indexOf 18 = .ok (.iload_n 1, 1) := by decide +kernel
theorem dX2_indexOf_19 : decode cX2_indexOf 19 = .ok (.bipush 8, 2) := by decide +kernel
theorem dX2_indexOf_21 : decode cX2_indexOf 21 = .ok (.imul, 1) := by decide +kernel
theorem dX2_indexOf_22 : decode cX2_indexOf 22 = .ok (.iload_n 2, 1) := by decide +kernel
theorem dX2_indexOf_23 : decode cX2_indexOf 23 = .ok (.iadd, 1) := by decide +kernel
theorem dX2_indexOf_24 : decode cX2_indexOf 24 = .ok (.goto 4, 3) := by decide +kernel
theorem dX2_indexOf_27 : decode cX2_indexOf 27 = .ok (.iconst (-1), 1) := by decide +kernel
theorem dX2_indexOf_28 : decode cX2_indexOf 28 = .ok (.ireturn, 1) := by decide +kernel
theorem dX2_has_0 : decode cX2_has 0 = .ok (.iload_n 1, 1) := by decide +kernel
theorem dX2_has_1 : decode cX2_has 1 = .ok (.ifCond .lt 15, 3) := by decide +kernel
theorem dX2_has_4 : decode cX2_has 4 = .ok (.iload_n 1, 1) := by decide +kernel
theorem dX2_has_5 : decode cX2_has 5 = .ok (.aload_n 0, 1) := by decide +kernel
theorem dX2_has_6 : decode cX2_has 6 = .ok (.getfield 29, 3) := by decide +kernel
theorem dX2_has_9 : decode cX2_has 9 = .ok (.if_icmp .ge 7, 3) := by decide +kernel
theorem dX2_has_12 : decode cX2_has 12 = .ok (.iconst 1, 1) := by decide +kernel
theorem dX2_has_13 : decode cX2_has 13 = .ok (.goto 4, 3) := by decide +kernel
theorem dX2_has_16 : decode cX2_has 16 = .ok (.iconst 0, 1) := by decide +kernel
theorem dX2_has_17 : decode cX2_has 17 = .ok (.ireturn, 1) := by decide +kernel
theorem dX2_get_0 : decode cX2_get 0 = .ok (.aload_n 0, 1) := by decide +kernel
theorem dX2_get_1 : decode cX2_get 1 = .ok (.iload_n 1, 1) := by decide +kernel
theorem dX2_get_2 : decode cX2_get 2 = .ok (.iload_n 2, 1) := by decide +kernel
theorem dX2_get_3 : decode cX2_get 3 = .ok (.invokevirtual 37, 3) := by decide +kernel
theorem dX2_get_6 : decode cX2_get 6 = .ok (.istore_n 3, 1) := by decide +kernel
theorem dX2_get_7 : decode cX2_get 7 = .ok (.iload_n 3, 1) := by decide +kernel
theorem dX2_get_8 : decode cX2_get 8 = .ok (.ifCond .lt 21, 3) := by decide +kernel
theorem dX2_get_11 : decode cX2_get 11 = .ok (.iload_n 3, 1) := by decide +kernel
theorem dX2_get_12 : decode cX2_get 12 = .ok (.aload_n 0, 1) := by decide +kernel
theorem dX2_get_13 : decode cX2_get 13 = .ok (.getfield 25, 3) := by decide +kernel
theorem dX2_get_16 : decode cX2_get 16 = .ok (.arraylength, 1) := by decide +kernel
theorem dX2_get_17 : decode cX2_get 17 = .ok (.if_icmp .ge 12, 3) := by decide +kernel
theorem dX2_get_20 : decode cX2_get 20 = .ok (.aload_n 0, 1) := by decide +kernel
theorem dX2_get_21 : decode cX2_get 21 = .ok (.getfield 25, 3) := by decide +kernel
theorem dX2_get_24 : decode cX2_get 24 = .ok (.iload_n 3, 1) := by decide +kernel
theorem dX2_get_25 : decode cX2_get 25 = .ok (.iaload, 1) := by decide +kernel
theorem dX2_get_26 : decode cX2_get 26 = .ok (.goto 4, 3) := by decide +kernel
theorem dX2_get_29 : decode cX2_get 29 = .ok (.iconst 0, 1) := by decide +kernel
theorem dX2_get_30 : decode cX2_get 30 = .ok (.ireturn, 1) := by decide +kernel
theorem dX2_layOutUpToZeros_0 : decode cX2_layOutUpToZeros 0 = .ok (.iload_n 1, 1) := by decide +kernel
theorem dX2_layOutUpToZeros_1 : decode cX2_layOutUpToZeros 1 = .ok (.istore 5, 2) := by decide +kernel
theorem dX2_layOutUpToZeros_3 : decode cX2_layOutUpToZeros 3 = .ok (.iconst 0, 1) := by decide +kernel
theorem dX2_layOutUpToZeros_4 : decode cX2_layOutUpToZeros 4 = .ok (.istore 6, 2) := by decide +kernel
theorem dX2_layOutUpToZeros_6 : decode cX2_layOutUpToZeros 6 = .ok (.iload 6, 2) := by decide +kernel
theorem dX2_layOutUpToZeros_8 : decode cX2_layOutUpToZeros 8 = .ok (.sipush 4096, 3) := by decide +kernel
theorem dX2_layOutUpToZeros_11 : decode cX2_layOutUpToZeros 11 = .ok (.if_icmp .ge 64, 3) := by decide +kernel
theorem dX2_layOutUpToZeros_14 : decode cX2_layOutUpToZeros 14 = .ok (.iload 5, 2) := by decide +kernel
theorem dX2_layOutUpToZeros_16 : decode cX2_layOutUpToZeros 16 = .ok (.iconst (-1), 1) := by decide +kernel
theorem dX2_layOutUpToZeros_17 : decode cX2_layOutUpToZeros 17 = .ok (.if_icmp .eq 58, 3) := by decide +kernel
theorem dX2_layOutUpToZeros_20 : decode cX2_layOutUpToZeros 20 = .ok (.iload 5, 2) := by decide +kernel
theorem dX2_layOutUpToZeros_22 : decode cX2_layOutUpToZeros 22 = .ok (.iload_n 2, 1) := by decide +kernel
theorem dX2_layOutUpToZeros_23 : decode cX2_layOutUpToZeros 23 = .ok (.iconst 1, 1) := by decide +kernel
theorem dX2_layOutUpToZeros_24 : decode cX2_layOutUpToZeros 24 = .ok (.isub, 1) := by decide +kernel
theorem dX2_layOutUpToZeros_25 : decode cX2_layOutUpToZeros 25 = .ok (.if_icmp .ge 50, 3) := by decide +kernel
theorem dX2_layOutUpToZeros_28 : decode cX2_layOutUpToZeros 28 = .ok (.aload_n 0, 1) := by decide +kernel
theorem dX2_layOutUpToZeros_29 : decode cX2_layOutUpToZeros 29 = .ok (.getfield 12, 3) := by decide +kernel
theorem dX2_layOutUpToZeros_32 : decode cX2_layOutUpToZeros 32 = .ok (.iload 5, 2) := by decide +kernel
theorem dX2_layOutUpToZeros_34 : decode cX2_layOutUpToZeros 34 = .ok (.invokevirtual 74, 3) := by decide +kernel
theorem dX2_layOutUpToZeros_37 : decode cX2_layOutUpToZeros 37 = .ok (.ifCond .ne 20, 3) := by decide +kernel
theorem dX2_layOutUpToZeros_40 : decode cX2_layOutUpToZeros 40 = .ok (.aload_n 0, 1) := by decide +kernel
theorem dX2_layOutUpToZeros_41 : decode cX2_layOutUpToZeros 41 = .ok (.getfield 12, 3) := by decide +kernel
theorem dX2_layOutUpToZeros_44 : decode cX2_layOutUpToZeros 44 = .ok (.iload 5, 2) := by decide +kernel
theorem dX2_layOutUpToZeros_46 : decode cX2_layOutUpToZeros 46 = .ok (.iconst 1, 1) := by decide +kernel
theorem dX2_layOutUpToZeros_47 : decode cX2_layOutUpToZeros 47 = .ok (.iadd, 1) := by decide +kernel
theorem dX2_layOutUpToZeros_48 : decode cX2_layOutUpToZeros 48 = .ok (.invokevirtual 74, 3) := by decide +kernel
theorem dX2_layOutUpToZeros_51 : decode cX2_layOutUpToZeros 51 = .ok (.ifCond .ne 6, 3) := by decide +kernel
theorem dX2_layOutUpToZeros_54 : decode cX2_layOutUpToZeros 54 = .ok (.iload 5, 2) := by decide +kernel
theorem dX2_layOutUpToZeros_56 : decode cX2_layOutUpToZeros 56 = .ok (.ireturn, 1) := by decide +kernel
theorem dX2_layOutUpToZeros_57 : decode cX2_layOutUpToZeros 57 = .ok (.aload_n 0, 1) := by decide +kernel
theorem dX2_layOutUpToZeros_58 : decode cX2_layOutUpToZeros 58 = .ok (.iload 5, 2) := by decide +kernel
theorem dX2_layOutUpToZeros_60 : decode cX2_layOutUpToZeros 60 = .ok (.iload_n 2, 1) := by decide +kernel
theorem dX2_layOutUpToZeros_61 : decode cX2_layOutUpToZeros 61 = .ok (.iload_n 3, 1) := by decide +kernel
theorem dX2_layOutUpToZeros_62 : decode cX2_layOutUpToZeros 62 = .ok (.iload 4, 2) := by decide +kernel
theorem dX2_layOutUpToZeros_64 : decode cX2_layOutUpToZeros 64 = .ok (.invokevirtual 49, 3) := by decide +kernel
theorem dX2_layOutUpToZeros_67 : decode cX2_layOutUpToZeros 67 = .ok (.istore 5, 2) := by decide +kernel
theorem dX2_layOutUpToZeros_69 : decode cX2_layOutUpToZeros 69 = .ok (.iinc 6 1, 3) := by decide +kernel
theorem dX2_layOutUpToZeros_72 : decode cX2_layOutUpToZeros 72 = .ok (.goto (-66), 3) := by decide +kernel
theorem dX2_layOutUpToZeros_75 : decode cX2_layOutUpToZeros 75 = .ok (.iconst (-1), 1) := by decide +kernel
theorem dX2_layOutUpToZeros_76 : decode cX2_layOutUpToZeros 76 = .ok (.ireturn, 1) := by decide +kernel
theorem dX2_layOutUpTo_0 : decode cX2_layOutUpTo 0 = .ok (.iload_n 1, 1) := by decide +kernel
theorem dX2_layOutUpTo_1 : decode cX2_layOutUpTo 1 = .ok (.istore 5, 2) := by decide +kernel
theorem dX2_layOutUpTo_3 : decode cX2_layOutUpTo 3 = .ok (.iconst 0, 1) := by decide +kernel
theorem dX2_layOutUpTo_4 : decode cX2_layOutUpTo 4 = .ok (.istore 6, 2) := by decide +kernel
theorem dX2_layOutUpTo_6 : decode cX2_layOutUpTo 6 = .ok (.iload 6, 2) := by decide +kernel
theorem dX2_layOutUpTo_8 : decode cX2_layOutUpTo 8 = .ok (.sipush 4096, 3) := by decide +kernel
theorem dX2_layOutUpTo_11 : decode cX2_layOutUpTo 11 = .ok (.if_icmp .ge 33, 3) := by decide +kernel
theorem dX2_layOutUpTo_14 : decode cX2_layOutUpTo 14 = .ok (.iload 5, 2) := by decide +kernel
theorem dX2_layOutUpTo_16 : decode cX2_layOutUpTo 16 = .ok (.iconst (-1), 1) := by decide +kernel
theorem dX2_layOutUpTo_17 : decode cX2_layOutUpTo 17 = .ok (.if_icmp .eq 27, 3) := by decide +kernel
theorem dX2_layOutUpTo_20 : decode cX2_layOutUpTo 20 = .ok (.iload 5, 2) := by decide +kernel
theorem dX2_layOutUpTo_22 : decode cX2_layOutUpTo 22 = .ok (.iload_n 2, 1) := by decide +kernel
theorem dX2_layOutUpTo_23 : decode cX2_layOutUpTo 23 = .ok (.if_icmp .ge 21, 3) := by decide +kernel
theorem dX2_layOutUpTo_26 : decode cX2_layOutUpTo 26 = .ok (.aload_n 0, 1) := by decide +kernel
theorem dX2_layOutUpTo_27 : decode cX2_layOutUpTo 27 = .ok (.iload 5, 2) := by decide +kernel
theorem dX2_layOutUpTo_29 : decode cX2_layOutUpTo 29 = .ok (.iload_n 2, 1) := by decide +kernel
theorem dX2_layOutUpTo_30 : decode cX2_layOutUpTo 30 = .ok (.iload_n 3, 1) := by decide +kernel
theorem dX2_layOutUpTo_31 : decode cX2_layOutUpTo 31 = .ok (.iload 4, 2) := by decide +kernel
theorem dX2_layOutUpTo_33 : decode cX2_layOutUpTo 33 = .ok (.invokevirtual 49, 3) := by decide +kernel
theorem dX2_layOutUpTo_36 : decode cX2_layOutUpTo 36 = .ok (.istore 5, 2) := by decide +kernel
theorem dX2_layOutUpTo_38 : decode cX2_layOutUpTo 38 = .ok (.iinc 6 1, 3) := by decide +kernel
theorem dX2_layOutUpTo_41 : decode cX2_layOutUpTo 41 = .ok (.goto (-35), 3) := by decide +kernel
theorem dX2_layOutUpTo_44 : decode cX2_layOutUpTo 44 = .ok (.iload 5, 2) := by decide +kernel
theorem dX2_layOutUpTo_46 : decode cX2_layOutUpTo 46 = .ok (.iload_n 2, 1) := by decide +kernel
theorem dX2_layOutUpTo_47 : decode cX2_layOutUpTo 47 = .ok (.if_icmp .ne 7, 3) := by decide +kernel
theorem dX2_layOutUpTo_50 : decode cX2_layOutUpTo 50 = .ok (.iconst 1, 1) := by decide +kernel
theorem dX2_layOutUpTo_51 : decode cX2_layOutUpTo 51 = .ok (.goto 4, 3) := by decide +kernel
theorem dX2_layOutUpTo_54 : decode cX2_layOutUpTo 54 = .ok (.iconst 0, 1) := by decide +kernel
theorem dX2_layOutUpTo_55 : decode cX2_layOutUpTo 55 = .ok (.ireturn, 1) := by decide +kernel
theorem dX2_size_0 : decode cX2_size 0 = .ok (.aload_n 0, 1) := by decide +kernel
theorem dX2_size_1 : decode cX2_size 1 = .ok (.getfield 29, 3) := by decide +kernel
theorem dX2_size_4 : decode cX2_size 4 = .ok (.ireturn, 1) := by decide +kernel
theorem dX2_holdsNumber_0 : decode cX2_holdsNumber 0 = .ok (.aload_n 0, 1) := by decide +kernel
theorem dX2_holdsNumber_1 : decode cX2_holdsNumber 1 = .ok (.iload_n 1, 1) := by decide +kernel
theorem dX2_holdsNumber_2 : decode cX2_holdsNumber 2 = .ok (.iconst 5, 1) := by decide +kernel
theorem dX2_holdsNumber_3 : decode cX2_holdsNumber 3 = .ok (.invokevirtual 53, 3) := by decide +kernel
theorem dX2_holdsNumber_6 : decode cX2_holdsNumber 6 = .ok (.istore_n 2, 1) := by decide +kernel
theorem dX2_holdsNumber_7 : decode cX2_holdsNumber 7 = .ok (.iload_n 2, 1) := by decide +kernel
theorem dX2_holdsNumber_8 : decode cX2_holdsNumber 8 = .ok (.iconst 1, 1) := by decide +kernel
theorem dX2_holdsNumber_9 : decode cX2_holdsNumber 9 = .ok (.if_icmp .lt 9, 3) := by decide +kernel
theorem dX2_holdsNumber_12 : decode cX2_holdsNumber 12 = .ok (.iload_n 2, 1) := by decide +kernel
theorem dX2_holdsNumber_13 : decode cX2_holdsNumber 13 = .ok (.bipush 8, 2) := by decide +kernel
theorem dX2_holdsNumber_15 : decode cX2_holdsNumber 15 = .ok (.if_icmp .le 5, 3) := by decide +kernel
theorem dX2_holdsNumber_18 : decode cX2_holdsNumber 18 = .ok (.iconst 0, 1) := by decide +kernel
theorem dX2_holdsNumber_19 : decode cX2_holdsNumber 19 = .ok (.ireturn, 1) := by decide +kernel
theorem dX2_holdsNumber_20 : decode cX2_holdsNumber 20 = .ok (.iload_n 2, 1) := by decide +kernel
theorem dX2_holdsNumber_21 : decode cX2_holdsNumber 21 = .ok (.iconst 1, 1) := by decide +kernel
theorem dX2_holdsNumber_22 : decode cX2_holdsNumber 22 = .ok (.if_icmp .ne 5, 3) := by decide +kernel
theorem dX2_holdsNumber_25 : decode cX2_holdsNumber 25 = .ok (.iconst 1, 1) := by decide +kernel
theorem dX2_holdsNumber_26 : decode cX2_holdsNumber 26 = .ok (.ireturn, 1) := by decide +kernel
theorem dX2_holdsNumber_27 : decode cX2_holdsNumber 27 = .ok (.aload_n 0, 1) := by decide +kernel
theorem dX2_holdsNumber_28 : decode cX2_holdsNumber 28 = .ok (.iload_n 1, 1) := by decide +kernel
theorem dX2_holdsNumber_29 : decode cX2_holdsNumber 29 = .ok (.iconst 0, 1) := by decide +kernel
theorem dX2_holdsNumber_30 : decode cX2_holdsNumber 30 = .ok (.invokevirtual 56, 3) := by decide +kernel
theorem dX2_holdsNumber_33 : decode cX2_holdsNumber 33 = .ok (.iconst 2, 1) := by decide +kernel
theorem dX2_holdsNumber_34 : decode cX2_holdsNumber 34 = .ok (.imul, 1) := by decide +kernel
theorem dX2_holdsNumber_35 : decode cX2_holdsNumber 35 = .ok (.aload_n 0, 1) := by decide +kernel
theorem dX2_holdsNumber_36 : decode cX2_holdsNumber 36 = .ok (.iload_n 1, 1) := by decide +kernel
theorem dX2_holdsNumber_37 : decode cX2_holdsNumber 37 = .ok (.iconst 1, 1) := by decide +kernel
theorem dX2_holdsNumber_38 : decode cX2_holdsNumber 38 = .ok (.invokevirtual 56, 3) := by decide +kernel
theorem dX2_holdsNumber_41 : decode cX2_holdsNumber 41 = .ok (.bipush 7, 2) := by decide +kernel
theorem dX2_holdsNumber_43 : decode cX2_holdsNumber 43 = .ok (.ishr, 1) := by decide +kernel
theorem dX2_holdsNumber_44 : decode cX2_holdsNumber 44 = .ok (.iadd, 1) := by decide +kernel
theorem dX2_holdsNumber_45 : decode cX2_holdsNumber 45 = .ok (.istore_n 3, 1) := by decide +kernel
theorem dX2_holdsNumber_46 : decode cX2_holdsNumber 46 = .ok (.iload_n 3, 1) := by decide +kernel
theorem dX2_holdsNumber_47 : decode cX2_holdsNumber 47 = .ok (.ifCond .eq 14, 3) := by decide +kernel
theorem dX2_holdsNumber_50 : decode cX2_holdsNumber 50 = .ok (.iload_n 3, 1) := by decide +kernel
theorem dX2_holdsNumber_51 : decode cX2_holdsNumber 51 = .ok (.sipush 511, 3) := by decide +kernel
theorem dX2_holdsNumber_54 : decode cX2_holdsNumber 54 = .ok (.if_icmp .eq 7, 3) := by decide +kernel
theorem dX2_holdsNumber_57 : decode cX2_holdsNumber 57 = .ok (.iconst 1, 1) := by decide +kernel
theorem dX2_holdsNumber_58 : decode cX2_holdsNumber 58 = .ok (.goto 4, 3) := by decide +kernel
theorem dX2_holdsNumber_61 : decode cX2_holdsNumber 61 = .ok (.iconst 0, 1) := by decide +kernel
theorem dX2_holdsNumber_62 : decode cX2_holdsNumber 62 = .ok (.ireturn, 1) := by decide +kernel
theorem dX2_contentsAt_0 : decode cX2_contentsAt 0 = .ok (.iload_n 2, 1) := by decide +kernel
theorem dX2_contentsAt_1 : decode cX2_contentsAt 1 = .ok (.ifCond .lt 31, 3) := by decide +kernel
theorem dX2_contentsAt_4 : decode cX2_contentsAt 4 = .ok (.iload_n 2, 1) := by decide +kernel
theorem dX2_contentsAt_5 : decode cX2_contentsAt 5 = .ok (.aload_n 0, 1) := by decide +kernel
theorem dX2_contentsAt_6 : decode cX2_contentsAt 6 = .ok (.iload_n 1, 1) := by decide +kernel
theorem dX2_contentsAt_7 : decode cX2_contentsAt 7 = .ok (.iconst 5, 1) := by decide +kernel
theorem dX2_contentsAt_8 : decode cX2_contentsAt 8 = .ok (.invokevirtual 53, 3) := by decide +kernel
theorem dX2_contentsAt_11 : decode cX2_contentsAt 11 = .ok (.if_icmp .ge 21, 3) := by decide +kernel
theorem dX2_contentsAt_14 : decode cX2_contentsAt 14 = .ok (.aload_n 0, 1) := by decide +kernel
theorem dX2_contentsAt_15 : decode cX2_contentsAt 15 = .ok (.getfield 12, 3) := by decide +kernel
theorem dX2_contentsAt_18 : decode cX2_contentsAt 18 = .ok (.aload_n 0, 1) := by decide +kernel
theorem dX2_contentsAt_19 : decode cX2_contentsAt 19 = .ok (.iload_n 1, 1) := by decide +kernel
theorem dX2_contentsAt_20 : decode cX2_contentsAt 20 = .ok (.iconst 4, 1) := by decide +kernel
theorem dX2_contentsAt_21 : decode cX2_contentsAt 21 = .ok (.invokevirtual 53, 3) := by decide +kernel
theorem dX2_contentsAt_24 : decode cX2_contentsAt 24 = .ok (.iload_n 2, 1) := by decide +kernel
theorem dX2_contentsAt_25 : decode cX2_contentsAt 25 = .ok (.iadd, 1) := by decide +kernel
theorem dX2_contentsAt_26 : decode cX2_contentsAt 26 = .ok (.invokevirtual 74, 3) := by decide +kernel
theorem dX2_contentsAt_29 : decode cX2_contentsAt 29 = .ok (.goto 4, 3) := by decide +kernel
theorem dX2_contentsAt_32 : decode cX2_contentsAt 32 = .ok (.iconst 0, 1) := by decide +kernel
theorem dX2_contentsAt_33 : decode cX2_contentsAt 33 = .ok (.ireturn, 1) := by decide +kernel
theorem dX2_signedContents_0 : decode cX2_signedContents 0 = .ok (.aload_n 0, 1) := by decide +kernel
theorem dX2_signedContents_1 : decode cX2_signedContents 1 = .ok (.iload_n 1, 1) := by decide +kernel
theorem dX2_signedContents_2 : decode cX2_signedContents 2 = .ok (.iconst 0, 1) := by decide +kernel
theorem dX2_signedContents_3 : decode cX2_signedContents 3 = .ok (.invokevirtual 56, 3) := by decide +kernel
theorem dX2_signedContents_6 : decode cX2_signedContents 6 = .ok (.sipush 128, 3) := by decide +kernel
theorem dX2_signedContents_9 : decode cX2_signedContents 9 = .ok (.if_icmp .lt 9, 3) := by decide +kernel
theorem dX2_signedContents_12 : decode cX2_signedContents 12 = .ok (.ldc2_w 59, 3) := by decide +kernel
theorem dX2_signedContents_15 : decode cX2_signedContents 15 = .ok (.goto 4, 3) := by decide +kernel
theorem dX2_signedContents_18 : decode cX2_signedContents 18 = .ok (.lconst 0, 1) := by decide +kernel
theorem dX2_signedContents_19 : decode cX2_signedContents 19 = .ok (.lstore_n 2, 1) := by decide +kernel
theorem dX2_signedContents_20 : decode cX2_signedContents 20 = .ok (.aload_n 0, 1) := by decide +kernel
theorem dX2_signedContents_21 : decode cX2_signedContents 21 = .ok (.iload_n 1, 1) := by decide +kernel
theorem dX2_signedContents_22 : decode cX2_signedContents 22 = .ok (.iconst 5, 1) := by decide +kernel
theorem dX2_signedContents_23 : decode cX2_signedContents 23 = .ok (.invokevirtual 53, 3) := by decide +kernel
theorem dX2_signedContents_26 : decode cX2_signedContents 26 = .ok (.bipush 8, 2) := by decide +kernel
theorem dX2_signedContents_28 : decode cX2_signedContents 28 = .ok (.invokestatic 61, 3) := by decide +kernel
theorem dX2_signedContents_31 : decode cX2_signedContents 31 = .ok (.istore 4, 2) := by decide +kernel
theorem dX2_signedContents_33 : decode cX2_signedContents 33 = .ok (.iconst 0, 1) := by decide +kernel
theorem dX2_signedContents_34 : decode cX2_signedContents 34 = .ok (.istore 5, 2) := by decide +kernel
theorem dX2_signedContents_36 : decode cX2_signedContents 36 = .ok (.iload 5, 2) := by decide +kernel
theorem dX2_signedContents_38 : decode cX2_signedContents 38 = .ok (.iload 4, 2) := by decide +kernel
theorem dX2_signedContents_40 : decode cX2_signedContents 40 = .ok (.if_icmp .ge 23, 3) := by decide +kernel
theorem dX2_signedContents_43 : decode cX2_signedContents 43 = .ok (.lload_n 2, 1) := by decide +kernel
theorem dX2_signedContents_44 : decode cX2_signedContents 44 = .ok (.bipush 8, 2) := by decide +kernel
theorem dX2_signedContents_46 : decode cX2_signedContents 46 = .ok (.lshl, 1) := by decide +kernel
theorem dX2_signedContents_47 : decode cX2_signedContents 47 = .ok (.aload_n 0, 1) := by decide +kernel
theorem dX2_signedContents_48 : decode cX2_signedContents 48 = .ok (.iload_n 1, 1) := by decide +kernel
theorem dX2_signedContents_49 : decode cX2_signedContents 49 = .ok (.iload 5, 2) := by decide +kernel
theorem dX2_signedContents_51 : decode cX2_signedContents 51 = .ok (.invokevirtual 56, 3) := by decide +kernel
theorem dX2_signedContents_54 : decode cX2_signedContents 54 = .ok (.i2l, 1) := by decide +kernel
theorem dX2_signedContents_55 : decode cX2_signedContents 55 = .ok (.lor, 1) := by decide +kernel
theorem dX2_signedContents_56 : decode cX2_signedContents 56 = .ok (.lstore_n 2, 1) := by decide +kernel
theorem dX2_signedContents_57 : decode cX2_signedContents 57 = .ok (.iinc 5 1, 3) := by decide +kernel
theorem dX2_signedContents_60 : decode cX2_signedContents 60 = .ok (.goto (-24), 3) := by decide +kernel
theorem dX2_signedContents_63 : decode cX2_signedContents 63 = .ok (.lload_n 2, 1) := by decide +kernel
theorem dX2_signedContents_64 : decode cX2_signedContents 64 = .ok (.lreturn, 1) := by decide +kernel
theorem dX2_orderOf_0 : decode cX2_orderOf 0 = .ok (.sipush 4096, 3) := by decide +kernel
theorem dX2_orderOf_3 : decode cX2_orderOf 3 = .ok (.aload_n 0, 1) := by decide +kernel
theorem dX2_orderOf_4 : decode cX2_orderOf 4 = .ok (.iload_n 1, 1) := by decide +kernel
theorem dX2_orderOf_5 : decode cX2_orderOf 5 = .ok (.iconst 5, 1) := by decide +kernel
theorem dX2_orderOf_6 : decode cX2_orderOf 6 = .ok (.invokevirtual 53, 3) := by decide +kernel
theorem dX2_orderOf_9 : decode cX2_orderOf 9 = .ok (.aload_n 0, 1) := by decide +kernel
theorem dX2_orderOf_10 : decode cX2_orderOf 10 = .ok (.iload_n 2, 1) := by decide +kernel
theorem dX2_orderOf_11 : decode cX2_orderOf 11 = .ok (.iconst 5, 1) := by decide +kernel
theorem dX2_orderOf_12 : decode cX2_orderOf 12 = .ok (.invokevirtual 53, 3) := by decide +kernel
theorem dX2_orderOf_15 : decode cX2_orderOf 15 = .ok (.invokestatic 66, 3) := by decide +kernel
theorem dX2_orderOf_18 : decode cX2_orderOf 18 = .ok (.invokestatic 61, 3) := by decide +kernel
theorem dX2_orderOf_21 : decode cX2_orderOf 21 = .ok (.istore_n 3, 1) := by decide +kernel
theorem dX2_orderOf_22 : decode cX2_orderOf 22 = .ok (.iconst 0, 1) := by decide +kernel
theorem dX2_orderOf_23 : decode cX2_orderOf 23 = .ok (.istore 4, 2) := by decide +kernel
theorem dX2_orderOf_25 : decode cX2_orderOf 25 = .ok (.iload 4, 2) := by decide +kernel
theorem dX2_orderOf_27 : decode cX2_orderOf 27 = .ok (.iload_n 3, 1) := by decide +kernel
theorem dX2_orderOf_28 : decode cX2_orderOf 28 = .ok (.if_icmp .ge 36, 3) := by decide +kernel
theorem dX2_orderOf_31 : decode cX2_orderOf 31 = .ok (.aload_n 0, 1) := by decide +kernel
theorem dX2_orderOf_32 : decode cX2_orderOf 32 = .ok (.iload_n 1, 1) := by decide +kernel
theorem dX2_orderOf_33 : decode cX2_orderOf 33 = .ok (.iload 4, 2) := by decide +kernel
theorem dX2_orderOf_35 : decode cX2_orderOf 35 = .ok (.invokevirtual 56, 3) := by decide +kernel
theorem dX2_orderOf_38 : decode cX2_orderOf 38 = .ok (.aload_n 0, 1) := by decide +kernel
theorem dX2_orderOf_39 : decode cX2_orderOf 39 = .ok (.iload_n 2, 1) := by decide +kernel
theorem dX2_orderOf_40 : decode cX2_orderOf 40 = .ok (.iload 4, 2) := by decide +kernel
theorem dX2_orderOf_42 : decode cX2_orderOf 42 = .ok (.invokevirtual 56, 3) := by decide +kernel
theorem dX2_orderOf_45 : decode cX2_orderOf 45 = .ok (.invokestatic 69, 3) := by decide +kernel
theorem dX2_orderOf_48 : decode cX2_orderOf 48 = .ok (.istore 5, 2) := by decide +kernel
theorem dX2_orderOf_50 : decode cX2_orderOf 50 = .ok (.iload 5, 2) := by decide +kernel
theorem dX2_orderOf_52 : decode cX2_orderOf 52 = .ok (.ifCond .eq 6, 3) := by decide +kernel
theorem dX2_orderOf_55 : decode cX2_orderOf 55 = .ok (.iload 5, 2) := by decide +kernel
theorem dX2_orderOf_57 : decode cX2_orderOf 57 = .ok (.ireturn, 1) := by decide +kernel
theorem dX2_orderOf_58 : decode cX2_orderOf 58 = .ok (.iinc 4 1, 3) := by decide +kernel
theorem dX2_orderOf_61 : decode cX2_orderOf 61 = .ok (.goto (-36), 3) := by decide +kernel
theorem dX2_orderOf_64 : decode cX2_orderOf 64 = .ok (.iconst 0, 1) := by decide +kernel
theorem dX2_orderOf_65 : decode cX2_orderOf 65 = .ok (.ireturn, 1) := by decide +kernel
