/-! decoded instructions (printed by gen.py) -/
theorem dd_Basics_isPrimitive_0 : decode prog_2_method_2_code 0 = .ok (.iload_n 0, 1) := by decide +kernel
theorem dd_Basics_isPrimitive_1 : decode prog_2_method_2_code 1 = .ok (.ifCond .lt 13, 3) := by decide +kernel
theorem dd_Basics_isPrimitive_4 : decode prog_2_method_2_code 4 = .ok (.iload_n 0, 1) := by decide +kernel
theorem dd_Basics_isPrimitive_5 : decode prog_2_method_2_code 5 = .ok (.bipush 7, 2) := by decide +kernel
theorem dd_Basics_isPrimitive_7 : decode prog_2_method_2_code 7 = .ok (.if_icmp .ge 7, 3) := by decide +kernel
theorem dd_Basics_isPrimitive_10 : decode prog_2_method_2_code 10 = .ok (.iconst 1, 1) := by decide +kernel
theorem dd_Basics_isPrimitive_11 : decode prog_2_method_2_code 11 = .ok (.goto 4, 3) := by decide +kernel
theorem dd_Basics_isPrimitive_14 : decode prog_2_method_2_code 14 = .ok (.iconst 0, 1) := by decide +kernel
theorem dd_Basics_isPrimitive_15 : decode prog_2_method_2_code 15 = .ok (.ireturn, 1) := by decide +kernel
theorem dd_Basics_isBox_0 : decode prog_2_method_3_code 0 = .ok (.iload_n 0, 1) := by decide +kernel
theorem dd_Basics_isBox_1 : decode prog_2_method_3_code 1 = .ok (.bipush 7, 2) := by decide +kernel
theorem dd_Basics_isBox_3 : decode prog_2_method_3_code 3 = .ok (.if_icmp .lt 13, 3) := by decide +kernel
theorem dd_Basics_isBox_6 : decode prog_2_method_3_code 6 = .ok (.iload_n 0, 1) := by decide +kernel
theorem dd_Basics_isBox_7 : decode prog_2_method_3_code 7 = .ok (.bipush 14, 2) := by decide +kernel
theorem dd_Basics_isBox_9 : decode prog_2_method_3_code 9 = .ok (.if_icmp .ge 7, 3) := by decide +kernel
theorem dd_Basics_isBox_12 : decode prog_2_method_3_code 12 = .ok (.iconst 1, 1) := by decide +kernel
theorem dd_Basics_isBox_13 : decode prog_2_method_3_code 13 = .ok (.goto 4, 3) := by decide +kernel
theorem dd_Basics_isBox_16 : decode prog_2_method_3_code 16 = .ok (.iconst 0, 1) := by decide +kernel
theorem dd_Basics_isBox_17 : decode prog_2_method_3_code 17 = .ok (.ireturn, 1) := by decide +kernel
theorem dd_Basics_isBasic_0 : decode prog_2_method_4_code 0 = .ok (.iload_n 0, 1) := by decide +kernel
theorem dd_Basics_isBasic_1 : decode prog_2_method_4_code 1 = .ok (.ifCond .lt 13, 3) := by decide +kernel
theorem dd_Basics_isBasic_4 : decode prog_2_method_4_code 4 = .ok (.iload_n 0, 1) := by decide +kernel
theorem dd_Basics_isBasic_5 : decode prog_2_method_4_code 5 = .ok (.bipush 14, 2) := by decide +kernel
theorem dd_Basics_isBasic_7 : decode prog_2_method_4_code 7 = .ok (.if_icmp .ge 7, 3) := by decide +kernel
theorem dd_Basics_isBasic_10 : decode prog_2_method_4_code 10 = .ok (.iconst 1, 1) := by decide +kernel
theorem dd_Basics_isBasic_11 : decode prog_2_method_4_code 11 = .ok (.goto 4, 3) := by decide +kernel
theorem dd_Basics_isBasic_14 : decode prog_2_method_4_code 14 = .ok (.iconst 0, 1) := by decide +kernel
theorem dd_Basics_isBasic_15 : decode prog_2_method_4_code 15 = .ok (.ireturn, 1) := by decide +kernel
theorem dd_Basics_kindOf_0 : decode prog_2_method_5_code 0 = .ok (.iload_n 0, 1) := by decide +kernel
theorem dd_Basics_kindOf_1 : decode prog_2_method_5_code 1 = .ok (.bipush 7, 2) := by decide +kernel
theorem dd_Basics_kindOf_3 : decode prog_2_method_5_code 3 = .ok (.if_icmp .ge 7, 3) := by decide +kernel
theorem dd_Basics_kindOf_6 : decode prog_2_method_5_code 6 = .ok (.iload_n 0, 1) := by decide +kernel
theorem dd_Basics_kindOf_7 : decode prog_2_method_5_code 7 = .ok (.goto 7, 3) := by decide +kernel
theorem dd_Basics_kindOf_10 : decode prog_2_method_5_code 10 = .ok (.iload_n 0, 1) := by decide +kernel
theorem dd_Basics_kindOf_11 : decode prog_2_method_5_code 11 = .ok (.bipush 7, 2) := by decide +kernel
theorem dd_Basics_kindOf_13 : decode prog_2_method_5_code 13 = .ok (.isub, 1) := by decide +kernel
theorem dd_Basics_kindOf_14 : decode prog_2_method_5_code 14 = .ok (.ireturn, 1) := by decide +kernel
theorem dd_Basics_isWhole_0 : decode prog_2_method_6_code 0 = .ok (.iload_n 0, 1) := by decide +kernel
theorem dd_Basics_isWhole_1 : decode prog_2_method_6_code 1 = .ok (.ifCond .lt 25, 3) := by decide +kernel
theorem dd_Basics_isWhole_4 : decode prog_2_method_6_code 4 = .ok (.iload_n 0, 1) := by decide +kernel
theorem dd_Basics_isWhole_5 : decode prog_2_method_6_code 5 = .ok (.bipush 14, 2) := by decide +kernel
theorem dd_Basics_isWhole_7 : decode prog_2_method_6_code 7 = .ok (.if_icmp .ge 19, 3) := by decide +kernel
theorem dd_Basics_isWhole_10 : decode prog_2_method_6_code 10 = .ok (.iload_n 0, 1) := by decide +kernel
theorem dd_Basics_isWhole_11 : decode prog_2_method_6_code 11 = .ok (.bipush 6, 2) := by decide +kernel
theorem dd_Basics_isWhole_13 : decode prog_2_method_6_code 13 = .ok (.if_icmp .eq 13, 3) := by decide +kernel
theorem dd_Basics_isWhole_16 : decode prog_2_method_6_code 16 = .ok (.iload_n 0, 1) := by decide +kernel
theorem dd_Basics_isWhole_17 : decode prog_2_method_6_code 17 = .ok (.bipush 13, 2) := by decide +kernel
theorem dd_Basics_isWhole_19 : decode prog_2_method_6_code 19 = .ok (.if_icmp .eq 7, 3) := by decide +kernel
theorem dd_Basics_isWhole_22 : decode prog_2_method_6_code 22 = .ok (.iconst 1, 1) := by decide +kernel
theorem dd_Basics_isWhole_23 : decode prog_2_method_6_code 23 = .ok (.goto 4, 3) := by decide +kernel
theorem dd_Basics_isWhole_26 : decode prog_2_method_6_code 26 = .ok (.iconst 0, 1) := by decide +kernel
theorem dd_Basics_isWhole_27 : decode prog_2_method_6_code 27 = .ok (.ireturn, 1) := by decide +kernel
theorem dd_Basics_isNull_0 : decode prog_2_method_7_code 0 = .ok (.iload_n 0, 1) := by decide +kernel
theorem dd_Basics_isNull_1 : decode prog_2_method_7_code 1 = .ok (.bipush 7, 2) := by decide +kernel
theorem dd_Basics_isNull_3 : decode prog_2_method_7_code 3 = .ok (.if_icmp .lt 15, 3) := by decide +kernel
theorem dd_Basics_isNull_6 : decode prog_2_method_7_code 6 = .ok (.lload_n 1, 1) := by decide +kernel
theorem dd_Basics_isNull_7 : decode prog_2_method_7_code 7 = .ok (.ldc2_w 9, 3) := by decide +kernel
theorem dd_Basics_isNull_10 : decode prog_2_method_7_code 10 = .ok (.lcmp, 1) := by decide +kernel
theorem dd_Basics_isNull_11 : decode prog_2_method_7_code 11 = .ok (.ifCond .ne 7, 3) := by decide +kernel
theorem dd_Basics_isNull_14 : decode prog_2_method_7_code 14 = .ok (.iconst 1, 1) := by decide +kernel
theorem dd_Basics_isNull_15 : decode prog_2_method_7_code 15 = .ok (.goto 4, 3) := by decide +kernel
theorem dd_Basics_isNull_18 : decode prog_2_method_7_code 18 = .ok (.iconst 0, 1) := by decide +kernel
theorem dd_Basics_isNull_19 : decode prog_2_method_7_code 19 = .ok (.ireturn, 1) := by decide +kernel
theorem dd_Basics_emptyOf_0 : decode prog_2_method_8_code 0 = .ok (.iload_n 0, 1) := by decide +kernel
theorem dd_Basics_emptyOf_1 : decode prog_2_method_8_code 1 = .ok (.bipush 7, 2) := by decide +kernel
theorem dd_Basics_emptyOf_3 : decode prog_2_method_8_code 3 = .ok (.if_icmp .ge 7, 3) := by decide +kernel
theorem dd_Basics_emptyOf_6 : decode prog_2_method_8_code 6 = .ok (.lconst 0, 1) := by decide +kernel
theorem dd_Basics_emptyOf_7 : decode prog_2_method_8_code 7 = .ok (.goto 6, 3) := by decide +kernel
theorem dd_Basics_emptyOf_10 : decode prog_2_method_8_code 10 = .ok (.ldc2_w 9, 3) := by decide +kernel
theorem dd_Basics_emptyOf_13 : decode prog_2_method_8_code 13 = .ok (.lreturn, 1) := by decide +kernel
theorem dd_Basics_holds_0 : decode prog_2_method_9_code 0 = .ok (.iload_n 0, 1) := by decide +kernel
theorem dd_Basics_holds_1 : decode prog_2_method_9_code 1 = .ok (.bipush 6, 2) := by decide +kernel
theorem dd_Basics_holds_3 : decode prog_2_method_9_code 3 = .ok (.if_icmp .ne 21, 3) := by decide +kernel
theorem dd_Basics_holds_6 : decode prog_2_method_9_code 6 = .ok (.lload_n 1, 1) := by decide +kernel
theorem dd_Basics_holds_7 : decode prog_2_method_9_code 7 = .ok (.ldc2_w 13, 3) := by decide +kernel
theorem dd_Basics_holds_10 : decode prog_2_method_9_code 10 = .ok (.land, 1) := by decide +kernel
theorem dd_Basics_holds_11 : decode prog_2_method_9_code 11 = .ok (.ldc2_w 15, 3) := by decide +kernel
theorem dd_Basics_holds_14 : decode prog_2_method_9_code 14 = .ok (.lcmp, 1) := by decide +kernel
theorem dd_Basics_holds_15 : decode prog_2_method_9_code 15 = .ok (.ifCond .gt 7, 3) := by decide +kernel
theorem dd_Basics_holds_18 : decode prog_2_method_9_code 18 = .ok (.iconst 1, 1) := by decide +kernel
theorem dd_Basics_holds_19 : decode prog_2_method_9_code 19 = .ok (.goto 4, 3) := by decide +kernel
theorem dd_Basics_holds_22 : decode prog_2_method_9_code 22 = .ok (.iconst 0, 1) := by decide +kernel
theorem dd_Basics_holds_23 : decode prog_2_method_9_code 23 = .ok (.ireturn, 1) := by decide +kernel
theorem dd_Basics_holds_24 : decode prog_2_method_9_code 24 = .ok (.iload_n 0, 1) := by decide +kernel
theorem dd_Basics_holds_25 : decode prog_2_method_9_code 25 = .ok (.ifCond .lt 35, 3) := by decide +kernel
theorem dd_Basics_holds_28 : decode prog_2_method_9_code 28 = .ok (.iload_n 0, 1) := by decide +kernel
theorem dd_Basics_holds_29 : decode prog_2_method_9_code 29 = .ok (.getstatic 17, 3) := by decide +kernel
theorem dd_Basics_holds_32 : decode prog_2_method_9_code 32 = .ok (.arraylength, 1) := by decide +kernel
theorem dd_Basics_holds_33 : decode prog_2_method_9_code 33 = .ok (.if_icmp .ge 27, 3) := by decide +kernel
theorem dd_Basics_holds_36 : decode prog_2_method_9_code 36 = .ok (.lload_n 1, 1) := by decide +kernel
theorem dd_Basics_holds_37 : decode prog_2_method_9_code 37 = .ok (.getstatic 17, 3) := by decide +kernel
theorem dd_Basics_holds_40 : decode prog_2_method_9_code 40 = .ok (.iload_n 0, 1) := by decide +kernel
theorem dd_Basics_holds_41 : decode prog_2_method_9_code 41 = .ok (.laload, 1) := by decide +kernel
theorem dd_Basics_holds_42 : decode prog_2_method_9_code 42 = .ok (.lcmp, 1) := by decide +kernel
theorem dd_Basics_holds_43 : decode prog_2_method_9_code 43 = .ok (.ifCond .lt 17, 3) := by decide +kernel
theorem dd_Basics_holds_46 : decode prog_2_method_9_code 46 = .ok (.lload_n 1, 1) := by decide +kernel
theorem dd_Basics_holds_47 : decode prog_2_method_9_code 47 = .ok (.getstatic 21, 3) := by decide +kernel
theorem dd_Basics_holds_50 : decode prog_2_method_9_code 50 = .ok (.iload_n 0, 1) := by decide +kernel
theorem dd_Basics_holds_51 : decode prog_2_method_9_code 51 = .ok (.laload, 1) := by decide +kernel
theorem dd_Basics_holds_52 : decode prog_2_method_9_code 52 = .ok (.lcmp, 1) := by decide +kernel
theorem dd_Basics_holds_53 : decode prog_2_method_9_code 53 = .ok (.ifCond .gt 7, 3) := by decide +kernel
theorem dd_Basics_holds_56 : decode prog_2_method_9_code 56 = .ok (.iconst 1, 1) := by decide +kernel
theorem dd_Basics_holds_57 : decode prog_2_method_9_code 57 = .ok (.goto 4, 3) := by decide +kernel
theorem dd_Basics_holds_60 : decode prog_2_method_9_code 60 = .ok (.iconst 0, 1) := by decide +kernel
theorem dd_Basics_holds_61 : decode prog_2_method_9_code 61 = .ok (.ireturn, 1) := by decide +kernel
theorem dd_Basics_cast_0 : decode prog_2_method_10_code 0 = .ok (.iload_n 0, 1) := by decide +kernel
theorem dd_Basics_cast_1 : decode prog_2_method_10_code 1 = .ok (.bipush 6, 2) := by decide +kernel
theorem dd_Basics_cast_3 : decode prog_2_method_10_code 3 = .ok (.if_icmp .ne 11, 3) := by decide +kernel
theorem dd_Basics_cast_6 : decode prog_2_method_10_code 6 = .ok (.iload_n 1, 1) := by decide +kernel
theorem dd_Basics_cast_7 : decode prog_2_method_10_code 7 = .ok (.bipush 6, 2) := by decide +kernel
theorem dd_Basics_cast_9 : decode prog_2_method_10_code 9 = .ok (.if_icmp .ne 5, 3) := by decide +kernel
theorem dd_Basics_cast_12 : decode prog_2_method_10_code 12 = .ok (.lload_n 2, 1) := by decide +kernel
theorem dd_Basics_cast_13 : decode prog_2_method_10_code 13 = .ok (.lreturn, 1) := by decide +kernel
theorem dd_Basics_cast_14 : decode prog_2_method_10_code 14 = .ok (.iload_n 0, 1) := by decide +kernel
theorem dd_Basics_cast_15 : decode prog_2_method_10_code 15 = .ok (.bipush 6, 2) := by decide +kernel
theorem dd_Basics_cast_17 : decode prog_2_method_10_code 17 = .ok (.if_icmp .ne 10, 3) := by decide +kernel
theorem dd_Basics_cast_20 : decode prog_2_method_10_code 20 = .ok (.lload_n 2, 1) := by decide +kernel
theorem dd_Basics_cast_21 : decode prog_2_method_10_code 21 = .ok (.invokestatic 24, 3) := by decide +kernel
theorem dd_Basics_cast_24 : decode prog_2_method_10_code 24 = .ok (.goto 4, 3) := by decide +kernel
theorem dd_Basics_cast_27 : decode prog_2_method_10_code 27 = .ok (.lload_n 2, 1) := by decide +kernel
theorem dd_Basics_cast_28 : decode prog_2_method_10_code 28 = .ok (.lstore 4, 2) := by decide +kernel
theorem dd_Basics_cast_30 : decode prog_2_method_10_code 30 = .ok (.iload_n 0, 1) := by decide +kernel
theorem dd_Basics_cast_31 : decode prog_2_method_10_code 31 = .ok (.bipush 6, 2) := by decide +kernel
theorem dd_Basics_cast_33 : decode prog_2_method_10_code 33 = .ok (.if_icmp .ne 28, 3) := by decide +kernel
theorem dd_Basics_cast_36 : decode prog_2_method_10_code 36 = .ok (.iload_n 1, 1) := by decide +kernel
theorem dd_Basics_cast_37 : decode prog_2_method_10_code 37 = .ok (.iconst 4, 1) := by decide +kernel
theorem dd_Basics_cast_38 : decode prog_2_method_10_code 38 = .ok (.if_icmp .eq 23, 3) := by decide +kernel
theorem dd_Basics_cast_41 : decode prog_2_method_10_code 41 = .ok (.getstatic 17, 3) := by decide +kernel
theorem dd_Basics_cast_44 : decode prog_2_method_10_code 44 = .ok (.iconst 3, 1) := by decide +kernel
theorem dd_Basics_cast_45 : decode prog_2_method_10_code 45 = .ok (.laload, 1) := by decide +kernel
theorem dd_Basics_cast_46 : decode prog_2_method_10_code 46 = .ok (.getstatic 21, 3) := by decide +kernel
theorem dd_Basics_cast_49 : decode prog_2_method_10_code 49 = .ok (.iconst 3, 1) := by decide +kernel
theorem dd_Basics_cast_50 : decode prog_2_method_10_code 50 = .ok (.laload, 1) := by decide +kernel
theorem dd_Basics_cast_51 : decode prog_2_method_10_code 51 = .ok (.lload 4, 2) := by decide +kernel
theorem dd_Basics_cast_53 : decode prog_2_method_10_code 53 = .ok (.invokestatic 28, 3) := by decide +kernel
theorem dd_Basics_cast_56 : decode prog_2_method_10_code 56 = .ok (.invokestatic 34, 3) := by decide +kernel
theorem dd_Basics_cast_59 : decode prog_2_method_10_code 59 = .ok (.lstore 4, 2) := by decide +kernel
theorem dd_Basics_cast_61 : decode prog_2_method_10_code 61 = .ok (.iload_n 1, 1) := by decide +kernel
theorem dd_Basics_cast_62 : decode prog_2_method_10_code 62 = .ok (.tableswitch 77 0 6 #[42, 48, 54, 61, 77, 66, 71], 42) := by decide +kernel
theorem dd_Basics_cast_104 : decode prog_2_method_10_code 104 = .ok (.lload 4, 2) := by decide +kernel
theorem dd_Basics_cast_106 : decode prog_2_method_10_code 106 = .ok (.l2i, 1) := by decide +kernel
theorem dd_Basics_cast_107 : decode prog_2_method_10_code 107 = .ok (.i2b, 1) := by decide +kernel
theorem dd_Basics_cast_108 : decode prog_2_method_10_code 108 = .ok (.i2l, 1) := by decide +kernel
theorem dd_Basics_cast_109 : decode prog_2_method_10_code 109 = .ok (.lreturn, 1) := by decide +kernel
theorem dd_Basics_cast_110 : decode prog_2_method_10_code 110 = .ok (.lload 4, 2) := by decide +kernel
theorem dd_Basics_cast_112 : decode prog_2_method_10_code 112 = .ok (.l2i, 1) := by decide +kernel
theorem dd_Basics_cast_113 : decode prog_2_method_10_code 113 = .ok (.i2s, 1) := by decide +kernel
theorem dd_Basics_cast_114 : decode prog_2_method_10_code 114 = .ok (.i2l, 1) := by decide +kernel
theorem dd_Basics_cast_115 : decode prog_2_method_10_code 115 = .ok (.lreturn, 1) := by decide +kernel
theorem dd_Basics_cast_116 : decode prog_2_method_10_code 116 = .ok (.lload 4, 2) := by decide +kernel
theorem dd_Basics_cast_118 : decode prog_2_method_10_code 118 = .ok (.ldc2_w 37, 3) := by decide +kernel
theorem dd_Basics_cast_121 : decode prog_2_method_10_code 121 = .ok (.land, 1) := by decide +kernel
theorem dd_Basics_cast_122 : decode prog_2_method_10_code 122 = .ok (.lreturn, 1) := by decide +kernel
theorem dd_Basics_cast_123 : decode prog_2_method_10_code 123 = .ok (.lload 4, 2) := by decide +kernel
theorem dd_Basics_cast_125 : decode prog_2_method_10_code 125 = .ok (.l2i, 1) := by decide +kernel
theorem dd_Basics_cast_126 : decode prog_2_method_10_code 126 = .ok (.i2l, 1) := by decide +kernel
theorem dd_Basics_cast_127 : decode prog_2_method_10_code 127 = .ok (.lreturn, 1) := by decide +kernel
theorem dd_Basics_cast_128 : decode prog_2_method_10_code 128 = .ok (.lload 4, 2) := by decide +kernel
theorem dd_Basics_cast_130 : decode prog_2_method_10_code 130 = .ok (.lconst 1, 1) := by decide +kernel
theorem dd_Basics_cast_131 : decode prog_2_method_10_code 131 = .ok (.land, 1) := by decide +kernel
theorem dd_Basics_cast_132 : decode prog_2_method_10_code 132 = .ok (.lreturn, 1) := by decide +kernel
theorem dd_Basics_cast_133 : decode prog_2_method_10_code 133 = .ok (.lload 4, 2) := by decide +kernel
theorem dd_Basics_cast_135 : decode prog_2_method_10_code 135 = .ok (.invokestatic 39, 3) := by decide +kernel
theorem dd_Basics_cast_138 : decode prog_2_method_10_code 138 = .ok (.lreturn, 1) := by decide +kernel
theorem dd_Basics_cast_139 : decode prog_2_method_10_code 139 = .ok (.lload 4, 2) := by decide +kernel
theorem dd_Basics_cast_141 : decode prog_2_method_10_code 141 = .ok (.lreturn, 1) := by decide +kernel
theorem dd_Basics_wholeOf_0 : decode prog_2_method_11_code 0 = .ok (.lload_n 0, 1) := by decide +kernel
theorem dd_Basics_wholeOf_1 : decode prog_2_method_11_code 1 = .ok (.bipush 52, 2) := by decide +kernel
theorem dd_Basics_wholeOf_3 : decode prog_2_method_11_code 3 = .ok (.lshr, 1) := by decide +kernel
theorem dd_Basics_wholeOf_4 : decode prog_2_method_11_code 4 = .ok (.ldc2_w 42, 3) := by decide +kernel
theorem dd_Basics_wholeOf_7 : decode prog_2_method_11_code 7 = .ok (.land, 1) := by decide +kernel
theorem dd_Basics_wholeOf_8 : decode prog_2_method_11_code 8 = .ok (.l2i, 1) := by decide +kernel
theorem dd_Basics_wholeOf_9 : decode prog_2_method_11_code 9 = .ok (.sipush 1023, 3) := by decide +kernel
theorem dd_Basics_wholeOf_12 : decode prog_2_method_11_code 12 = .ok (.isub, 1) := by decide +kernel
theorem dd_Basics_wholeOf_13 : decode prog_2_method_11_code 13 = .ok (.istore_n 2, 1) := by decide +kernel
theorem dd_Basics_wholeOf_14 : decode prog_2_method_11_code 14 = .ok (.iload_n 2, 1) := by decide +kernel
theorem dd_Basics_wholeOf_15 : decode prog_2_method_11_code 15 = .ok (.ifCond .ge 5, 3) := by decide +kernel
theorem dd_Basics_wholeOf_18 : decode prog_2_method_11_code 18 = .ok (.lconst 0, 1) := by decide +kernel
theorem dd_Basics_wholeOf_19 : decode prog_2_method_11_code 19 = .ok (.lreturn, 1) := by decide +kernel
theorem dd_Basics_wholeOf_20 : decode prog_2_method_11_code 20 = .ok (.iload_n 2, 1) := by decide +kernel
theorem dd_Basics_wholeOf_21 : decode prog_2_method_11_code 21 = .ok (.bipush 62, 2) := by decide +kernel
theorem dd_Basics_wholeOf_23 : decode prog_2_method_11_code 23 = .ok (.if_icmp .le 19, 3) := by decide +kernel
theorem dd_Basics_wholeOf_26 : decode prog_2_method_11_code 26 = .ok (.lload_n 0, 1) := by decide +kernel
theorem dd_Basics_wholeOf_27 : decode prog_2_method_11_code 27 = .ok (.lconst 0, 1) := by decide +kernel
theorem dd_Basics_wholeOf_28 : decode prog_2_method_11_code 28 = .ok (.lcmp, 1) := by decide +kernel
theorem dd_Basics_wholeOf_29 : decode prog_2_method_11_code 29 = .ok (.ifCond .ge 9, 3) := by decide +kernel
theorem dd_Basics_wholeOf_32 : decode prog_2_method_11_code 32 = .ok (.ldc2_w 44, 3) := by decide +kernel
theorem dd_Basics_wholeOf_35 : decode prog_2_method_11_code 35 = .ok (.goto 6, 3) := by decide +kernel
theorem dd_Basics_wholeOf_38 : decode prog_2_method_11_code 38 = .ok (.ldc2_w 13, 3) := by decide +kernel
theorem dd_Basics_wholeOf_41 : decode prog_2_method_11_code 41 = .ok (.lreturn, 1) := by decide +kernel
theorem dd_Basics_wholeOf_42 : decode prog_2_method_11_code 42 = .ok (.ldc2_w 46, 3) := by decide +kernel
theorem dd_Basics_wholeOf_45 : decode prog_2_method_11_code 45 = .ok (.lstore_n 3, 1) := by decide +kernel
theorem dd_Basics_wholeOf_46 : decode prog_2_method_11_code 46 = .ok (.lload_n 0, 1) := by decide +kernel
theorem dd_Basics_wholeOf_47 : decode prog_2_method_11_code 47 = .ok (.lload_n 3, 1) := by decide +kernel
theorem dd_Basics_wholeOf_48 : decode prog_2_method_11_code 48 = .ok (.lconst 1, 1) := by decide +kernel
theorem dd_Basics_wholeOf_49 : decode prog_2_method_11_code 49 = .ok (.lsub, 1) := by decide +kernel
theorem dd_Basics_wholeOf_50 : decode prog_2_method_11_code 50 = .ok (.land, 1) := by decide +kernel
theorem dd_Basics_wholeOf_51 : decode prog_2_method_11_code 51 = .ok (.lload_n 3, 1) := by decide +kernel
theorem dd_Basics_wholeOf_52 : decode prog_2_method_11_code 52 = .ok (.lor, 1) := by decide +kernel
theorem dd_Basics_wholeOf_53 : decode prog_2_method_11_code 53 = .ok (.lstore 5, 2) := by decide +kernel
theorem dd_Basics_wholeOf_55 : decode prog_2_method_11_code 55 = .ok (.iload_n 2, 1) := by decide +kernel
theorem dd_Basics_wholeOf_56 : decode prog_2_method_11_code 56 = .ok (.bipush 52, 2) := by decide +kernel
theorem dd_Basics_wholeOf_58 : decode prog_2_method_11_code 58 = .ok (.if_icmp .ge 13, 3) := by decide +kernel
theorem dd_Basics_wholeOf_61 : decode prog_2_method_11_code 61 = .ok (.lload 5, 2) := by decide +kernel
theorem dd_Basics_wholeOf_63 : decode prog_2_method_11_code 63 = .ok (.bipush 52, 2) := by decide +kernel
theorem dd_Basics_wholeOf_65 : decode prog_2_method_11_code 65 = .ok (.iload_n 2, 1) := by decide +kernel
theorem dd_Basics_wholeOf_66 : decode prog_2_method_11_code 66 = .ok (.isub, 1) := by decide +kernel
theorem dd_Basics_wholeOf_67 : decode prog_2_method_11_code 67 = .ok (.lshr, 1) := by decide +kernel
theorem dd_Basics_wholeOf_68 : decode prog_2_method_11_code 68 = .ok (.goto 10, 3) := by decide +kernel
theorem dd_Basics_wholeOf_71 : decode prog_2_method_11_code 71 = .ok (.lload 5, 2) := by decide +kernel
theorem dd_Basics_wholeOf_73 : decode prog_2_method_11_code 73 = .ok (.iload_n 2, 1) := by decide +kernel
theorem dd_Basics_wholeOf_74 : decode prog_2_method_11_code 74 = .ok (.bipush 52, 2) := by decide +kernel
theorem dd_Basics_wholeOf_76 : decode prog_2_method_11_code 76 = .ok (.isub, 1) := by decide +kernel
theorem dd_Basics_wholeOf_77 : decode prog_2_method_11_code 77 = .ok (.lshl, 1) := by decide +kernel
theorem dd_Basics_wholeOf_78 : decode prog_2_method_11_code 78 = .ok (.lstore 7, 2) := by decide +kernel
theorem dd_Basics_wholeOf_80 : decode prog_2_method_11_code 80 = .ok (.lload_n 0, 1) := by decide +kernel
theorem dd_Basics_wholeOf_81 : decode prog_2_method_11_code 81 = .ok (.lconst 0, 1) := by decide +kernel
theorem dd_Basics_wholeOf_82 : decode prog_2_method_11_code 82 = .ok (.lcmp, 1) := by decide +kernel
theorem dd_Basics_wholeOf_83 : decode prog_2_method_11_code 83 = .ok (.ifCond .ge 9, 3) := by decide +kernel
theorem dd_Basics_wholeOf_86 : decode prog_2_method_11_code 86 = .ok (.lload 7, 2) := by decide +kernel
theorem dd_Basics_wholeOf_88 : decode prog_2_method_11_code 88 = .ok (.lneg, 1) := by decide +kernel
theorem dd_Basics_wholeOf_89 : decode prog_2_method_11_code 89 = .ok (.goto 5, 3) := by decide +kernel
theorem dd_Basics_wholeOf_92 : decode prog_2_method_11_code 92 = .ok (.lload 7, 2) := by decide +kernel
theorem dd_Basics_wholeOf_94 : decode prog_2_method_11_code 94 = .ok (.lreturn, 1) := by decide +kernel
theorem dd_Basics_nearestDouble_0 : decode prog_2_method_12_code 0 = .ok (.lload_n 0, 1) := by decide +kernel
theorem dd_Basics_nearestDouble_1 : decode prog_2_method_12_code 1 = .ok (.lconst 0, 1) := by decide +kernel
theorem dd_Basics_nearestDouble_2 : decode prog_2_method_12_code 2 = .ok (.lcmp, 1) := by decide +kernel
theorem dd_Basics_nearestDouble_3 : decode prog_2_method_12_code 3 = .ok (.ifCond .ne 5, 3) := by decide +kernel
theorem dd_Basics_nearestDouble_6 : decode prog_2_method_12_code 6 = .ok (.lconst 0, 1) := by decide +kernel
theorem dd_Basics_nearestDouble_7 : decode prog_2_method_12_code 7 = .ok (.lreturn, 1) := by decide +kernel
theorem dd_Basics_nearestDouble_8 : decode prog_2_method_12_code 8 = .ok (.lload_n 0, 1) := by decide +kernel
theorem dd_Basics_nearestDouble_9 : decode prog_2_method_12_code 9 = .ok (.lconst 0, 1) := by decide +kernel
theorem dd_Basics_nearestDouble_10 : decode prog_2_method_12_code 10 = .ok (.lcmp, 1) := by decide +kernel
theorem dd_Basics_nearestDouble_11 : decode prog_2_method_12_code 11 = .ok (.ifCond .ge 8, 3) := by decide +kernel
theorem dd_Basics_nearestDouble_14 : decode prog_2_method_12_code 14 = .ok (.lload_n 0, 1) := by decide +kernel
theorem dd_Basics_nearestDouble_15 : decode prog_2_method_12_code 15 = .ok (.lneg, 1) := by decide +kernel
theorem dd_Basics_nearestDouble_16 : decode prog_2_method_12_code 16 = .ok (.goto 4, 3) := by decide +kernel
theorem dd_Basics_nearestDouble_19 : decode prog_2_method_12_code 19 = .ok (.lload_n 0, 1) := by decide +kernel
theorem dd_Basics_nearestDouble_20 : decode prog_2_method_12_code 20 = .ok (.lstore_n 2, 1) := by decide +kernel
theorem dd_Basics_nearestDouble_21 : decode prog_2_method_12_code 21 = .ok (.bipush 63, 2) := by decide +kernel
theorem dd_Basics_nearestDouble_23 : decode prog_2_method_12_code 23 = .ok (.istore 4, 2) := by decide +kernel
theorem dd_Basics_nearestDouble_25 : decode prog_2_method_12_code 25 = .ok (.iload 4, 2) := by decide +kernel
theorem dd_Basics_nearestDouble_27 : decode prog_2_method_12_code 27 = .ok (.ifCond .le 18, 3) := by decide +kernel
theorem dd_Basics_nearestDouble_30 : decode prog_2_method_12_code 30 = .ok (.lload_n 2, 1) := by decide +kernel
theorem dd_Basics_nearestDouble_31 : decode prog_2_method_12_code 31 = .ok (.iload 4, 2) := by decide +kernel
theorem dd_Basics_nearestDouble_33 : decode prog_2_method_12_code 33 = .ok (.lushr, 1) := by decide +kernel
theorem dd_Basics_nearestDouble_34 : decode prog_2_method_12_code 34 = .ok (.lconst 0, 1) := by decide +kernel
theorem dd_Basics_nearestDouble_35 : decode prog_2_method_12_code 35 = .ok (.lcmp, 1) := by decide +kernel
theorem dd_Basics_nearestDouble_36 : decode prog_2_method_12_code 36 = .ok (.ifCond .ne 9, 3) := by decide +kernel
theorem dd_Basics_nearestDouble_39 : decode prog_2_method_12_code 39 = .ok (.iinc 4 (-1), 3) := by decide +kernel
theorem dd_Basics_nearestDouble_42 : decode prog_2_method_12_code 42 = .ok (.goto (-17), 3) := by decide +kernel
theorem dd_Basics_nearestDouble_45 : decode prog_2_method_12_code 45 = .ok (.iload 4, 2) := by decide +kernel
theorem dd_Basics_nearestDouble_47 : decode prog_2_method_12_code 47 = .ok (.bipush 52, 2) := by decide +kernel
theorem dd_Basics_nearestDouble_49 : decode prog_2_method_12_code 49 = .ok (.if_icmp .le 7, 3) := by decide +kernel
theorem dd_Basics_nearestDouble_52 : decode prog_2_method_12_code 52 = .ok (.lload_n 2, 1) := by decide +kernel
theorem dd_Basics_nearestDouble_53 : decode prog_2_method_12_code 53 = .ok (.goto 10, 3) := by decide +kernel
theorem dd_Basics_nearestDouble_56 : decode prog_2_method_12_code 56 = .ok (.lload_n 2, 1) := by decide +kernel
theorem dd_Basics_nearestDouble_57 : decode prog_2_method_12_code 57 = .ok (.bipush 52, 2) := by decide +kernel
theorem dd_Basics_nearestDouble_59 : decode prog_2_method_12_code 59 = .ok (.iload 4, 2) := by decide +kernel
theorem dd_Basics_nearestDouble_61 : decode prog_2_method_12_code 61 = .ok (.isub, 1) := by decide +kernel
theorem dd_Basics_nearestDouble_62 : decode prog_2_method_12_code 62 = .ok (.lshl, 1) := by decide +kernel
theorem dd_Basics_nearestDouble_63 : decode prog_2_method_12_code 63 = .ok (.lstore 5, 2) := by decide +kernel
theorem dd_Basics_nearestDouble_65 : decode prog_2_method_12_code 65 = .ok (.iload 4, 2) := by decide +kernel
theorem dd_Basics_nearestDouble_67 : decode prog_2_method_12_code 67 = .ok (.bipush 52, 2) := by decide +kernel
theorem dd_Basics_nearestDouble_69 : decode prog_2_method_12_code 69 = .ok (.if_icmp .le 81, 3) := by decide +kernel
theorem dd_Basics_nearestDouble_72 : decode prog_2_method_12_code 72 = .ok (.iload 4, 2) := by decide +kernel
theorem dd_Basics_nearestDouble_74 : decode prog_2_method_12_code 74 = .ok (.bipush 52, 2) := by decide +kernel
theorem dd_Basics_nearestDouble_76 : decode prog_2_method_12_code 76 = .ok (.isub, 1) := by decide +kernel
theorem dd_Basics_nearestDouble_77 : decode prog_2_method_12_code 77 = .ok (.istore 7, 2) := by decide +kernel
theorem dd_Basics_nearestDouble_79 : decode prog_2_method_12_code 79 = .ok (.lload_n 2, 1) := by decide +kernel
theorem dd_Basics_nearestDouble_80 : decode prog_2_method_12_code 80 = .ok (.lconst 1, 1) := by decide +kernel
theorem dd_Basics_nearestDouble_81 : decode prog_2_method_12_code 81 = .ok (.iload 7, 2) := by decide +kernel
theorem dd_Basics_nearestDouble_83 : decode prog_2_method_12_code 83 = .ok (.lshl, 1) := by decide +kernel
theorem dd_Basics_nearestDouble_84 : decode prog_2_method_12_code 84 = .ok (.lconst 1, 1) := by decide +kernel
theorem dd_Basics_nearestDouble_85 : decode prog_2_method_12_code 85 = .ok (.lsub, 1) := by decide +kernel
theorem dd_Basics_nearestDouble_86 : decode prog_2_method_12_code 86 = .ok (.land, 1) := by decide +kernel
theorem dd_Basics_nearestDouble_87 : decode prog_2_method_12_code 87 = .ok (.lstore 8, 2) := by decide +kernel
theorem dd_Basics_nearestDouble_89 : decode prog_2_method_12_code 89 = .ok (.lconst 1, 1) := by decide +kernel
theorem dd_Basics_nearestDouble_90 : decode prog_2_method_12_code 90 = .ok (.iload 7, 2) := by decide +kernel
theorem dd_Basics_nearestDouble_92 : decode prog_2_method_12_code 92 = .ok (.iconst 1, 1) := by decide +kernel
theorem dd_Basics_nearestDouble_93 : decode prog_2_method_12_code 93 = .ok (.isub, 1) := by decide +kernel
theorem dd_Basics_nearestDouble_94 : decode prog_2_method_12_code 94 = .ok (.lshl, 1) := by decide +kernel
theorem dd_Basics_nearestDouble_95 : decode prog_2_method_12_code 95 = .ok (.lstore 10, 2) := by decide +kernel
theorem dd_Basics_nearestDouble_97 : decode prog_2_method_12_code 97 = .ok (.lload_n 2, 1) := by decide +kernel
theorem dd_Basics_nearestDouble_98 : decode prog_2_method_12_code 98 = .ok (.iload 7, 2) := by decide +kernel
theorem dd_Basics_nearestDouble_100 : decode prog_2_method_12_code 100 = .ok (.lushr, 1) := by decide +kernel
theorem dd_Basics_nearestDouble_101 : decode prog_2_method_12_code 101 = .ok (.lstore 5, 2) := by decide +kernel
theorem dd_Basics_nearestDouble_103 : decode prog_2_method_12_code 103 = .ok (.lload 8, 2) := by decide +kernel
theorem dd_Basics_nearestDouble_105 : decode prog_2_method_12_code 105 = .ok (.lload 10, 2) := by decide +kernel
theorem dd_Basics_nearestDouble_107 : decode prog_2_method_12_code 107 = .ok (.lcmp, 1) := by decide +kernel
theorem dd_Basics_nearestDouble_108 : decode prog_2_method_12_code 108 = .ok (.ifCond .gt 20, 3) := by decide +kernel
theorem dd_Basics_nearestDouble_111 : decode prog_2_method_12_code 111 = .ok (.lload 8, 2) := by decide +kernel
theorem dd_Basics_nearestDouble_113 : decode prog_2_method_12_code 113 = .ok (.lload 10, 2) := by decide +kernel
theorem dd_Basics_nearestDouble_115 : decode prog_2_method_12_code 115 = .ok (.lcmp, 1) := by decide +kernel
theorem dd_Basics_nearestDouble_116 : decode prog_2_method_12_code 116 = .ok (.ifCond .ne 16, 3) := by decide +kernel
theorem dd_Basics_nearestDouble_119 : decode prog_2_method_12_code 119 = .ok (.lload 5, 2) := by decide +kernel
theorem dd_Basics_nearestDouble_121 : decode prog_2_method_12_code 121 = .ok (.lconst 1, 1) := by decide +kernel
theorem dd_Basics_nearestDouble_122 : decode prog_2_method_12_code 122 = .ok (.land, 1) := by decide +kernel
theorem dd_Basics_nearestDouble_123 : decode prog_2_method_12_code 123 = .ok (.lconst 1, 1) := by decide +kernel
theorem dd_Basics_nearestDouble_124 : decode prog_2_method_12_code 124 = .ok (.lcmp, 1) := by decide +kernel
theorem dd_Basics_nearestDouble_125 : decode prog_2_method_12_code 125 = .ok (.ifCond .ne 7, 3) := by decide +kernel
theorem dd_Basics_nearestDouble_128 : decode prog_2_method_12_code 128 = .ok (.iconst 1, 1) := by decide +kernel
theorem dd_Basics_nearestDouble_129 : decode prog_2_method_12_code 129 = .ok (.goto 4, 3) := by decide +kernel
theorem dd_Basics_nearestDouble_132 : decode prog_2_method_12_code 132 = .ok (.iconst 0, 1) := by decide +kernel
theorem dd_Basics_nearestDouble_133 : decode prog_2_method_12_code 133 = .ok (.istore 12, 2) := by decide +kernel
theorem dd_Basics_nearestDouble_135 : decode prog_2_method_12_code 135 = .ok (.lload 5, 2) := by decide +kernel
theorem dd_Basics_nearestDouble_137 : decode prog_2_method_12_code 137 = .ok (.iload 12, 2) := by decide +kernel
theorem dd_Basics_nearestDouble_139 : decode prog_2_method_12_code 139 = .ok (.ifCond .eq 7, 3) := by decide +kernel
theorem dd_Basics_nearestDouble_142 : decode prog_2_method_12_code 142 = .ok (.lconst 1, 1) := by decide +kernel
theorem dd_Basics_nearestDouble_143 : decode prog_2_method_12_code 143 = .ok (.goto 4, 3) := by decide +kernel
theorem dd_Basics_nearestDouble_146 : decode prog_2_method_12_code 146 = .ok (.lconst 0, 1) := by decide +kernel
theorem dd_Basics_nearestDouble_147 : decode prog_2_method_12_code 147 = .ok (.ladd, 1) := by decide +kernel
theorem dd_Basics_nearestDouble_148 : decode prog_2_method_12_code 148 = .ok (.lstore 5, 2) := by decide +kernel
theorem dd_Basics_nearestDouble_150 : decode prog_2_method_12_code 150 = .ok (.iload 4, 2) := by decide +kernel
theorem dd_Basics_nearestDouble_152 : decode prog_2_method_12_code 152 = .ok (.sipush 1023, 3) := by decide +kernel
theorem dd_Basics_nearestDouble_155 : decode prog_2_method_12_code 155 = .ok (.iadd, 1) := by decide +kernel
theorem dd_Basics_nearestDouble_156 : decode prog_2_method_12_code 156 = .ok (.iconst 1, 1) := by decide +kernel
theorem dd_Basics_nearestDouble_157 : decode prog_2_method_12_code 157 = .ok (.isub, 1) := by decide +kernel
theorem dd_Basics_nearestDouble_158 : decode prog_2_method_12_code 158 = .ok (.i2l, 1) := by decide +kernel
theorem dd_Basics_nearestDouble_159 : decode prog_2_method_12_code 159 = .ok (.bipush 52, 2) := by decide +kernel
theorem dd_Basics_nearestDouble_161 : decode prog_2_method_12_code 161 = .ok (.lshl, 1) := by decide +kernel
theorem dd_Basics_nearestDouble_162 : decode prog_2_method_12_code 162 = .ok (.lload 5, 2) := by decide +kernel
theorem dd_Basics_nearestDouble_164 : decode prog_2_method_12_code 164 = .ok (.ladd, 1) := by decide +kernel
theorem dd_Basics_nearestDouble_165 : decode prog_2_method_12_code 165 = .ok (.lstore 7, 2) := by decide +kernel
theorem dd_Basics_nearestDouble_167 : decode prog_2_method_12_code 167 = .ok (.lload_n 0, 1) := by decide +kernel
theorem dd_Basics_nearestDouble_168 : decode prog_2_method_12_code 168 = .ok (.lconst 0, 1) := by decide +kernel
theorem dd_Basics_nearestDouble_169 : decode prog_2_method_12_code 169 = .ok (.lcmp, 1) := by decide +kernel
theorem dd_Basics_nearestDouble_170 : decode prog_2_method_12_code 170 = .ok (.ifCond .ge 12, 3) := by decide +kernel
theorem dd_Basics_nearestDouble_173 : decode prog_2_method_12_code 173 = .ok (.lload 7, 2) := by decide +kernel
theorem dd_Basics_nearestDouble_175 : decode prog_2_method_12_code 175 = .ok (.ldc2_w 44, 3) := by decide +kernel
theorem dd_Basics_nearestDouble_178 : decode prog_2_method_12_code 178 = .ok (.lor, 1) := by decide +kernel
theorem dd_Basics_nearestDouble_179 : decode prog_2_method_12_code 179 = .ok (.goto 5, 3) := by decide +kernel
theorem dd_Basics_nearestDouble_182 : decode prog_2_method_12_code 182 = .ok (.lload 7, 2) := by decide +kernel
theorem dd_Basics_nearestDouble_184 : decode prog_2_method_12_code 184 = .ok (.lreturn, 1) := by decide +kernel
theorem dd_Converter_init_0 : decode prog_3_method_1_code 0 = .ok (.aload_n 0, 1) := by decide +kernel
theorem dd_Converter_init_1 : decode prog_3_method_1_code 1 = .ok (.invokespecial 3, 3) := by decide +kernel
theorem dd_Converter_init_4 : decode prog_3_method_1_code 4 = .ok (.aload_n 0, 1) := by decide +kernel
theorem dd_Converter_init_5 : decode prog_3_method_1_code 5 = .ok (.aload_n 1, 1) := by decide +kernel
theorem dd_Converter_init_6 : decode prog_3_method_1_code 6 = .ok (.putfield 9, 3) := by decide +kernel
theorem dd_Converter_init_9 : decode prog_3_method_1_code 9 = .ok (.aload_n 0, 1) := by decide +kernel
theorem dd_Converter_init_10 : decode prog_3_method_1_code 10 = .ok (.aload_n 2, 1) := by decide +kernel
theorem dd_Converter_init_11 : decode prog_3_method_1_code 11 = .ok (.putfield 15, 3) := by decide +kernel
theorem dd_Converter_init_14 : decode prog_3_method_1_code 14 = .ok (.return_, 1) := by decide +kernel
theorem dd_Converter_byTable_0 : decode prog_3_method_2_code 0 = .ok (.iload_n 1, 1) := by decide +kernel
theorem dd_Converter_byTable_1 : decode prog_3_method_2_code 1 = .ok (.lload_n 3, 1) := by decide +kernel
theorem dd_Converter_byTable_2 : decode prog_3_method_2_code 2 = .ok (.invokestatic 19, 3) := by decide +kernel
theorem dd_Converter_byTable_5 : decode prog_3_method_2_code 5 = .ok (.ifCond .eq 8, 3) := by decide +kernel
theorem dd_Converter_byTable_8 : decode prog_3_method_2_code 8 = .ok (.iload_n 2, 1) := by decide +kernel
theorem dd_Converter_byTable_9 : decode prog_3_method_2_code 9 = .ok (.invokestatic 25, 3) := by decide +kernel
theorem dd_Converter_byTable_12 : decode prog_3_method_2_code 12 = .ok (.lreturn, 1) := by decide +kernel
theorem dd_Converter_byTable_13 : decode prog_3_method_2_code 13 = .ok (.iload_n 2, 1) := by decide +kernel
theorem dd_Converter_byTable_14 : decode prog_3_method_2_code 14 = .ok (.bipush 14, 2) := by decide +kernel
theorem dd_Converter_byTable_16 : decode prog_3_method_2_code 16 = .ok (.if_icmp .ne 64, 3) := by decide +kernel
theorem dd_Converter_byTable_19 : decode prog_3_method_2_code 19 = .ok (.aload_n 0, 1) := by decide +kernel
theorem dd_Converter_byTable_20 : decode prog_3_method_2_code 20 = .ok (.bipush 14, 2) := by decide +kernel
theorem dd_Converter_byTable_22 : decode prog_3_method_2_code 22 = .ok (.invokevirtual 29, 3) := by decide +kernel
theorem dd_Converter_byTable_25 : decode prog_3_method_2_code 25 = .ok (.istore 5, 2) := by decide +kernel
theorem dd_Converter_byTable_27 : decode prog_3_method_2_code 27 = .ok (.aload_n 0, 1) := by decide +kernel
theorem dd_Converter_byTable_28 : decode prog_3_method_2_code 28 = .ok (.getfield 9, 3) := by decide +kernel
theorem dd_Converter_byTable_31 : decode prog_3_method_2_code 31 = .ok (.iload_n 1, 1) := by decide +kernel
theorem dd_Converter_byTable_32 : decode prog_3_method_2_code 32 = .ok (.invokevirtual 33, 3) := by decide +kernel
theorem dd_Converter_byTable_35 : decode prog_3_method_2_code 35 = .ok (.ifCond .eq 25, 3) := by decide +kernel
theorem dd_Converter_byTable_38 : decode prog_3_method_2_code 38 = .ok (.aload_n 0, 1) := by decide +kernel
theorem dd_Converter_byTable_39 : decode prog_3_method_2_code 39 = .ok (.iload 5, 2) := by decide +kernel
theorem dd_Converter_byTable_41 : decode prog_3_method_2_code 41 = .ok (.bipush 110, 2) := by decide +kernel
theorem dd_Converter_byTable_43 : decode prog_3_method_2_code 43 = .ok (.aload_n 0, 1) := by decide +kernel
theorem dd_Converter_byTable_44 : decode prog_3_method_2_code 44 = .ok (.getfield 9, 3) := by decide +kernel
theorem dd_Converter_byTable_47 : decode prog_3_method_2_code 47 = .ok (.iload_n 1, 1) := by decide +kernel
theorem dd_Converter_byTable_48 : decode prog_3_method_2_code 48 = .ok (.lload_n 3, 1) := by decide +kernel
theorem dd_Converter_byTable_49 : decode prog_3_method_2_code 49 = .ok (.l2i, 1) := by decide +kernel
theorem dd_Converter_byTable_50 : decode prog_3_method_2_code 50 = .ok (.invokevirtual 39, 3) := by decide +kernel
theorem dd_Converter_byTable_53 : decode prog_3_method_2_code 53 = .ok (.i2l, 1) := by decide +kernel
theorem dd_Converter_byTable_54 : decode prog_3_method_2_code 54 = .ok (.invokevirtual 43, 3) := by decide +kernel
theorem dd_Converter_byTable_57 : decode prog_3_method_2_code 57 = .ok (.goto 19, 3) := by decide +kernel
theorem dd_Converter_byTable_60 : decode prog_3_method_2_code 60 = .ok (.aload_n 0, 1) := by decide +kernel
theorem dd_Converter_byTable_61 : decode prog_3_method_2_code 61 = .ok (.iload 5, 2) := by decide +kernel
theorem dd_Converter_byTable_63 : decode prog_3_method_2_code 63 = .ok (.iload_n 1, 1) := by decide +kernel
theorem dd_Converter_byTable_64 : decode prog_3_method_2_code 64 = .ok (.invokestatic 47, 3) := by decide +kernel
theorem dd_Converter_byTable_67 : decode prog_3_method_2_code 67 = .ok (.aload_n 0, 1) := by decide +kernel
theorem dd_Converter_byTable_68 : decode prog_3_method_2_code 68 = .ok (.iload_n 1, 1) := by decide +kernel
theorem dd_Converter_byTable_69 : decode prog_3_method_2_code 69 = .ok (.lload_n 3, 1) := by decide +kernel
theorem dd_Converter_byTable_70 : decode prog_3_method_2_code 70 = .ok (.invokevirtual 50, 3) := by decide +kernel
theorem dd_Converter_byTable_73 : decode prog_3_method_2_code 73 = .ok (.invokevirtual 54, 3) := by decide +kernel
theorem dd_Converter_byTable_76 : decode prog_3_method_2_code 76 = .ok (.iload 5, 2) := by decide +kernel
theorem dd_Converter_byTable_78 : decode prog_3_method_2_code 78 = .ok (.i2l, 1) := by decide +kernel
theorem dd_Converter_byTable_79 : decode prog_3_method_2_code 79 = .ok (.lreturn, 1) := by decide +kernel
theorem dd_Converter_byTable_80 : decode prog_3_method_2_code 80 = .ok (.aload_n 0, 1) := by decide +kernel
theorem dd_Converter_byTable_81 : decode prog_3_method_2_code 81 = .ok (.getfield 9, 3) := by decide +kernel
theorem dd_Converter_byTable_84 : decode prog_3_method_2_code 84 = .ok (.iload_n 2, 1) := by decide +kernel
theorem dd_Converter_byTable_85 : decode prog_3_method_2_code 85 = .ok (.invokevirtual 33, 3) := by decide +kernel
theorem dd_Converter_byTable_88 : decode prog_3_method_2_code 88 = .ok (.ifCond .eq 11, 3) := by decide +kernel
theorem dd_Converter_byTable_91 : decode prog_3_method_2_code 91 = .ok (.aload_n 0, 1) := by decide +kernel
theorem dd_Converter_byTable_92 : decode prog_3_method_2_code 92 = .ok (.iload_n 2, 1) := by decide +kernel
theorem dd_Converter_byTable_93 : decode prog_3_method_2_code 93 = .ok (.lload_n 3, 1) := by decide +kernel
theorem dd_Converter_byTable_94 : decode prog_3_method_2_code 94 = .ok (.l2i, 1) := by decide +kernel
theorem dd_Converter_byTable_95 : decode prog_3_method_2_code 95 = .ok (.invokevirtual 58, 3) := by decide +kernel
theorem dd_Converter_byTable_98 : decode prog_3_method_2_code 98 = .ok (.lreturn, 1) := by decide +kernel
theorem dd_Converter_byTable_99 : decode prog_3_method_2_code 99 = .ok (.aload_n 0, 1) := by decide +kernel
theorem dd_Converter_byTable_100 : decode prog_3_method_2_code 100 = .ok (.iload_n 2, 1) := by decide +kernel
theorem dd_Converter_byTable_101 : decode prog_3_method_2_code 101 = .ok (.aload_n 0, 1) := by decide +kernel
theorem dd_Converter_byTable_102 : decode prog_3_method_2_code 102 = .ok (.iload_n 1, 1) := by decide +kernel
theorem dd_Converter_byTable_103 : decode prog_3_method_2_code 103 = .ok (.lload_n 3, 1) := by decide +kernel
theorem dd_Converter_byTable_104 : decode prog_3_method_2_code 104 = .ok (.iload_n 2, 1) := by decide +kernel
theorem dd_Converter_byTable_105 : decode prog_3_method_2_code 105 = .ok (.invokestatic 47, 3) := by decide +kernel
theorem dd_Converter_byTable_108 : decode prog_3_method_2_code 108 = .ok (.invokevirtual 62, 3) := by decide +kernel
theorem dd_Converter_byTable_111 : decode prog_3_method_2_code 111 = .ok (.invokevirtual 66, 3) := by decide +kernel
theorem dd_Converter_byTable_114 : decode prog_3_method_2_code 114 = .ok (.lreturn, 1) := by decide +kernel
theorem dd_Converter_byFunction_0 : decode prog_3_method_3_code 0 = .ok (.iload_n 2, 1) := by decide +kernel
theorem dd_Converter_byFunction_1 : decode prog_3_method_3_code 1 = .ok (.lload_n 3, 1) := by decide +kernel
theorem dd_Converter_byFunction_2 : decode prog_3_method_3_code 2 = .ok (.invokestatic 19, 3) := by decide +kernel
theorem dd_Converter_byFunction_5 : decode prog_3_method_3_code 5 = .ok (.ifCond .eq 11, 3) := by decide +kernel
theorem dd_Converter_byFunction_8 : decode prog_3_method_3_code 8 = .ok (.aload_n 1, 1) := by decide +kernel
theorem dd_Converter_byFunction_9 : decode prog_3_method_3_code 9 = .ok (.getfield 69, 3) := by decide +kernel
theorem dd_Converter_byFunction_12 : decode prog_3_method_3_code 12 = .ok (.invokestatic 25, 3) := by decide +kernel
theorem dd_Converter_byFunction_15 : decode prog_3_method_3_code 15 = .ok (.lreturn, 1) := by decide +kernel
theorem dd_Converter_byFunction_16 : decode prog_3_method_3_code 16 = .ok (.aload_n 0, 1) := by decide +kernel
theorem dd_Converter_byFunction_17 : decode prog_3_method_3_code 17 = .ok (.iload_n 2, 1) := by decide +kernel
theorem dd_Converter_byFunction_18 : decode prog_3_method_3_code 18 = .ok (.lload_n 3, 1) := by decide +kernel
theorem dd_Converter_byFunction_19 : decode prog_3_method_3_code 19 = .ok (.aload_n 1, 1) := by decide +kernel
theorem dd_Converter_byFunction_20 : decode prog_3_method_3_code 20 = .ok (.getfield 75, 3) := by decide +kernel
theorem dd_Converter_byFunction_23 : decode prog_3_method_3_code 23 = .ok (.invokestatic 47, 3) := by decide +kernel
theorem dd_Converter_byFunction_26 : decode prog_3_method_3_code 26 = .ok (.invokevirtual 62, 3) := by decide +kernel
theorem dd_Converter_byFunction_29 : decode prog_3_method_3_code 29 = .ok (.lstore 5, 2) := by decide +kernel
theorem dd_Converter_byFunction_31 : decode prog_3_method_3_code 31 = .ok (.aload_n 0, 1) := by decide +kernel
theorem dd_Converter_byFunction_32 : decode prog_3_method_3_code 32 = .ok (.aload_n 1, 1) := by decide +kernel
theorem dd_Converter_byFunction_33 : decode prog_3_method_3_code 33 = .ok (.getfield 69, 3) := by decide +kernel
theorem dd_Converter_byFunction_36 : decode prog_3_method_3_code 36 = .ok (.iconst 4, 1) := by decide +kernel
theorem dd_Converter_byFunction_37 : decode prog_3_method_3_code 37 = .ok (.aload_n 1, 1) := by decide +kernel
theorem dd_Converter_byFunction_38 : decode prog_3_method_3_code 38 = .ok (.getfield 69, 3) := by decide +kernel
theorem dd_Converter_byFunction_41 : decode prog_3_method_3_code 41 = .ok (.invokestatic 47, 3) := by decide +kernel
theorem dd_Converter_byFunction_44 : decode prog_3_method_3_code 44 = .ok (.lload 5, 2) := by decide +kernel
theorem dd_Converter_byFunction_46 : decode prog_3_method_3_code 46 = .ok (.aload_n 1, 1) := by decide +kernel
theorem dd_Converter_byFunction_47 : decode prog_3_method_3_code 47 = .ok (.getfield 78, 3) := by decide +kernel
theorem dd_Converter_byFunction_50 : decode prog_3_method_3_code 50 = .ok (.i2l, 1) := by decide +kernel
theorem dd_Converter_byFunction_51 : decode prog_3_method_3_code 51 = .ok (.lmul, 1) := by decide +kernel
theorem dd_Converter_byFunction_52 : decode prog_3_method_3_code 52 = .ok (.aload_n 1, 1) := by decide +kernel
theorem dd_Converter_byFunction_53 : decode prog_3_method_3_code 53 = .ok (.getfield 81, 3) := by decide +kernel
theorem dd_Converter_byFunction_56 : decode prog_3_method_3_code 56 = .ok (.i2l, 1) := by decide +kernel
theorem dd_Converter_byFunction_57 : decode prog_3_method_3_code 57 = .ok (.ladd, 1) := by decide +kernel
theorem dd_Converter_byFunction_58 : decode prog_3_method_3_code 58 = .ok (.invokestatic 84, 3) := by decide +kernel
theorem dd_Converter_byFunction_61 : decode prog_3_method_3_code 61 = .ok (.invokevirtual 66, 3) := by decide +kernel
theorem dd_Converter_byFunction_64 : decode prog_3_method_3_code 64 = .ok (.lreturn, 1) := by decide +kernel
theorem dd_Converter_created_0 : decode prog_3_method_4_code 0 = .ok (.aload_n 0, 1) := by decide +kernel
theorem dd_Converter_created_1 : decode prog_3_method_4_code 1 = .ok (.getfield 15, 3) := by decide +kernel
theorem dd_Converter_created_4 : decode prog_3_method_4_code 4 = .ok (.iload_n 1, 1) := by decide +kernel
theorem dd_Converter_created_5 : decode prog_3_method_4_code 5 = .ok (.invokevirtual 88, 3) := by decide +kernel
theorem dd_Converter_created_8 : decode prog_3_method_4_code 8 = .ok (.istore_n 2, 1) := by decide +kernel
theorem dd_Converter_created_9 : decode prog_3_method_4_code 9 = .ok (.aload_n 0, 1) := by decide +kernel
theorem dd_Converter_created_10 : decode prog_3_method_4_code 10 = .ok (.aload_n 0, 1) := by decide +kernel
theorem dd_Converter_created_11 : decode prog_3_method_4_code 11 = .ok (.getfield 93, 3) := by decide +kernel
theorem dd_Converter_created_14 : decode prog_3_method_4_code 14 = .ok (.ifCond .ne 8, 3) := by decide +kernel
theorem dd_Converter_created_17 : decode prog_3_method_4_code 17 = .ok (.iload_n 2, 1) := by decide +kernel
theorem dd_Converter_created_18 : decode prog_3_method_4_code 18 = .ok (.iconst (-1), 1) := by decide +kernel
theorem dd_Converter_created_19 : decode prog_3_method_4_code 19 = .ok (.if_icmp .ne 7, 3) := by decide +kernel
theorem dd_Converter_created_22 : decode prog_3_method_4_code 22 = .ok (.iconst 1, 1) := by decide +kernel
theorem dd_Converter_created_23 : decode prog_3_method_4_code 23 = .ok (.goto 4, 3) := by decide +kernel
theorem dd_Converter_created_26 : decode prog_3_method_4_code 26 = .ok (.iconst 0, 1) := by decide +kernel
theorem dd_Converter_created_27 : decode prog_3_method_4_code 27 = .ok (.putfield 93, 3) := by decide +kernel
theorem dd_Converter_created_30 : decode prog_3_method_4_code 30 = .ok (.iload_n 2, 1) := by decide +kernel
theorem dd_Converter_created_31 : decode prog_3_method_4_code 31 = .ok (.ireturn, 1) := by decide +kernel
theorem dd_Converter_unboxed_0 : decode prog_3_method_5_code 0 = .ok (.iload_n 1, 1) := by decide +kernel
theorem dd_Converter_unboxed_1 : decode prog_3_method_5_code 1 = .ok (.invokestatic 97, 3) := by decide +kernel
theorem dd_Converter_unboxed_4 : decode prog_3_method_5_code 4 = .ok (.ifCond .eq 7, 3) := by decide +kernel
theorem dd_Converter_unboxed_7 : decode prog_3_method_5_code 7 = .ok (.lload_n 2, 1) := by decide +kernel
theorem dd_Converter_unboxed_8 : decode prog_3_method_5_code 8 = .ok (.goto 13, 3) := by decide +kernel
theorem dd_Converter_unboxed_11 : decode prog_3_method_5_code 11 = .ok (.aload_n 0, 1) := by decide +kernel
theorem dd_Converter_unboxed_12 : decode prog_3_method_5_code 12 = .ok (.getfield 15, 3) := by decide +kernel
theorem dd_Converter_unboxed_15 : decode prog_3_method_5_code 15 = .ok (.lload_n 2, 1) := by decide +kernel
theorem dd_Converter_unboxed_16 : decode prog_3_method_5_code 16 = .ok (.l2i, 1) := by decide +kernel
theorem dd_Converter_unboxed_17 : decode prog_3_method_5_code 17 = .ok (.iconst 0, 1) := by decide +kernel
theorem dd_Converter_unboxed_18 : decode prog_3_method_5_code 18 = .ok (.invokevirtual 100, 3) := by decide +kernel
theorem dd_Converter_unboxed_21 : decode prog_3_method_5_code 21 = .ok (.lreturn, 1) := by decide +kernel
theorem dd_Converter_boxed_0 : decode prog_3_method_6_code 0 = .ok (.iload_n 1, 1) := by decide +kernel
theorem dd_Converter_boxed_1 : decode prog_3_method_6_code 1 = .ok (.invokestatic 97, 3) := by decide +kernel
theorem dd_Converter_boxed_4 : decode prog_3_method_6_code 4 = .ok (.ifCond .eq 5, 3) := by decide +kernel
theorem dd_Converter_boxed_7 : decode prog_3_method_6_code 7 = .ok (.lload_n 2, 1) := by decide +kernel
theorem dd_Converter_boxed_8 : decode prog_3_method_6_code 8 = .ok (.lreturn, 1) := by decide +kernel
theorem dd_Converter_boxed_9 : decode prog_3_method_6_code 9 = .ok (.aload_n 0, 1) := by decide +kernel
theorem dd_Converter_boxed_10 : decode prog_3_method_6_code 10 = .ok (.iload_n 1, 1) := by decide +kernel
theorem dd_Converter_boxed_11 : decode prog_3_method_6_code 11 = .ok (.invokevirtual 29, 3) := by decide +kernel
theorem dd_Converter_boxed_14 : decode prog_3_method_6_code 14 = .ok (.istore 4, 2) := by decide +kernel
theorem dd_Converter_boxed_16 : decode prog_3_method_6_code 16 = .ok (.aload_n 0, 1) := by decide +kernel
theorem dd_Converter_boxed_17 : decode prog_3_method_6_code 17 = .ok (.getfield 15, 3) := by decide +kernel
theorem dd_Converter_boxed_20 : decode prog_3_method_6_code 20 = .ok (.iload 4, 2) := by decide +kernel
theorem dd_Converter_boxed_22 : decode prog_3_method_6_code 22 = .ok (.lload_n 2, 1) := by decide +kernel
theorem dd_Converter_boxed_23 : decode prog_3_method_6_code 23 = .ok (.invokevirtual 103, 3) := by decide +kernel
theorem dd_Converter_boxed_26 : decode prog_3_method_6_code 26 = .ok (.pop, 1) := by decide +kernel
theorem dd_Converter_boxed_27 : decode prog_3_method_6_code 27 = .ok (.iload 4, 2) := by decide +kernel
theorem dd_Converter_boxed_29 : decode prog_3_method_6_code 29 = .ok (.i2l, 1) := by decide +kernel
theorem dd_Converter_boxed_30 : decode prog_3_method_6_code 30 = .ok (.lreturn, 1) := by decide +kernel
theorem dd_Converter_plain_0 : decode prog_3_method_7_code 0 = .ok (.iload_n 1, 1) := by decide +kernel
theorem dd_Converter_plain_1 : decode prog_3_method_7_code 1 = .ok (.bipush 14, 2) := by decide +kernel
theorem dd_Converter_plain_3 : decode prog_3_method_7_code 3 = .ok (.if_icmp .eq 19, 3) := by decide +kernel
theorem dd_Converter_plain_6 : decode prog_3_method_7_code 6 = .ok (.iload_n 1, 1) := by decide +kernel
theorem dd_Converter_plain_7 : decode prog_3_method_7_code 7 = .ok (.invokestatic 47, 3) := by decide +kernel
theorem dd_Converter_plain_10 : decode prog_3_method_7_code 10 = .ok (.iload 4, 2) := by decide +kernel
theorem dd_Converter_plain_12 : decode prog_3_method_7_code 12 = .ok (.aload_n 0, 1) := by decide +kernel
theorem dd_Converter_plain_13 : decode prog_3_method_7_code 13 = .ok (.iload_n 1, 1) := by decide +kernel
theorem dd_Converter_plain_14 : decode prog_3_method_7_code 14 = .ok (.lload_n 2, 1) := by decide +kernel
theorem dd_Converter_plain_15 : decode prog_3_method_7_code 15 = .ok (.invokevirtual 50, 3) := by decide +kernel
theorem dd_Converter_plain_18 : decode prog_3_method_7_code 18 = .ok (.invokestatic 84, 3) := by decide +kernel
theorem dd_Converter_plain_21 : decode prog_3_method_7_code 21 = .ok (.lreturn, 1) := by decide +kernel
theorem dd_Converter_plain_22 : decode prog_3_method_7_code 22 = .ok (.lload_n 2, 1) := by decide +kernel
theorem dd_Converter_plain_23 : decode prog_3_method_7_code 23 = .ok (.l2i, 1) := by decide +kernel
theorem dd_Converter_plain_24 : decode prog_3_method_7_code 24 = .ok (.istore 5, 2) := by decide +kernel
theorem dd_Converter_plain_26 : decode prog_3_method_7_code 26 = .ok (.iload 4, 2) := by decide +kernel
theorem dd_Converter_plain_28 : decode prog_3_method_7_code 28 = .ok (.iconst 5, 1) := by decide +kernel
theorem dd_Converter_plain_29 : decode prog_3_method_7_code 29 = .ok (.if_icmp .ne 18, 3) := by decide +kernel
theorem dd_Converter_plain_32 : decode prog_3_method_7_code 32 = .ok (.aload_n 0, 1) := by decide +kernel
theorem dd_Converter_plain_33 : decode prog_3_method_7_code 33 = .ok (.iload 5, 2) := by decide +kernel
theorem dd_Converter_plain_35 : decode prog_3_method_7_code 35 = .ok (.invokevirtual 106, 3) := by decide +kernel
theorem dd_Converter_plain_38 : decode prog_3_method_7_code 38 = .ok (.ifCond .eq 7, 3) := by decide +kernel
theorem dd_Converter_plain_41 : decode prog_3_method_7_code 41 = .ok (.lconst 1, 1) := by decide +kernel
theorem dd_Converter_plain_42 : decode prog_3_method_7_code 42 = .ok (.goto 4, 3) := by decide +kernel
theorem dd_Converter_plain_45 : decode prog_3_method_7_code 45 = .ok (.lconst 0, 1) := by decide +kernel
theorem dd_Converter_plain_46 : decode prog_3_method_7_code 46 = .ok (.lreturn, 1) := by decide +kernel
theorem dd_Converter_plain_47 : decode prog_3_method_7_code 47 = .ok (.iload 4, 2) := by decide +kernel
theorem dd_Converter_plain_49 : decode prog_3_method_7_code 49 = .ok (.iconst 2, 1) := by decide +kernel
theorem dd_Converter_plain_50 : decode prog_3_method_7_code 50 = .ok (.if_icmp .ne 43, 3) := by decide +kernel
theorem dd_Converter_plain_53 : decode prog_3_method_7_code 53 = .ok (.aload_n 0, 1) := by decide +kernel
theorem dd_Converter_plain_54 : decode prog_3_method_7_code 54 = .ok (.aload_n 0, 1) := by decide +kernel
theorem dd_Converter_plain_55 : decode prog_3_method_7_code 55 = .ok (.getfield 93, 3) := by decide +kernel
theorem dd_Converter_plain_58 : decode prog_3_method_7_code 58 = .ok (.ifCond .ne 16, 3) := by decide +kernel
theorem dd_Converter_plain_61 : decode prog_3_method_7_code 61 = .ok (.aload_n 0, 1) := by decide +kernel
theorem dd_Converter_plain_62 : decode prog_3_method_7_code 62 = .ok (.getfield 15, 3) := by decide +kernel
theorem dd_Converter_plain_65 : decode prog_3_method_7_code 65 = .ok (.iload 5, 2) := by decide +kernel
theorem dd_Converter_plain_67 : decode prog_3_method_7_code 67 = .ok (.invokevirtual 109, 3) := by decide +kernel
theorem dd_Converter_plain_70 : decode prog_3_method_7_code 70 = .ok (.iconst 1, 1) := by decide +kernel
theorem dd_Converter_plain_71 : decode prog_3_method_7_code 71 = .ok (.if_icmp .eq 7, 3) := by decide +kernel
theorem dd_Converter_plain_74 : decode prog_3_method_7_code 74 = .ok (.iconst 1, 1) := by decide +kernel
theorem dd_Converter_plain_75 : decode prog_3_method_7_code 75 = .ok (.goto 4, 3) := by decide +kernel
theorem dd_Converter_plain_78 : decode prog_3_method_7_code 78 = .ok (.iconst 0, 1) := by decide +kernel
theorem dd_Converter_plain_79 : decode prog_3_method_7_code 79 = .ok (.putfield 93, 3) := by decide +kernel
theorem dd_Converter_plain_82 : decode prog_3_method_7_code 82 = .ok (.aload_n 0, 1) := by decide +kernel
theorem dd_Converter_plain_83 : decode prog_3_method_7_code 83 = .ok (.getfield 15, 3) := by decide +kernel
theorem dd_Converter_plain_86 : decode prog_3_method_7_code 86 = .ok (.iload 5, 2) := by decide +kernel
theorem dd_Converter_plain_88 : decode prog_3_method_7_code 88 = .ok (.iconst 0, 1) := by decide +kernel
theorem dd_Converter_plain_89 : decode prog_3_method_7_code 89 = .ok (.invokevirtual 100, 3) := by decide +kernel
theorem dd_Converter_plain_92 : decode prog_3_method_7_code 92 = .ok (.lreturn, 1) := by decide +kernel
theorem dd_Converter_plain_93 : decode prog_3_method_7_code 93 = .ok (.aload_n 0, 1) := by decide +kernel
theorem dd_Converter_plain_94 : decode prog_3_method_7_code 94 = .ok (.iload 5, 2) := by decide +kernel
theorem dd_Converter_plain_96 : decode prog_3_method_7_code 96 = .ok (.iload 4, 2) := by decide +kernel
theorem dd_Converter_plain_98 : decode prog_3_method_7_code 98 = .ok (.invokevirtual 112, 3) := by decide +kernel
theorem dd_Converter_plain_101 : decode prog_3_method_7_code 101 = .ok (.lreturn, 1) := by decide +kernel
theorem dd_Converter_isTrue_0 : decode prog_3_method_8_code 0 = .ok (.aload_n 0, 1) := by decide +kernel
theorem dd_Converter_isTrue_1 : decode prog_3_method_8_code 1 = .ok (.getfield 15, 3) := by decide +kernel
theorem dd_Converter_isTrue_4 : decode prog_3_method_8_code 4 = .ok (.iload_n 1, 1) := by decide +kernel
theorem dd_Converter_isTrue_5 : decode prog_3_method_8_code 5 = .ok (.invokevirtual 109, 3) := by decide +kernel
theorem dd_Converter_isTrue_8 : decode prog_3_method_8_code 8 = .ok (.iconst 4, 1) := by decide +kernel
theorem dd_Converter_isTrue_9 : decode prog_3_method_8_code 9 = .ok (.if_icmp .ne 71, 3) := by decide +kernel
theorem dd_Converter_isTrue_12 : decode prog_3_method_8_code 12 = .ok (.aload_n 0, 1) := by decide +kernel
theorem dd_Converter_isTrue_13 : decode prog_3_method_8_code 13 = .ok (.getfield 15, 3) := by decide +kernel
theorem dd_Converter_isTrue_16 : decode prog_3_method_8_code 16 = .ok (.iload_n 1, 1) := by decide +kernel
theorem dd_Converter_isTrue_17 : decode prog_3_method_8_code 17 = .ok (.iconst 0, 1) := by decide +kernel
theorem dd_Converter_isTrue_18 : decode prog_3_method_8_code 18 = .ok (.invokevirtual 100, 3) := by decide +kernel
theorem dd_Converter_isTrue_21 : decode prog_3_method_8_code 21 = .ok (.ldc2_w 115, 3) := by decide +kernel
theorem dd_Converter_isTrue_24 : decode prog_3_method_8_code 24 = .ok (.lcmp, 1) := by decide +kernel
theorem dd_Converter_isTrue_25 : decode prog_3_method_8_code 25 = .ok (.ifCond .ne 55, 3) := by decide +kernel
theorem dd_Converter_isTrue_28 : decode prog_3_method_8_code 28 = .ok (.aload_n 0, 1) := by decide +kernel
theorem dd_Converter_isTrue_29 : decode prog_3_method_8_code 29 = .ok (.getfield 15, 3) := by decide +kernel
theorem dd_Converter_isTrue_32 : decode prog_3_method_8_code 32 = .ok (.iload_n 1, 1) := by decide +kernel
theorem dd_Converter_isTrue_33 : decode prog_3_method_8_code 33 = .ok (.iconst 1, 1) := by decide +kernel
theorem dd_Converter_isTrue_34 : decode prog_3_method_8_code 34 = .ok (.invokevirtual 100, 3) := by decide +kernel
theorem dd_Converter_isTrue_37 : decode prog_3_method_8_code 37 = .ok (.ldc2_w 117, 3) := by decide +kernel
theorem dd_Converter_isTrue_40 : decode prog_3_method_8_code 40 = .ok (.lcmp, 1) := by decide +kernel
theorem dd_Converter_isTrue_41 : decode prog_3_method_8_code 41 = .ok (.ifCond .ne 39, 3) := by decide +kernel
theorem dd_Converter_isTrue_44 : decode prog_3_method_8_code 44 = .ok (.aload_n 0, 1) := by decide +kernel
theorem dd_Converter_isTrue_45 : decode prog_3_method_8_code 45 = .ok (.getfield 15, 3) := by decide +kernel
theorem dd_Converter_isTrue_48 : decode prog_3_method_8_code 48 = .ok (.iload_n 1, 1) := by decide +kernel
theorem dd_Converter_isTrue_49 : decode prog_3_method_8_code 49 = .ok (.iconst 2, 1) := by decide +kernel
theorem dd_Converter_isTrue_50 : decode prog_3_method_8_code 50 = .ok (.invokevirtual 100, 3) := by decide +kernel
theorem dd_Converter_isTrue_53 : decode prog_3_method_8_code 53 = .ok (.ldc2_w 119, 3) := by decide +kernel
theorem dd_Converter_isTrue_56 : decode prog_3_method_8_code 56 = .ok (.lcmp, 1) := by decide +kernel
theorem dd_Converter_isTrue_57 : decode prog_3_method_8_code 57 = .ok (.ifCond .ne 23, 3) := by decide +kernel
theorem dd_Converter_isTrue_60 : decode prog_3_method_8_code 60 = .ok (.aload_n 0, 1) := by decide +kernel
theorem dd_Converter_isTrue_61 : decode prog_3_method_8_code 61 = .ok (.getfield 15, 3) := by decide +kernel
theorem dd_Converter_isTrue_64 : decode prog_3_method_8_code 64 = .ok (.iload_n 1, 1) := by decide +kernel
theorem dd_Converter_isTrue_65 : decode prog_3_method_8_code 65 = .ok (.iconst 3, 1) := by decide +kernel
theorem dd_Converter_isTrue_66 : decode prog_3_method_8_code 66 = .ok (.invokevirtual 100, 3) := by decide +kernel
theorem dd_Converter_isTrue_69 : decode prog_3_method_8_code 69 = .ok (.ldc2_w 121, 3) := by decide +kernel
theorem dd_Converter_isTrue_72 : decode prog_3_method_8_code 72 = .ok (.lcmp, 1) := by decide +kernel
theorem dd_Converter_isTrue_73 : decode prog_3_method_8_code 73 = .ok (.ifCond .ne 7, 3) := by decide +kernel
theorem dd_Converter_isTrue_76 : decode prog_3_method_8_code 76 = .ok (.iconst 1, 1) := by decide +kernel
theorem dd_Converter_isTrue_77 : decode prog_3_method_8_code 77 = .ok (.goto 4, 3) := by decide +kernel
theorem dd_Converter_isTrue_80 : decode prog_3_method_8_code 80 = .ok (.iconst 0, 1) := by decide +kernel
theorem dd_Converter_isTrue_81 : decode prog_3_method_8_code 81 = .ok (.ireturn, 1) := by decide +kernel
theorem dd_Converter_number_0 : decode prog_3_method_9_code 0 = .ok (.aload_n 0, 1) := by decide +kernel
theorem dd_Converter_number_1 : decode prog_3_method_9_code 1 = .ok (.getfield 15, 3) := by decide +kernel
theorem dd_Converter_number_4 : decode prog_3_method_9_code 4 = .ok (.iload_n 1, 1) := by decide +kernel
theorem dd_Converter_number_5 : decode prog_3_method_9_code 5 = .ok (.invokevirtual 109, 3) := by decide +kernel
theorem dd_Converter_number_8 : decode prog_3_method_9_code 8 = .ok (.istore_n 3, 1) := by decide +kernel
theorem dd_Converter_number_9 : decode prog_3_method_9_code 9 = .ok (.aload_n 0, 1) := by decide +kernel
theorem dd_Converter_number_10 : decode prog_3_method_9_code 10 = .ok (.getfield 15, 3) := by decide +kernel
theorem dd_Converter_number_13 : decode prog_3_method_9_code 13 = .ok (.iload_n 1, 1) := by decide +kernel
theorem dd_Converter_number_14 : decode prog_3_method_9_code 14 = .ok (.iconst 0, 1) := by decide +kernel
theorem dd_Converter_number_15 : decode prog_3_method_9_code 15 = .ok (.invokevirtual 100, 3) := by decide +kernel
theorem dd_Converter_number_18 : decode prog_3_method_9_code 18 = .ok (.ldc2_w 123, 3) := by decide +kernel
theorem dd_Converter_number_21 : decode prog_3_method_9_code 21 = .ok (.lcmp, 1) := by decide +kernel
theorem dd_Converter_number_22 : decode prog_3_method_9_code 22 = .ok (.ifCond .ne 7, 3) := by decide +kernel
theorem dd_Converter_number_25 : decode prog_3_method_9_code 25 = .ok (.iconst 1, 1) := by decide +kernel
theorem dd_Converter_number_26 : decode prog_3_method_9_code 26 = .ok (.goto 4, 3) := by decide +kernel
theorem dd_Converter_number_29 : decode prog_3_method_9_code 29 = .ok (.iconst 0, 1) := by decide +kernel
theorem dd_Converter_number_30 : decode prog_3_method_9_code 30 = .ok (.istore 4, 2) := by decide +kernel
theorem dd_Converter_number_32 : decode prog_3_method_9_code 32 = .ok (.iload 4, 2) := by decide +kernel
theorem dd_Converter_number_34 : decode prog_3_method_9_code 34 = .ok (.ifCond .eq 7, 3) := by decide +kernel
theorem dd_Converter_number_37 : decode prog_3_method_9_code 37 = .ok (.iconst 1, 1) := by decide +kernel
theorem dd_Converter_number_38 : decode prog_3_method_9_code 38 = .ok (.goto 4, 3) := by decide +kernel
theorem dd_Converter_number_41 : decode prog_3_method_9_code 41 = .ok (.iconst 0, 1) := by decide +kernel
theorem dd_Converter_number_42 : decode prog_3_method_9_code 42 = .ok (.istore 5, 2) := by decide +kernel
theorem dd_Converter_number_44 : decode prog_3_method_9_code 44 = .ok (.iload 5, 2) := by decide +kernel
theorem dd_Converter_number_46 : decode prog_3_method_9_code 46 = .ok (.iload_n 3, 1) := by decide +kernel
theorem dd_Converter_number_47 : decode prog_3_method_9_code 47 = .ok (.if_icmp .ge 7, 3) := by decide +kernel
theorem dd_Converter_number_50 : decode prog_3_method_9_code 50 = .ok (.iconst 1, 1) := by decide +kernel
theorem dd_Converter_number_51 : decode prog_3_method_9_code 51 = .ok (.goto 4, 3) := by decide +kernel
theorem dd_Converter_number_54 : decode prog_3_method_9_code 54 = .ok (.iconst 0, 1) := by decide +kernel
theorem dd_Converter_number_55 : decode prog_3_method_9_code 55 = .ok (.istore 6, 2) := by decide +kernel
theorem dd_Converter_number_57 : decode prog_3_method_9_code 57 = .ok (.lconst 0, 1) := by decide +kernel
theorem dd_Converter_number_58 : decode prog_3_method_9_code 58 = .ok (.lstore 7, 2) := by decide +kernel
theorem dd_Converter_number_60 : decode prog_3_method_9_code 60 = .ok (.iload 5, 2) := by decide +kernel
theorem dd_Converter_number_62 : decode prog_3_method_9_code 62 = .ok (.istore 9, 2) := by decide +kernel
theorem dd_Converter_number_64 : decode prog_3_method_9_code 64 = .ok (.iload 6, 2) := by decide +kernel
theorem dd_Converter_number_66 : decode prog_3_method_9_code 66 = .ok (.ifCond .eq 90, 3) := by decide +kernel
theorem dd_Converter_number_69 : decode prog_3_method_9_code 69 = .ok (.iload 9, 2) := by decide +kernel
theorem dd_Converter_number_71 : decode prog_3_method_9_code 71 = .ok (.iload_n 3, 1) := by decide +kernel
theorem dd_Converter_number_72 : decode prog_3_method_9_code 72 = .ok (.if_icmp .ge 84, 3) := by decide +kernel
theorem dd_Converter_number_75 : decode prog_3_method_9_code 75 = .ok (.aload_n 0, 1) := by decide +kernel
theorem dd_Converter_number_76 : decode prog_3_method_9_code 76 = .ok (.getfield 15, 3) := by decide +kernel
theorem dd_Converter_number_79 : decode prog_3_method_9_code 79 = .ok (.iload_n 1, 1) := by decide +kernel
theorem dd_Converter_number_80 : decode prog_3_method_9_code 80 = .ok (.iload 9, 2) := by decide +kernel
theorem dd_Converter_number_82 : decode prog_3_method_9_code 82 = .ok (.invokevirtual 100, 3) := by decide +kernel
theorem dd_Converter_number_85 : decode prog_3_method_9_code 85 = .ok (.ldc2_w 125, 3) := by decide +kernel
theorem dd_Converter_number_88 : decode prog_3_method_9_code 88 = .ok (.lsub, 1) := by decide +kernel
theorem dd_Converter_number_89 : decode prog_3_method_9_code 89 = .ok (.lstore 10, 2) := by decide +kernel
theorem dd_Converter_number_91 : decode prog_3_method_9_code 91 = .ok (.lload 10, 2) := by decide +kernel
theorem dd_Converter_number_93 : decode prog_3_method_9_code 93 = .ok (.lconst 0, 1) := by decide +kernel
theorem dd_Converter_number_94 : decode prog_3_method_9_code 94 = .ok (.lcmp, 1) := by decide +kernel
theorem dd_Converter_number_95 : decode prog_3_method_9_code 95 = .ok (.ifCond .lt 32, 3) := by decide +kernel
theorem dd_Converter_number_98 : decode prog_3_method_9_code 98 = .ok (.lload 10, 2) := by decide +kernel
theorem dd_Converter_number_100 : decode prog_3_method_9_code 100 = .ok (.ldc2_w 127, 3) := by decide +kernel
theorem dd_Converter_number_103 : decode prog_3_method_9_code 103 = .ok (.lcmp, 1) := by decide +kernel
theorem dd_Converter_number_104 : decode prog_3_method_9_code 104 = .ok (.ifCond .gt 23, 3) := by decide +kernel
theorem dd_Converter_number_107 : decode prog_3_method_9_code 107 = .ok (.lload 7, 2) := by decide +kernel
theorem dd_Converter_number_109 : decode prog_3_method_9_code 109 = .ok (.ldc2_w 129, 3) := by decide +kernel
theorem dd_Converter_number_112 : decode prog_3_method_9_code 112 = .ok (.lload 10, 2) := by decide +kernel
theorem dd_Converter_number_114 : decode prog_3_method_9_code 114 = .ok (.ladd, 1) := by decide +kernel
theorem dd_Converter_number_115 : decode prog_3_method_9_code 115 = .ok (.ldc2_w 131, 3) := by decide +kernel
theorem dd_Converter_number_118 : decode prog_3_method_9_code 118 = .ok (.ldiv, 1) := by decide +kernel
theorem dd_Converter_number_119 : decode prog_3_method_9_code 119 = .ok (.lcmp, 1) := by decide +kernel
theorem dd_Converter_number_120 : decode prog_3_method_9_code 120 = .ok (.ifCond .lt 7, 3) := by decide +kernel
theorem dd_Converter_number_123 : decode prog_3_method_9_code 123 = .ok (.iconst 1, 1) := by decide +kernel
theorem dd_Converter_number_124 : decode prog_3_method_9_code 124 = .ok (.goto 4, 3) := by decide +kernel
theorem dd_Converter_number_127 : decode prog_3_method_9_code 127 = .ok (.iconst 0, 1) := by decide +kernel
theorem dd_Converter_number_128 : decode prog_3_method_9_code 128 = .ok (.istore 6, 2) := by decide +kernel
theorem dd_Converter_number_130 : decode prog_3_method_9_code 130 = .ok (.iload 6, 2) := by decide +kernel
theorem dd_Converter_number_132 : decode prog_3_method_9_code 132 = .ok (.ifCond .eq 15, 3) := by decide +kernel
theorem dd_Converter_number_135 : decode prog_3_method_9_code 135 = .ok (.lload 7, 2) := by decide +kernel
theorem dd_Converter_number_137 : decode prog_3_method_9_code 137 = .ok (.ldc2_w 131, 3) := by decide +kernel
theorem dd_Converter_number_140 : decode prog_3_method_9_code 140 = .ok (.lmul, 1) := by decide +kernel
theorem dd_Converter_number_141 : decode prog_3_method_9_code 141 = .ok (.lload 10, 2) := by decide +kernel
theorem dd_Converter_number_143 : decode prog_3_method_9_code 143 = .ok (.lsub, 1) := by decide +kernel
theorem dd_Converter_number_144 : decode prog_3_method_9_code 144 = .ok (.goto 4, 3) := by decide +kernel
theorem dd_Converter_number_147 : decode prog_3_method_9_code 147 = .ok (.lconst 0, 1) := by decide +kernel
theorem dd_Converter_number_148 : decode prog_3_method_9_code 148 = .ok (.lstore 7, 2) := by decide +kernel
theorem dd_Converter_number_150 : decode prog_3_method_9_code 150 = .ok (.iinc 9 1, 3) := by decide +kernel
theorem dd_Converter_number_153 : decode prog_3_method_9_code 153 = .ok (.goto (-89), 3) := by decide +kernel
theorem dd_Converter_number_156 : decode prog_3_method_9_code 156 = .ok (.iload 6, 2) := by decide +kernel
theorem dd_Converter_number_158 : decode prog_3_method_9_code 158 = .ok (.ifCond .eq 21, 3) := by decide +kernel
theorem dd_Converter_number_161 : decode prog_3_method_9_code 161 = .ok (.iload 4, 2) := by decide +kernel
theorem dd_Converter_number_163 : decode prog_3_method_9_code 163 = .ok (.ifCond .ne 12, 3) := by decide +kernel
theorem dd_Converter_number_166 : decode prog_3_method_9_code 166 = .ok (.lload 7, 2) := by decide +kernel
theorem dd_Converter_number_168 : decode prog_3_method_9_code 168 = .ok (.ldc2_w 129, 3) := by decide +kernel
theorem dd_Converter_number_171 : decode prog_3_method_9_code 171 = .ok (.lcmp, 1) := by decide +kernel
theorem dd_Converter_number_172 : decode prog_3_method_9_code 172 = .ok (.ifCond .eq 7, 3) := by decide +kernel
theorem dd_Converter_number_175 : decode prog_3_method_9_code 175 = .ok (.iconst 1, 1) := by decide +kernel
theorem dd_Converter_number_176 : decode prog_3_method_9_code 176 = .ok (.goto 4, 3) := by decide +kernel
theorem dd_Converter_number_179 : decode prog_3_method_9_code 179 = .ok (.iconst 0, 1) := by decide +kernel
theorem dd_Converter_number_180 : decode prog_3_method_9_code 180 = .ok (.istore 6, 2) := by decide +kernel
theorem dd_Converter_number_182 : decode prog_3_method_9_code 182 = .ok (.iload 4, 2) := by decide +kernel
theorem dd_Converter_number_184 : decode prog_3_method_9_code 184 = .ok (.ifCond .eq 8, 3) := by decide +kernel
theorem dd_Converter_number_187 : decode prog_3_method_9_code 187 = .ok (.lload 7, 2) := by decide +kernel
theorem dd_Converter_number_189 : decode prog_3_method_9_code 189 = .ok (.goto 6, 3) := by decide +kernel
theorem dd_Converter_number_192 : decode prog_3_method_9_code 192 = .ok (.lload 7, 2) := by decide +kernel
theorem dd_Converter_number_194 : decode prog_3_method_9_code 194 = .ok (.lneg, 1) := by decide +kernel
theorem dd_Converter_number_195 : decode prog_3_method_9_code 195 = .ok (.lstore 9, 2) := by decide +kernel
theorem dd_Converter_number_197 : decode prog_3_method_9_code 197 = .ok (.iload 6, 2) := by decide +kernel
theorem dd_Converter_number_199 : decode prog_3_method_9_code 199 = .ok (.ifCond .eq 12, 3) := by decide +kernel
theorem dd_Converter_number_202 : decode prog_3_method_9_code 202 = .ok (.iload_n 2, 1) := by decide +kernel
theorem dd_Converter_number_203 : decode prog_3_method_9_code 203 = .ok (.lload 9, 2) := by decide +kernel
theorem dd_Converter_number_205 : decode prog_3_method_9_code 205 = .ok (.invokestatic 133, 3) := by decide +kernel
theorem dd_Converter_number_208 : decode prog_3_method_9_code 208 = .ok (.ifCond .ne 10, 3) := by decide +kernel
theorem dd_Converter_number_211 : decode prog_3_method_9_code 211 = .ok (.aload_n 0, 1) := by decide +kernel
theorem dd_Converter_number_212 : decode prog_3_method_9_code 212 = .ok (.iconst 1, 1) := by decide +kernel
theorem dd_Converter_number_213 : decode prog_3_method_9_code 213 = .ok (.putfield 93, 3) := by decide +kernel
theorem dd_Converter_number_216 : decode prog_3_method_9_code 216 = .ok (.lconst 0, 1) := by decide +kernel
theorem dd_Converter_number_217 : decode prog_3_method_9_code 217 = .ok (.lreturn, 1) := by decide +kernel
theorem dd_Converter_number_218 : decode prog_3_method_9_code 218 = .ok (.lload 9, 2) := by decide +kernel
theorem dd_Converter_number_220 : decode prog_3_method_9_code 220 = .ok (.lreturn, 1) := by decide +kernel
theorem dd_Converter_writePlain_0 : decode prog_3_method_10_code 0 = .ok (.iload_n 2, 1) := by decide +kernel
theorem dd_Converter_writePlain_1 : decode prog_3_method_10_code 1 = .ok (.iconst 5, 1) := by decide +kernel
theorem dd_Converter_writePlain_2 : decode prog_3_method_10_code 2 = .ok (.if_icmp .ne 24, 3) := by decide +kernel
theorem dd_Converter_writePlain_5 : decode prog_3_method_10_code 5 = .ok (.aload_n 0, 1) := by decide +kernel
theorem dd_Converter_writePlain_6 : decode prog_3_method_10_code 6 = .ok (.iload_n 1, 1) := by decide +kernel
theorem dd_Converter_writePlain_7 : decode prog_3_method_10_code 7 = .ok (.lload_n 3, 1) := by decide +kernel
theorem dd_Converter_writePlain_8 : decode prog_3_method_10_code 8 = .ok (.lconst 1, 1) := by decide +kernel
theorem dd_Converter_writePlain_9 : decode prog_3_method_10_code 9 = .ok (.lcmp, 1) := by decide +kernel
theorem dd_Converter_writePlain_10 : decode prog_3_method_10_code 10 = .ok (.ifCond .ne 8, 3) := by decide +kernel
theorem dd_Converter_writePlain_13 : decode prog_3_method_10_code 13 = .ok (.ldc 136, 2) := by decide +kernel
theorem dd_Converter_writePlain_15 : decode prog_3_method_10_code 15 = .ok (.goto 5, 3) := by decide +kernel
theorem dd_Converter_writePlain_18 : decode prog_3_method_10_code 18 = .ok (.ldc 138, 2) := by decide +kernel
theorem dd_Converter_writePlain_20 : decode prog_3_method_10_code 20 = .ok (.invokevirtual 140, 3) := by decide +kernel
theorem dd_Converter_writePlain_23 : decode prog_3_method_10_code 23 = .ok (.goto 39, 3) := by decide +kernel
theorem dd_Converter_writePlain_26 : decode prog_3_method_10_code 26 = .ok (.iload_n 2, 1) := by decide +kernel
theorem dd_Converter_writePlain_27 : decode prog_3_method_10_code 27 = .ok (.iconst 2, 1) := by decide +kernel
theorem dd_Converter_writePlain_28 : decode prog_3_method_10_code 28 = .ok (.if_icmp .ne 16, 3) := by decide +kernel
theorem dd_Converter_writePlain_31 : decode prog_3_method_10_code 31 = .ok (.aload_n 0, 1) := by decide +kernel
theorem dd_Converter_writePlain_32 : decode prog_3_method_10_code 32 = .ok (.getfield 15, 3) := by decide +kernel
theorem dd_Converter_writePlain_35 : decode prog_3_method_10_code 35 = .ok (.iload_n 1, 1) := by decide +kernel
theorem dd_Converter_writePlain_36 : decode prog_3_method_10_code 36 = .ok (.lload_n 3, 1) := by decide +kernel
theorem dd_Converter_writePlain_37 : decode prog_3_method_10_code 37 = .ok (.invokevirtual 103, 3) := by decide +kernel
theorem dd_Converter_writePlain_40 : decode prog_3_method_10_code 40 = .ok (.pop, 1) := by decide +kernel
theorem dd_Converter_writePlain_41 : decode prog_3_method_10_code 41 = .ok (.goto 21, 3) := by decide +kernel
theorem dd_Converter_writePlain_44 : decode prog_3_method_10_code 44 = .ok (.aload_n 0, 1) := by decide +kernel
theorem dd_Converter_writePlain_45 : decode prog_3_method_10_code 45 = .ok (.iload_n 1, 1) := by decide +kernel
theorem dd_Converter_writePlain_46 : decode prog_3_method_10_code 46 = .ok (.lload_n 3, 1) := by decide +kernel
theorem dd_Converter_writePlain_47 : decode prog_3_method_10_code 47 = .ok (.lconst 0, 1) := by decide +kernel
theorem dd_Converter_writePlain_48 : decode prog_3_method_10_code 48 = .ok (.lcmp, 1) := by decide +kernel
theorem dd_Converter_writePlain_49 : decode prog_3_method_10_code 49 = .ok (.ifCond .ge 8, 3) := by decide +kernel
theorem dd_Converter_writePlain_52 : decode prog_3_method_10_code 52 = .ok (.bipush 45, 2) := by decide +kernel
theorem dd_Converter_writePlain_54 : decode prog_3_method_10_code 54 = .ok (.goto 4, 3) := by decide +kernel
theorem dd_Converter_writePlain_57 : decode prog_3_method_10_code 57 = .ok (.iconst 0, 1) := by decide +kernel
theorem dd_Converter_writePlain_58 : decode prog_3_method_10_code 58 = .ok (.lload_n 3, 1) := by decide +kernel
theorem dd_Converter_writePlain_59 : decode prog_3_method_10_code 59 = .ok (.invokevirtual 43, 3) := by decide +kernel
theorem dd_Converter_writePlain_62 : decode prog_3_method_10_code 62 = .ok (.return_, 1) := by decide +kernel
theorem dd_Converter_writeWord_0 : decode prog_3_method_11_code 0 = .ok (.iconst 0, 1) := by decide +kernel
theorem dd_Converter_writeWord_1 : decode prog_3_method_11_code 1 = .ok (.istore_n 3, 1) := by decide +kernel
theorem dd_Converter_writeWord_2 : decode prog_3_method_11_code 2 = .ok (.iload_n 3, 1) := by decide +kernel
theorem dd_Converter_writeWord_3 : decode prog_3_method_11_code 3 = .ok (.aload_n 2, 1) := by decide +kernel
theorem dd_Converter_writeWord_4 : decode prog_3_method_11_code 4 = .ok (.invokevirtual 144, 3) := by decide +kernel
theorem dd_Converter_writeWord_7 : decode prog_3_method_11_code 7 = .ok (.if_icmp .ge 24, 3) := by decide +kernel
theorem dd_Converter_writeWord_10 : decode prog_3_method_11_code 10 = .ok (.aload_n 0, 1) := by decide +kernel
theorem dd_Converter_writeWord_11 : decode prog_3_method_11_code 11 = .ok (.getfield 15, 3) := by decide +kernel
theorem dd_Converter_writeWord_14 : decode prog_3_method_11_code 14 = .ok (.iload_n 1, 1) := by decide +kernel
theorem dd_Converter_writeWord_15 : decode prog_3_method_11_code 15 = .ok (.aload_n 2, 1) := by decide +kernel
theorem dd_Converter_writeWord_16 : decode prog_3_method_11_code 16 = .ok (.iload_n 3, 1) := by decide +kernel
theorem dd_Converter_writeWord_17 : decode prog_3_method_11_code 17 = .ok (.invokevirtual 149, 3) := by decide +kernel
theorem dd_Converter_writeWord_20 : decode prog_3_method_11_code 20 = .ok (.i2l, 1) := by decide +kernel
theorem dd_Converter_writeWord_21 : decode prog_3_method_11_code 21 = .ok (.invokevirtual 103, 3) := by decide +kernel
theorem dd_Converter_writeWord_24 : decode prog_3_method_11_code 24 = .ok (.pop, 1) := by decide +kernel
theorem dd_Converter_writeWord_25 : decode prog_3_method_11_code 25 = .ok (.iinc 3 1, 3) := by decide +kernel
theorem dd_Converter_writeWord_28 : decode prog_3_method_11_code 28 = .ok (.goto (-26), 3) := by decide +kernel
theorem dd_Converter_writeWord_31 : decode prog_3_method_11_code 31 = .ok (.return_, 1) := by decide +kernel
theorem dd_Converter_writeNumber_0 : decode prog_3_method_12_code 0 = .ok (.iload_n 2, 1) := by decide +kernel
theorem dd_Converter_writeNumber_1 : decode prog_3_method_12_code 1 = .ok (.ifCond .eq 14, 3) := by decide +kernel
theorem dd_Converter_writeNumber_4 : decode prog_3_method_12_code 4 = .ok (.aload_n 0, 1) := by decide +kernel
theorem dd_Converter_writeNumber_5 : decode prog_3_method_12_code 5 = .ok (.getfield 15, 3) := by decide +kernel
theorem dd_Converter_writeNumber_8 : decode prog_3_method_12_code 8 = .ok (.iload_n 1, 1) := by decide +kernel
theorem dd_Converter_writeNumber_9 : decode prog_3_method_12_code 9 = .ok (.iload_n 2, 1) := by decide +kernel
theorem dd_Converter_writeNumber_10 : decode prog_3_method_12_code 10 = .ok (.i2l, 1) := by decide +kernel
theorem dd_Converter_writeNumber_11 : decode prog_3_method_12_code 11 = .ok (.invokevirtual 103, 3) := by decide +kernel
theorem dd_Converter_writeNumber_14 : decode prog_3_method_12_code 14 = .ok (.pop, 1) := by decide +kernel
theorem dd_Converter_writeNumber_15 : decode prog_3_method_12_code 15 = .ok (.lload_n 3, 1) := by decide +kernel
theorem dd_Converter_writeNumber_16 : decode prog_3_method_12_code 16 = .ok (.lconst 0, 1) := by decide +kernel
theorem dd_Converter_writeNumber_17 : decode prog_3_method_12_code 17 = .ok (.lcmp, 1) := by decide +kernel
theorem dd_Converter_writeNumber_18 : decode prog_3_method_12_code 18 = .ok (.ifCond .ge 7, 3) := by decide +kernel
theorem dd_Converter_writeNumber_21 : decode prog_3_method_12_code 21 = .ok (.lload_n 3, 1) := by decide +kernel
theorem dd_Converter_writeNumber_22 : decode prog_3_method_12_code 22 = .ok (.goto 5, 3) := by decide +kernel
theorem dd_Converter_writeNumber_25 : decode prog_3_method_12_code 25 = .ok (.lload_n 3, 1) := by decide +kernel
theorem dd_Converter_writeNumber_26 : decode prog_3_method_12_code 26 = .ok (.lneg, 1) := by decide +kernel
theorem dd_Converter_writeNumber_27 : decode prog_3_method_12_code 27 = .ok (.lstore 5, 2) := by decide +kernel
theorem dd_Converter_writeNumber_29 : decode prog_3_method_12_code 29 = .ok (.iconst 0, 1) := by decide +kernel
theorem dd_Converter_writeNumber_30 : decode prog_3_method_12_code 30 = .ok (.istore 7, 2) := by decide +kernel
theorem dd_Converter_writeNumber_32 : decode prog_3_method_12_code 32 = .ok (.lload 5, 2) := by decide +kernel
theorem dd_Converter_writeNumber_34 : decode prog_3_method_12_code 34 = .ok (.lstore 8, 2) := by decide +kernel
theorem dd_Converter_writeNumber_36 : decode prog_3_method_12_code 36 = .ok (.iload 7, 2) := by decide +kernel
theorem dd_Converter_writeNumber_38 : decode prog_3_method_12_code 38 = .ok (.ifCond .eq 17, 3) := by decide +kernel
theorem dd_Converter_writeNumber_41 : decode prog_3_method_12_code 41 = .ok (.lload 8, 2) := by decide +kernel
theorem dd_Converter_writeNumber_43 : decode prog_3_method_12_code 43 = .ok (.lconst 0, 1) := by decide +kernel
theorem dd_Converter_writeNumber_44 : decode prog_3_method_12_code 44 = .ok (.lcmp, 1) := by decide +kernel
theorem dd_Converter_writeNumber_45 : decode prog_3_method_12_code 45 = .ok (.ifCond .eq 36, 3) := by decide +kernel
theorem dd_Converter_writeNumber_48 : decode prog_3_method_12_code 48 = .ok (.iload 7, 2) := by decide +kernel
theorem dd_Converter_writeNumber_50 : decode prog_3_method_12_code 50 = .ok (.bipush 24, 2) := by decide +kernel
theorem dd_Converter_writeNumber_52 : decode prog_3_method_12_code 52 = .ok (.if_icmp .ge 29, 3) := by decide +kernel
theorem dd_Converter_writeNumber_55 : decode prog_3_method_12_code 55 = .ok (.aload_n 0, 1) := by decide +kernel
theorem dd_Converter_writeNumber_56 : decode prog_3_method_12_code 56 = .ok (.getfield 15, 3) := by decide +kernel
theorem dd_Converter_writeNumber_59 : decode prog_3_method_12_code 59 = .ok (.iload_n 1, 1) := by decide +kernel
theorem dd_Converter_writeNumber_60 : decode prog_3_method_12_code 60 = .ok (.ldc2_w 125, 3) := by decide +kernel
theorem dd_Converter_writeNumber_63 : decode prog_3_method_12_code 63 = .ok (.invokevirtual 103, 3) := by decide +kernel
theorem dd_Converter_writeNumber_66 : decode prog_3_method_12_code 66 = .ok (.pop, 1) := by decide +kernel
theorem dd_Converter_writeNumber_67 : decode prog_3_method_12_code 67 = .ok (.iinc 7 1, 3) := by decide +kernel
theorem dd_Converter_writeNumber_70 : decode prog_3_method_12_code 70 = .ok (.lload 8, 2) := by decide +kernel
theorem dd_Converter_writeNumber_72 : decode prog_3_method_12_code 72 = .ok (.ldc2_w 131, 3) := by decide +kernel
theorem dd_Converter_writeNumber_75 : decode prog_3_method_12_code 75 = .ok (.ldiv, 1) := by decide +kernel
theorem dd_Converter_writeNumber_76 : decode prog_3_method_12_code 76 = .ok (.lstore 8, 2) := by decide +kernel
theorem dd_Converter_writeNumber_78 : decode prog_3_method_12_code 78 = .ok (.goto (-42), 3) := by decide +kernel
theorem dd_Converter_writeNumber_81 : decode prog_3_method_12_code 81 = .ok (.aload_n 0, 1) := by decide +kernel
theorem dd_Converter_writeNumber_82 : decode prog_3_method_12_code 82 = .ok (.getfield 15, 3) := by decide +kernel
theorem dd_Converter_writeNumber_85 : decode prog_3_method_12_code 85 = .ok (.iload_n 1, 1) := by decide +kernel
theorem dd_Converter_writeNumber_86 : decode prog_3_method_12_code 86 = .ok (.invokevirtual 109, 3) := by decide +kernel
theorem dd_Converter_writeNumber_89 : decode prog_3_method_12_code 89 = .ok (.iconst 1, 1) := by decide +kernel
theorem dd_Converter_writeNumber_90 : decode prog_3_method_12_code 90 = .ok (.isub, 1) := by decide +kernel
theorem dd_Converter_writeNumber_91 : decode prog_3_method_12_code 91 = .ok (.istore 8, 2) := by decide +kernel
theorem dd_Converter_writeNumber_93 : decode prog_3_method_12_code 93 = .ok (.iconst 0, 1) := by decide +kernel
theorem dd_Converter_writeNumber_94 : decode prog_3_method_12_code 94 = .ok (.istore 9, 2) := by decide +kernel
theorem dd_Converter_writeNumber_96 : decode prog_3_method_12_code 96 = .ok (.iload 9, 2) := by decide +kernel
theorem dd_Converter_writeNumber_98 : decode prog_3_method_12_code 98 = .ok (.iload 7, 2) := by decide +kernel
theorem dd_Converter_writeNumber_100 : decode prog_3_method_12_code 100 = .ok (.if_icmp .ge 41, 3) := by decide +kernel
theorem dd_Converter_writeNumber_103 : decode prog_3_method_12_code 103 = .ok (.aload_n 0, 1) := by decide +kernel
theorem dd_Converter_writeNumber_104 : decode prog_3_method_12_code 104 = .ok (.getfield 15, 3) := by decide +kernel
theorem dd_Converter_writeNumber_107 : decode prog_3_method_12_code 107 = .ok (.iload_n 1, 1) := by decide +kernel
theorem dd_Converter_writeNumber_108 : decode prog_3_method_12_code 108 = .ok (.iload 8, 2) := by decide +kernel
theorem dd_Converter_writeNumber_110 : decode prog_3_method_12_code 110 = .ok (.iload 9, 2) := by decide +kernel
theorem dd_Converter_writeNumber_112 : decode prog_3_method_12_code 112 = .ok (.isub, 1) := by decide +kernel
theorem dd_Converter_writeNumber_113 : decode prog_3_method_12_code 113 = .ok (.ldc2_w 125, 3) := by decide +kernel
theorem dd_Converter_writeNumber_116 : decode prog_3_method_12_code 116 = .ok (.lload 5, 2) := by decide +kernel
theorem dd_Converter_writeNumber_118 : decode prog_3_method_12_code 118 = .ok (.ldc2_w 131, 3) := by decide +kernel
theorem dd_Converter_writeNumber_121 : decode prog_3_method_12_code 121 = .ok (.lrem, 1) := by decide +kernel
theorem dd_Converter_writeNumber_122 : decode prog_3_method_12_code 122 = .ok (.lsub, 1) := by decide +kernel
theorem dd_Converter_writeNumber_123 : decode prog_3_method_12_code 123 = .ok (.invokevirtual 153, 3) := by decide +kernel
theorem dd_Converter_writeNumber_126 : decode prog_3_method_12_code 126 = .ok (.pop, 1) := by decide +kernel
theorem dd_Converter_writeNumber_127 : decode prog_3_method_12_code 127 = .ok (.lload 5, 2) := by decide +kernel
theorem dd_Converter_writeNumber_129 : decode prog_3_method_12_code 129 = .ok (.ldc2_w 131, 3) := by decide +kernel
theorem dd_Converter_writeNumber_132 : decode prog_3_method_12_code 132 = .ok (.ldiv, 1) := by decide +kernel
theorem dd_Converter_writeNumber_133 : decode prog_3_method_12_code 133 = .ok (.lstore 5, 2) := by decide +kernel
theorem dd_Converter_writeNumber_135 : decode prog_3_method_12_code 135 = .ok (.iinc 9 1, 3) := by decide +kernel
theorem dd_Converter_writeNumber_138 : decode prog_3_method_12_code 138 = .ok (.goto (-42), 3) := by decide +kernel
theorem dd_Converter_writeNumber_141 : decode prog_3_method_12_code 141 = .ok (.return_, 1) := by decide +kernel
theorem dd_Converter_constantOf_0 : decode prog_3_method_13_code 0 = .ok (.aload_n 0, 1) := by decide +kernel
theorem dd_Converter_constantOf_1 : decode prog_3_method_13_code 1 = .ok (.getfield 9, 3) := by decide +kernel
theorem dd_Converter_constantOf_4 : decode prog_3_method_13_code 4 = .ok (.iload_n 1, 1) := by decide +kernel
theorem dd_Converter_constantOf_5 : decode prog_3_method_13_code 5 = .ok (.invokevirtual 157, 3) := by decide +kernel
theorem dd_Converter_constantOf_8 : decode prog_3_method_13_code 8 = .ok (.istore_n 3, 1) := by decide +kernel
theorem dd_Converter_constantOf_9 : decode prog_3_method_13_code 9 = .ok (.iconst 0, 1) := by decide +kernel
theorem dd_Converter_constantOf_10 : decode prog_3_method_13_code 10 = .ok (.istore 4, 2) := by decide +kernel
theorem dd_Converter_constantOf_12 : decode prog_3_method_13_code 12 = .ok (.iload 4, 2) := by decide +kernel
theorem dd_Converter_constantOf_14 : decode prog_3_method_13_code 14 = .ok (.iload_n 3, 1) := by decide +kernel
theorem dd_Converter_constantOf_15 : decode prog_3_method_13_code 15 = .ok (.if_icmp .ge 31, 3) := by decide +kernel
theorem dd_Converter_constantOf_18 : decode prog_3_method_13_code 18 = .ok (.aload_n 0, 1) := by decide +kernel
theorem dd_Converter_constantOf_19 : decode prog_3_method_13_code 19 = .ok (.iload_n 2, 1) := by decide +kernel
theorem dd_Converter_constantOf_20 : decode prog_3_method_13_code 20 = .ok (.aload_n 0, 1) := by decide +kernel
theorem dd_Converter_constantOf_21 : decode prog_3_method_13_code 21 = .ok (.getfield 9, 3) := by decide +kernel
theorem dd_Converter_constantOf_24 : decode prog_3_method_13_code 24 = .ok (.iload_n 1, 1) := by decide +kernel
theorem dd_Converter_constantOf_25 : decode prog_3_method_13_code 25 = .ok (.iload 4, 2) := by decide +kernel
theorem dd_Converter_constantOf_27 : decode prog_3_method_13_code 27 = .ok (.invokevirtual 39, 3) := by decide +kernel
theorem dd_Converter_constantOf_30 : decode prog_3_method_13_code 30 = .ok (.invokevirtual 160, 3) := by decide +kernel
theorem dd_Converter_constantOf_33 : decode prog_3_method_13_code 33 = .ok (.ifCond .eq 7, 3) := by decide +kernel
theorem dd_Converter_constantOf_36 : decode prog_3_method_13_code 36 = .ok (.iload 4, 2) := by decide +kernel
theorem dd_Converter_constantOf_38 : decode prog_3_method_13_code 38 = .ok (.i2l, 1) := by decide +kernel
theorem dd_Converter_constantOf_39 : decode prog_3_method_13_code 39 = .ok (.lreturn, 1) := by decide +kernel
theorem dd_Converter_constantOf_40 : decode prog_3_method_13_code 40 = .ok (.iinc 4 1, 3) := by decide +kernel
theorem dd_Converter_constantOf_43 : decode prog_3_method_13_code 43 = .ok (.goto (-31), 3) := by decide +kernel
theorem dd_Converter_constantOf_46 : decode prog_3_method_13_code 46 = .ok (.aload_n 0, 1) := by decide +kernel
theorem dd_Converter_constantOf_47 : decode prog_3_method_13_code 47 = .ok (.iconst 1, 1) := by decide +kernel
theorem dd_Converter_constantOf_48 : decode prog_3_method_13_code 48 = .ok (.putfield 93, 3) := by decide +kernel
theorem dd_Converter_constantOf_51 : decode prog_3_method_13_code 51 = .ok (.ldc2_w 164, 3) := by decide +kernel
theorem dd_Converter_constantOf_54 : decode prog_3_method_13_code 54 = .ok (.lreturn, 1) := by decide +kernel
theorem dd_Converter_isNameText_0 : decode prog_3_method_14_code 0 = .ok (.aload_n 0, 1) := by decide +kernel
theorem dd_Converter_isNameText_1 : decode prog_3_method_14_code 1 = .ok (.getfield 15, 3) := by decide +kernel
theorem dd_Converter_isNameText_4 : decode prog_3_method_14_code 4 = .ok (.iload_n 1, 1) := by decide +kernel
theorem dd_Converter_isNameText_5 : decode prog_3_method_14_code 5 = .ok (.iconst 0, 1) := by decide +kernel
theorem dd_Converter_isNameText_6 : decode prog_3_method_14_code 6 = .ok (.invokevirtual 100, 3) := by decide +kernel
theorem dd_Converter_isNameText_9 : decode prog_3_method_14_code 9 = .ok (.ldc2_w 166, 3) := by decide +kernel
theorem dd_Converter_isNameText_12 : decode prog_3_method_14_code 12 = .ok (.lcmp, 1) := by decide +kernel
theorem dd_Converter_isNameText_13 : decode prog_3_method_14_code 13 = .ok (.ifCond .eq 5, 3) := by decide +kernel
theorem dd_Converter_isNameText_16 : decode prog_3_method_14_code 16 = .ok (.iconst 0, 1) := by decide +kernel
theorem dd_Converter_isNameText_17 : decode prog_3_method_14_code 17 = .ok (.ireturn, 1) := by decide +kernel
theorem dd_Converter_isNameText_18 : decode prog_3_method_14_code 18 = .ok (.iload_n 2, 1) := by decide +kernel
theorem dd_Converter_isNameText_19 : decode prog_3_method_14_code 19 = .ok (.bipush 10, 2) := by decide +kernel
theorem dd_Converter_isNameText_21 : decode prog_3_method_14_code 21 = .ok (.if_icmp .ge 39, 3) := by decide +kernel
theorem dd_Converter_isNameText_24 : decode prog_3_method_14_code 24 = .ok (.aload_n 0, 1) := by decide +kernel
theorem dd_Converter_isNameText_25 : decode prog_3_method_14_code 25 = .ok (.getfield 15, 3) := by decide +kernel
theorem dd_Converter_isNameText_28 : decode prog_3_method_14_code 28 = .ok (.iload_n 1, 1) := by decide +kernel
theorem dd_Converter_isNameText_29 : decode prog_3_method_14_code 29 = .ok (.invokevirtual 109, 3) := by decide +kernel
theorem dd_Converter_isNameText_32 : decode prog_3_method_14_code 32 = .ok (.iconst 2, 1) := by decide +kernel
theorem dd_Converter_isNameText_33 : decode prog_3_method_14_code 33 = .ok (.if_icmp .ne 25, 3) := by decide +kernel
theorem dd_Converter_isNameText_36 : decode prog_3_method_14_code 36 = .ok (.aload_n 0, 1) := by decide +kernel
theorem dd_Converter_isNameText_37 : decode prog_3_method_14_code 37 = .ok (.getfield 15, 3) := by decide +kernel
theorem dd_Converter_isNameText_40 : decode prog_3_method_14_code 40 = .ok (.iload_n 1, 1) := by decide +kernel
theorem dd_Converter_isNameText_41 : decode prog_3_method_14_code 41 = .ok (.iconst 1, 1) := by decide +kernel
theorem dd_Converter_isNameText_42 : decode prog_3_method_14_code 42 = .ok (.invokevirtual 100, 3) := by decide +kernel
theorem dd_Converter_isNameText_45 : decode prog_3_method_14_code 45 = .ok (.bipush 48, 2) := by decide +kernel
theorem dd_Converter_isNameText_47 : decode prog_3_method_14_code 47 = .ok (.iload_n 2, 1) := by decide +kernel
theorem dd_Converter_isNameText_48 : decode prog_3_method_14_code 48 = .ok (.iadd, 1) := by decide +kernel
theorem dd_Converter_isNameText_49 : decode prog_3_method_14_code 49 = .ok (.i2l, 1) := by decide +kernel
theorem dd_Converter_isNameText_50 : decode prog_3_method_14_code 50 = .ok (.lcmp, 1) := by decide +kernel
theorem dd_Converter_isNameText_51 : decode prog_3_method_14_code 51 = .ok (.ifCond .ne 7, 3) := by decide +kernel
theorem dd_Converter_isNameText_54 : decode prog_3_method_14_code 54 = .ok (.iconst 1, 1) := by decide +kernel
theorem dd_Converter_isNameText_55 : decode prog_3_method_14_code 55 = .ok (.goto 4, 3) := by decide +kernel
theorem dd_Converter_isNameText_58 : decode prog_3_method_14_code 58 = .ok (.iconst 0, 1) := by decide +kernel
theorem dd_Converter_isNameText_59 : decode prog_3_method_14_code 59 = .ok (.ireturn, 1) := by decide +kernel
theorem dd_Converter_isNameText_60 : decode prog_3_method_14_code 60 = .ok (.aload_n 0, 1) := by decide +kernel
theorem dd_Converter_isNameText_61 : decode prog_3_method_14_code 61 = .ok (.getfield 15, 3) := by decide +kernel
theorem dd_Converter_isNameText_64 : decode prog_3_method_14_code 64 = .ok (.iload_n 1, 1) := by decide +kernel
theorem dd_Converter_isNameText_65 : decode prog_3_method_14_code 65 = .ok (.invokevirtual 109, 3) := by decide +kernel
theorem dd_Converter_isNameText_68 : decode prog_3_method_14_code 68 = .ok (.iconst 3, 1) := by decide +kernel
theorem dd_Converter_isNameText_69 : decode prog_3_method_14_code 69 = .ok (.if_icmp .ne 49, 3) := by decide +kernel
theorem dd_Converter_isNameText_72 : decode prog_3_method_14_code 72 = .ok (.aload_n 0, 1) := by decide +kernel
theorem dd_Converter_isNameText_73 : decode prog_3_method_14_code 73 = .ok (.getfield 15, 3) := by decide +kernel
theorem dd_Converter_isNameText_76 : decode prog_3_method_14_code 76 = .ok (.iload_n 1, 1) := by decide +kernel
theorem dd_Converter_isNameText_77 : decode prog_3_method_14_code 77 = .ok (.iconst 1, 1) := by decide +kernel
theorem dd_Converter_isNameText_78 : decode prog_3_method_14_code 78 = .ok (.invokevirtual 100, 3) := by decide +kernel
theorem dd_Converter_isNameText_81 : decode prog_3_method_14_code 81 = .ok (.bipush 48, 2) := by decide +kernel
theorem dd_Converter_isNameText_83 : decode prog_3_method_14_code 83 = .ok (.iload_n 2, 1) := by decide +kernel
theorem dd_Converter_isNameText_84 : decode prog_3_method_14_code 84 = .ok (.bipush 10, 2) := by decide +kernel
theorem dd_Converter_isNameText_86 : decode prog_3_method_14_code 86 = .ok (.idiv, 1) := by decide +kernel
theorem dd_Converter_isNameText_87 : decode prog_3_method_14_code 87 = .ok (.iadd, 1) := by decide +kernel
theorem dd_Converter_isNameText_88 : decode prog_3_method_14_code 88 = .ok (.i2l, 1) := by decide +kernel
theorem dd_Converter_isNameText_89 : decode prog_3_method_14_code 89 = .ok (.lcmp, 1) := by decide +kernel
theorem dd_Converter_isNameText_90 : decode prog_3_method_14_code 90 = .ok (.ifCond .ne 28, 3) := by decide +kernel
theorem dd_Converter_isNameText_93 : decode prog_3_method_14_code 93 = .ok (.aload_n 0, 1) := by decide +kernel
theorem dd_Converter_isNameText_94 : decode prog_3_method_14_code 94 = .ok (.getfield 15, 3) := by decide +kernel
theorem dd_Converter_isNameText_97 : decode prog_3_method_14_code 97 = .ok (.iload_n 1, 1) := by decide +kernel
theorem dd_Converter_isNameText_98 : decode prog_3_method_14_code 98 = .ok (.iconst 2, 1) := by decide +kernel
theorem dd_Converter_isNameText_99 : decode prog_3_method_14_code 99 = .ok (.invokevirtual 100, 3) := by decide +kernel
theorem dd_Converter_isNameText_102 : decode prog_3_method_14_code 102 = .ok (.bipush 48, 2) := by decide +kernel
theorem dd_Converter_isNameText_104 : decode prog_3_method_14_code 104 = .ok (.iload_n 2, 1) := by decide +kernel
theorem dd_Converter_isNameText_105 : decode prog_3_method_14_code 105 = .ok (.bipush 10, 2) := by decide +kernel
theorem dd_Converter_isNameText_107 : decode prog_3_method_14_code 107 = .ok (.irem, 1) := by decide +kernel
theorem dd_Converter_isNameText_108 : decode prog_3_method_14_code 108 = .ok (.iadd, 1) := by decide +kernel
theorem dd_Converter_isNameText_109 : decode prog_3_method_14_code 109 = .ok (.i2l, 1) := by decide +kernel
theorem dd_Converter_isNameText_110 : decode prog_3_method_14_code 110 = .ok (.lcmp, 1) := by decide +kernel
theorem dd_Converter_isNameText_111 : decode prog_3_method_14_code 111 = .ok (.ifCond .ne 7, 3) := by decide +kernel
theorem dd_Converter_isNameText_114 : decode prog_3_method_14_code 114 = .ok (.iconst 1, 1) := by decide +kernel
theorem dd_Converter_isNameText_115 : decode prog_3_method_14_code 115 = .ok (.goto 4, 3) := by decide +kernel
theorem dd_Converter_isNameText_118 : decode prog_3_method_14_code 118 = .ok (.iconst 0, 1) := by decide +kernel
theorem dd_Converter_isNameText_119 : decode prog_3_method_14_code 119 = .ok (.ireturn, 1) := by decide +kernel
theorem dd_Function_init_0 : decode prog_4_method_1_code 0 = .ok (.aload_n 0, 1) := by decide +kernel
theorem dd_Function_init_1 : decode prog_4_method_1_code 1 = .ok (.invokespecial 1, 3) := by decide +kernel
theorem dd_Function_init_4 : decode prog_4_method_1_code 4 = .ok (.return_, 1) := by decide +kernel
theorem dd_Mapper_init_0 : decode prog_5_method_1_code 0 = .ok (.aload_n 0, 1) := by decide +kernel
theorem dd_Mapper_init_1 : decode prog_5_method_1_code 1 = .ok (.invokespecial 3, 3) := by decide +kernel
theorem dd_Mapper_init_4 : decode prog_5_method_1_code 4 = .ok (.aload_n 0, 1) := by decide +kernel
theorem dd_Mapper_init_5 : decode prog_5_method_1_code 5 = .ok (.sipush 6400, 3) := by decide +kernel
theorem dd_Mapper_init_8 : decode prog_5_method_1_code 8 = .ok (.newarray .int, 2) := by decide +kernel
theorem dd_Mapper_init_10 : decode prog_5_method_1_code 10 = .ok (.putfield 9, 3) := by decide +kernel
theorem dd_Mapper_init_13 : decode prog_5_method_1_code 13 = .ok (.aload_n 0, 1) := by decide +kernel
theorem dd_Mapper_init_14 : decode prog_5_method_1_code 14 = .ok (.sipush 400, 3) := by decide +kernel
theorem dd_Mapper_init_17 : decode prog_5_method_1_code 17 = .ok (.newarray .int, 2) := by decide +kernel
theorem dd_Mapper_init_19 : decode prog_5_method_1_code 19 = .ok (.putfield 15, 3) := by decide +kernel
theorem dd_Mapper_init_22 : decode prog_5_method_1_code 22 = .ok (.aload_n 0, 1) := by decide +kernel
theorem dd_Mapper_init_23 : decode prog_5_method_1_code 23 = .ok (.sipush 400, 3) := by decide +kernel
theorem dd_Mapper_init_26 : decode prog_5_method_1_code 26 = .ok (.newarray .int, 2) := by decide +kernel
theorem dd_Mapper_init_28 : decode prog_5_method_1_code 28 = .ok (.putfield 18, 3) := by decide +kernel
theorem dd_Mapper_init_31 : decode prog_5_method_1_code 31 = .ok (.aload_n 0, 1) := by decide +kernel
theorem dd_Mapper_init_32 : decode prog_5_method_1_code 32 = .ok (.sipush 400, 3) := by decide +kernel
theorem dd_Mapper_init_35 : decode prog_5_method_1_code 35 = .ok (.newarray .int, 2) := by decide +kernel
theorem dd_Mapper_init_37 : decode prog_5_method_1_code 37 = .ok (.putfield 21, 3) := by decide +kernel
theorem dd_Mapper_init_40 : decode prog_5_method_1_code 40 = .ok (.aload_n 0, 1) := by decide +kernel
theorem dd_Mapper_init_41 : decode prog_5_method_1_code 41 = .ok (.sipush 400, 3) := by decide +kernel
theorem dd_Mapper_init_44 : decode prog_5_method_1_code 44 = .ok (.newarray .int, 2) := by decide +kernel
theorem dd_Mapper_init_46 : decode prog_5_method_1_code 46 = .ok (.putfield 24, 3) := by decide +kernel
theorem dd_Mapper_init_49 : decode prog_5_method_1_code 49 = .ok (.aload_n 0, 1) := by decide +kernel
theorem dd_Mapper_init_50 : decode prog_5_method_1_code 50 = .ok (.aload_n 1, 1) := by decide +kernel
theorem dd_Mapper_init_51 : decode prog_5_method_1_code 51 = .ok (.putfield 27, 3) := by decide +kernel
theorem dd_Mapper_init_54 : decode prog_5_method_1_code 54 = .ok (.aload_n 0, 1) := by decide +kernel
theorem dd_Mapper_init_55 : decode prog_5_method_1_code 55 = .ok (.aload_n 2, 1) := by decide +kernel
theorem dd_Mapper_init_56 : decode prog_5_method_1_code 56 = .ok (.putfield 31, 3) := by decide +kernel
theorem dd_Mapper_init_59 : decode prog_5_method_1_code 59 = .ok (.aload_n 0, 1) := by decide +kernel
theorem dd_Mapper_init_60 : decode prog_5_method_1_code 60 = .ok (.aload_n 3, 1) := by decide +kernel
theorem dd_Mapper_init_61 : decode prog_5_method_1_code 61 = .ok (.putfield 35, 3) := by decide +kernel
theorem dd_Mapper_init_64 : decode prog_5_method_1_code 64 = .ok (.aload_n 0, 1) := by decide +kernel
theorem dd_Mapper_init_65 : decode prog_5_method_1_code 65 = .ok (.aload 4, 2) := by decide +kernel
theorem dd_Mapper_init_67 : decode prog_5_method_1_code 67 = .ok (.putfield 39, 3) := by decide +kernel
theorem dd_Mapper_init_70 : decode prog_5_method_1_code 70 = .ok (.aload_n 0, 1) := by decide +kernel
theorem dd_Mapper_init_71 : decode prog_5_method_1_code 71 = .ok (.new 43, 3) := by decide +kernel
theorem dd_Mapper_init_74 : decode prog_5_method_1_code 74 = .ok (.dup, 1) := by decide +kernel
theorem dd_Mapper_init_75 : decode prog_5_method_1_code 75 = .ok (.aload_n 1, 1) := by decide +kernel
theorem dd_Mapper_init_76 : decode prog_5_method_1_code 76 = .ok (.aload_n 3, 1) := by decide +kernel
theorem dd_Mapper_init_77 : decode prog_5_method_1_code 77 = .ok (.invokespecial 45, 3) := by decide +kernel
theorem dd_Mapper_init_80 : decode prog_5_method_1_code 80 = .ok (.putfield 48, 3) := by decide +kernel
theorem dd_Mapper_init_83 : decode prog_5_method_1_code 83 = .ok (.return_, 1) := by decide +kernel
theorem dd_Mapper_hasFailed_0 : decode prog_5_method_2_code 0 = .ok (.aload_n 0, 1) := by decide +kernel
theorem dd_Mapper_hasFailed_1 : decode prog_5_method_2_code 1 = .ok (.getfield 48, 3) := by decide +kernel
theorem dd_Mapper_hasFailed_4 : decode prog_5_method_2_code 4 = .ok (.getfield 52, 3) := by decide +kernel
theorem dd_Mapper_hasFailed_7 : decode prog_5_method_2_code 7 = .ok (.ireturn, 1) := by decide +kernel
theorem dd_Mapper_run_0 : decode prog_5_method_3_code 0 = .ok (.aload_n 0, 1) := by decide +kernel
theorem dd_Mapper_run_1 : decode prog_5_method_3_code 1 = .ok (.getfield 48, 3) := by decide +kernel
theorem dd_Mapper_run_4 : decode prog_5_method_3_code 4 = .ok (.iconst 0, 1) := by decide +kernel
theorem dd_Mapper_run_5 : decode prog_5_method_3_code 5 = .ok (.putfield 52, 3) := by decide +kernel
theorem dd_Mapper_run_8 : decode prog_5_method_3_code 8 = .ok (.aload_n 0, 1) := by decide +kernel
theorem dd_Mapper_run_9 : decode prog_5_method_3_code 9 = .ok (.iconst 0, 1) := by decide +kernel
theorem dd_Mapper_run_10 : decode prog_5_method_3_code 10 = .ok (.putfield 56, 3) := by decide +kernel
theorem dd_Mapper_run_13 : decode prog_5_method_3_code 13 = .ok (.aload_n 0, 1) := by decide +kernel
theorem dd_Mapper_run_14 : decode prog_5_method_3_code 14 = .ok (.getfield 9, 3) := by decide +kernel
theorem dd_Mapper_run_17 : decode prog_5_method_3_code 17 = .ok (.iconst (-1), 1) := by decide +kernel
theorem dd_Mapper_run_18 : decode prog_5_method_3_code 18 = .ok (.invokestatic 60, 3) := by decide +kernel
theorem dd_Mapper_run_21 : decode prog_5_method_3_code 21 = .ok (.aload_n 0, 1) := by decide +kernel
theorem dd_Mapper_run_22 : decode prog_5_method_3_code 22 = .ok (.iload_n 1, 1) := by decide +kernel
theorem dd_Mapper_run_23 : decode prog_5_method_3_code 23 = .ok (.lload_n 2, 1) := by decide +kernel
theorem dd_Mapper_run_24 : decode prog_5_method_3_code 24 = .ok (.invokevirtual 66, 3) := by decide +kernel
theorem dd_Mapper_run_27 : decode prog_5_method_3_code 27 = .ok (.lstore 4, 2) := by decide +kernel
theorem dd_Mapper_run_29 : decode prog_5_method_3_code 29 = .ok (.iconst 0, 1) := by decide +kernel
theorem dd_Mapper_run_30 : decode prog_5_method_3_code 30 = .ok (.istore 6, 2) := by decide +kernel
theorem dd_Mapper_run_32 : decode prog_5_method_3_code 32 = .ok (.iload 6, 2) := by decide +kernel
theorem dd_Mapper_run_34 : decode prog_5_method_3_code 34 = .ok (.sipush 6800, 3) := by decide +kernel
theorem dd_Mapper_run_37 : decode prog_5_method_3_code 37 = .ok (.if_icmp .ge 196, 3) := by decide +kernel
theorem dd_Mapper_run_40 : decode prog_5_method_3_code 40 = .ok (.aload_n 0, 1) := by decide +kernel
theorem dd_Mapper_run_41 : decode prog_5_method_3_code 41 = .ok (.getfield 56, 3) := by decide +kernel
theorem dd_Mapper_run_44 : decode prog_5_method_3_code 44 = .ok (.ifCond .le 189, 3) := by decide +kernel
theorem dd_Mapper_run_47 : decode prog_5_method_3_code 47 = .ok (.aload_n 0, 1) := by decide +kernel
theorem dd_Mapper_run_48 : decode prog_5_method_3_code 48 = .ok (.getfield 48, 3) := by decide +kernel
theorem dd_Mapper_run_51 : decode prog_5_method_3_code 51 = .ok (.getfield 52, 3) := by decide +kernel
theorem dd_Mapper_run_54 : decode prog_5_method_3_code 54 = .ok (.ifCond .ne 179, 3) := by decide +kernel
theorem dd_Mapper_run_57 : decode prog_5_method_3_code 57 = .ok (.aload_n 0, 1) := by decide +kernel
theorem dd_Mapper_run_58 : decode prog_5_method_3_code 58 = .ok (.getfield 56, 3) := by decide +kernel
theorem dd_Mapper_run_61 : decode prog_5_method_3_code 61 = .ok (.iconst 1, 1) := by decide +kernel
theorem dd_Mapper_run_62 : decode prog_5_method_3_code 62 = .ok (.isub, 1) := by decide +kernel
theorem dd_Mapper_run_63 : decode prog_5_method_3_code 63 = .ok (.istore 7, 2) := by decide +kernel
theorem dd_Mapper_run_65 : decode prog_5_method_3_code 65 = .ok (.aload_n 0, 1) := by decide +kernel
theorem dd_Mapper_run_66 : decode prog_5_method_3_code 66 = .ok (.getfield 21, 3) := by decide +kernel
theorem dd_Mapper_run_69 : decode prog_5_method_3_code 69 = .ok (.iload 7, 2) := by decide +kernel
theorem dd_Mapper_run_71 : decode prog_5_method_3_code 71 = .ok (.iaload, 1) := by decide +kernel
theorem dd_Mapper_run_72 : decode prog_5_method_3_code 72 = .ok (.istore 8, 2) := by decide +kernel
theorem dd_Mapper_run_74 : decode prog_5_method_3_code 74 = .ok (.aload_n 0, 1) := by decide +kernel
theorem dd_Mapper_run_75 : decode prog_5_method_3_code 75 = .ok (.getfield 21, 3) := by decide +kernel
theorem dd_Mapper_run_78 : decode prog_5_method_3_code 78 = .ok (.iload 7, 2) := by decide +kernel
theorem dd_Mapper_run_80 : decode prog_5_method_3_code 80 = .ok (.dup2, 1) := by decide +kernel
theorem dd_Mapper_run_81 : decode prog_5_method_3_code 81 = .ok (.iaload, 1) := by decide +kernel
theorem dd_Mapper_run_82 : decode prog_5_method_3_code 82 = .ok (.iconst 1, 1) := by decide +kernel
theorem dd_Mapper_run_83 : decode prog_5_method_3_code 83 = .ok (.iadd, 1) := by decide +kernel
theorem dd_Mapper_run_84 : decode prog_5_method_3_code 84 = .ok (.iastore, 1) := by decide +kernel
theorem dd_Mapper_run_85 : decode prog_5_method_3_code 85 = .ok (.iload 8, 2) := by decide +kernel
theorem dd_Mapper_run_87 : decode prog_5_method_3_code 87 = .ok (.aload_n 0, 1) := by decide +kernel
theorem dd_Mapper_run_88 : decode prog_5_method_3_code 88 = .ok (.getfield 35, 3) := by decide +kernel
theorem dd_Mapper_run_91 : decode prog_5_method_3_code 91 = .ok (.aload_n 0, 1) := by decide +kernel
theorem dd_Mapper_run_92 : decode prog_5_method_3_code 92 = .ok (.getfield 18, 3) := by decide +kernel
theorem dd_Mapper_run_95 : decode prog_5_method_3_code 95 = .ok (.iload 7, 2) := by decide +kernel
theorem dd_Mapper_run_97 : decode prog_5_method_3_code 97 = .ok (.iaload, 1) := by decide +kernel
theorem dd_Mapper_run_98 : decode prog_5_method_3_code 98 = .ok (.invokevirtual 70, 3) := by decide +kernel
theorem dd_Mapper_run_101 : decode prog_5_method_3_code 101 = .ok (.if_icmp .lt 14, 3) := by decide +kernel
theorem dd_Mapper_run_104 : decode prog_5_method_3_code 104 = .ok (.aload_n 0, 1) := by decide +kernel
theorem dd_Mapper_run_105 : decode prog_5_method_3_code 105 = .ok (.getfield 24, 3) := by decide +kernel
theorem dd_Mapper_run_108 : decode prog_5_method_3_code 108 = .ok (.iload 7, 2) := by decide +kernel
theorem dd_Mapper_run_110 : decode prog_5_method_3_code 110 = .ok (.iaload, 1) := by decide +kernel
theorem dd_Mapper_run_111 : decode prog_5_method_3_code 111 = .ok (.iconst (-1), 1) := by decide +kernel
theorem dd_Mapper_run_112 : decode prog_5_method_3_code 112 = .ok (.if_icmp .ne 33, 3) := by decide +kernel
theorem dd_Mapper_run_115 : decode prog_5_method_3_code 115 = .ok (.iload 8, 2) := by decide +kernel
theorem dd_Mapper_run_117 : decode prog_5_method_3_code 117 = .ok (.aload_n 0, 1) := by decide +kernel
theorem dd_Mapper_run_118 : decode prog_5_method_3_code 118 = .ok (.getfield 35, 3) := by decide +kernel
theorem dd_Mapper_run_121 : decode prog_5_method_3_code 121 = .ok (.aload_n 0, 1) := by decide +kernel
theorem dd_Mapper_run_122 : decode prog_5_method_3_code 122 = .ok (.getfield 15, 3) := by decide +kernel
theorem dd_Mapper_run_125 : decode prog_5_method_3_code 125 = .ok (.iload 7, 2) := by decide +kernel
theorem dd_Mapper_run_127 : decode prog_5_method_3_code 127 = .ok (.iaload, 1) := by decide +kernel
theorem dd_Mapper_run_128 : decode prog_5_method_3_code 128 = .ok (.invokevirtual 70, 3) := by decide +kernel
theorem dd_Mapper_run_131 : decode prog_5_method_3_code 131 = .ok (.if_icmp .lt 27, 3) := by decide +kernel
theorem dd_Mapper_run_134 : decode prog_5_method_3_code 134 = .ok (.aload_n 0, 1) := by decide +kernel
theorem dd_Mapper_run_135 : decode prog_5_method_3_code 135 = .ok (.getfield 24, 3) := by decide +kernel
theorem dd_Mapper_run_138 : decode prog_5_method_3_code 138 = .ok (.iload 7, 2) := by decide +kernel
theorem dd_Mapper_run_140 : decode prog_5_method_3_code 140 = .ok (.iaload, 1) := by decide +kernel
theorem dd_Mapper_run_141 : decode prog_5_method_3_code 141 = .ok (.iconst (-1), 1) := by decide +kernel
theorem dd_Mapper_run_142 : decode prog_5_method_3_code 142 = .ok (.if_icmp .ne 16, 3) := by decide +kernel
theorem dd_Mapper_run_145 : decode prog_5_method_3_code 145 = .ok (.aload_n 0, 1) := by decide +kernel
theorem dd_Mapper_run_146 : decode prog_5_method_3_code 146 = .ok (.dup, 1) := by decide +kernel
theorem dd_Mapper_run_147 : decode prog_5_method_3_code 147 = .ok (.getfield 56, 3) := by decide +kernel
theorem dd_Mapper_run_150 : decode prog_5_method_3_code 150 = .ok (.iconst 1, 1) := by decide +kernel
theorem dd_Mapper_run_151 : decode prog_5_method_3_code 151 = .ok (.isub, 1) := by decide +kernel
theorem dd_Mapper_run_152 : decode prog_5_method_3_code 152 = .ok (.putfield 56, 3) := by decide +kernel
theorem dd_Mapper_run_155 : decode prog_5_method_3_code 155 = .ok (.goto 72, 3) := by decide +kernel
theorem dd_Mapper_run_158 : decode prog_5_method_3_code 158 = .ok (.aload_n 0, 1) := by decide +kernel
theorem dd_Mapper_run_159 : decode prog_5_method_3_code 159 = .ok (.getfield 24, 3) := by decide +kernel
theorem dd_Mapper_run_162 : decode prog_5_method_3_code 162 = .ok (.iload 7, 2) := by decide +kernel
theorem dd_Mapper_run_164 : decode prog_5_method_3_code 164 = .ok (.iaload, 1) := by decide +kernel
theorem dd_Mapper_run_165 : decode prog_5_method_3_code 165 = .ok (.iconst (-1), 1) := by decide +kernel
theorem dd_Mapper_run_166 : decode prog_5_method_3_code 166 = .ok (.if_icmp .ne 26, 3) := by decide +kernel
theorem dd_Mapper_run_169 : decode prog_5_method_3_code 169 = .ok (.aload_n 0, 1) := by decide +kernel
theorem dd_Mapper_run_170 : decode prog_5_method_3_code 170 = .ok (.aload_n 0, 1) := by decide +kernel
theorem dd_Mapper_run_171 : decode prog_5_method_3_code 171 = .ok (.getfield 15, 3) := by decide +kernel
theorem dd_Mapper_run_174 : decode prog_5_method_3_code 174 = .ok (.iload 7, 2) := by decide +kernel
theorem dd_Mapper_run_176 : decode prog_5_method_3_code 176 = .ok (.iaload, 1) := by decide +kernel
theorem dd_Mapper_run_177 : decode prog_5_method_3_code 177 = .ok (.aload_n 0, 1) := by decide +kernel
theorem dd_Mapper_run_178 : decode prog_5_method_3_code 178 = .ok (.getfield 18, 3) := by decide +kernel
theorem dd_Mapper_run_181 : decode prog_5_method_3_code 181 = .ok (.iload 7, 2) := by decide +kernel
theorem dd_Mapper_run_183 : decode prog_5_method_3_code 183 = .ok (.iaload, 1) := by decide +kernel
theorem dd_Mapper_run_184 : decode prog_5_method_3_code 184 = .ok (.iload 8, 2) := by decide +kernel
theorem dd_Mapper_run_186 : decode prog_5_method_3_code 186 = .ok (.invokevirtual 76, 3) := by decide +kernel
theorem dd_Mapper_run_189 : decode prog_5_method_3_code 189 = .ok (.goto 38, 3) := by decide +kernel
theorem dd_Mapper_run_192 : decode prog_5_method_3_code 192 = .ok (.aload_n 0, 1) := by decide +kernel
theorem dd_Mapper_run_193 : decode prog_5_method_3_code 193 = .ok (.aload_n 0, 1) := by decide +kernel
theorem dd_Mapper_run_194 : decode prog_5_method_3_code 194 = .ok (.getfield 31, 3) := by decide +kernel
theorem dd_Mapper_run_197 : decode prog_5_method_3_code 197 = .ok (.getfield 80, 3) := by decide +kernel
theorem dd_Mapper_run_200 : decode prog_5_method_3_code 200 = .ok (.aload_n 0, 1) := by decide +kernel
theorem dd_Mapper_run_201 : decode prog_5_method_3_code 201 = .ok (.getfield 24, 3) := by decide +kernel
theorem dd_Mapper_run_204 : decode prog_5_method_3_code 204 = .ok (.iload 7, 2) := by decide +kernel
theorem dd_Mapper_run_206 : decode prog_5_method_3_code 206 = .ok (.iaload, 1) := by decide +kernel
theorem dd_Mapper_run_207 : decode prog_5_method_3_code 207 = .ok (.aaload, 1) := by decide +kernel
theorem dd_Mapper_run_208 : decode prog_5_method_3_code 208 = .ok (.aload_n 0, 1) := by decide +kernel
theorem dd_Mapper_run_209 : decode prog_5_method_3_code 209 = .ok (.getfield 15, 3) := by decide +kernel
theorem dd_Mapper_run_212 : decode prog_5_method_3_code 212 = .ok (.iload 7, 2) := by decide +kernel
theorem dd_Mapper_run_214 : decode prog_5_method_3_code 214 = .ok (.iaload, 1) := by decide +kernel
theorem dd_Mapper_run_215 : decode prog_5_method_3_code 215 = .ok (.aload_n 0, 1) := by decide +kernel
theorem dd_Mapper_run_216 : decode prog_5_method_3_code 216 = .ok (.getfield 18, 3) := by decide +kernel
theorem dd_Mapper_run_219 : decode prog_5_method_3_code 219 = .ok (.iload 7, 2) := by decide +kernel
theorem dd_Mapper_run_221 : decode prog_5_method_3_code 221 = .ok (.iaload, 1) := by decide +kernel
theorem dd_Mapper_run_222 : decode prog_5_method_3_code 222 = .ok (.iload 8, 2) := by decide +kernel
theorem dd_Mapper_run_224 : decode prog_5_method_3_code 224 = .ok (.invokevirtual 85, 3) := by decide +kernel
theorem dd_Mapper_run_227 : decode prog_5_method_3_code 227 = .ok (.iinc 6 1, 3) := by decide +kernel
theorem dd_Mapper_run_230 : decode prog_5_method_3_code 230 = .ok (.goto (-198), 3) := by decide +kernel
theorem dd_Mapper_run_233 : decode prog_5_method_3_code 233 = .ok (.lload 4, 2) := by decide +kernel
theorem dd_Mapper_run_235 : decode prog_5_method_3_code 235 = .ok (.lreturn, 1) := by decide +kernel
theorem dd_Mapper_begin_0 : decode prog_5_method_4_code 0 = .ok (.aload_n 0, 1) := by decide +kernel
theorem dd_Mapper_begin_1 : decode prog_5_method_4_code 1 = .ok (.getfield 56, 3) := by decide +kernel
theorem dd_Mapper_begin_4 : decode prog_5_method_4_code 4 = .ok (.ifCond .lt 13, 3) := by decide +kernel
theorem dd_Mapper_begin_7 : decode prog_5_method_4_code 7 = .ok (.aload_n 0, 1) := by decide +kernel
theorem dd_Mapper_begin_8 : decode prog_5_method_4_code 8 = .ok (.getfield 56, 3) := by decide +kernel
theorem dd_Mapper_begin_11 : decode prog_5_method_4_code 11 = .ok (.sipush 400, 3) := by decide +kernel
theorem dd_Mapper_begin_14 : decode prog_5_method_4_code 14 = .ok (.if_icmp .lt 12, 3) := by decide +kernel
theorem dd_Mapper_begin_17 : decode prog_5_method_4_code 17 = .ok (.aload_n 0, 1) := by decide +kernel
theorem dd_Mapper_begin_18 : decode prog_5_method_4_code 18 = .ok (.getfield 48, 3) := by decide +kernel
theorem dd_Mapper_begin_21 : decode prog_5_method_4_code 21 = .ok (.iconst 1, 1) := by decide +kernel
theorem dd_Mapper_begin_22 : decode prog_5_method_4_code 22 = .ok (.putfield 52, 3) := by decide +kernel
theorem dd_Mapper_begin_25 : decode prog_5_method_4_code 25 = .ok (.return_, 1) := by decide +kernel
theorem dd_Mapper_begin_26 : decode prog_5_method_4_code 26 = .ok (.aload_n 0, 1) := by decide +kernel
theorem dd_Mapper_begin_27 : decode prog_5_method_4_code 27 = .ok (.getfield 24, 3) := by decide +kernel
theorem dd_Mapper_begin_30 : decode prog_5_method_4_code 30 = .ok (.aload_n 0, 1) := by decide +kernel
theorem dd_Mapper_begin_31 : decode prog_5_method_4_code 31 = .ok (.getfield 56, 3) := by decide +kernel
theorem dd_Mapper_begin_34 : decode prog_5_method_4_code 34 = .ok (.iload_n 1, 1) := by decide +kernel
theorem dd_Mapper_begin_35 : decode prog_5_method_4_code 35 = .ok (.iastore, 1) := by decide +kernel
theorem dd_Mapper_begin_36 : decode prog_5_method_4_code 36 = .ok (.aload_n 0, 1) := by decide +kernel
theorem dd_Mapper_begin_37 : decode prog_5_method_4_code 37 = .ok (.getfield 15, 3) := by decide +kernel
theorem dd_Mapper_begin_40 : decode prog_5_method_4_code 40 = .ok (.aload_n 0, 1) := by decide +kernel
theorem dd_Mapper_begin_41 : decode prog_5_method_4_code 41 = .ok (.getfield 56, 3) := by decide +kernel
theorem dd_Mapper_begin_44 : decode prog_5_method_4_code 44 = .ok (.iload_n 2, 1) := by decide +kernel
theorem dd_Mapper_begin_45 : decode prog_5_method_4_code 45 = .ok (.iastore, 1) := by decide +kernel
theorem dd_Mapper_begin_46 : decode prog_5_method_4_code 46 = .ok (.aload_n 0, 1) := by decide +kernel
theorem dd_Mapper_begin_47 : decode prog_5_method_4_code 47 = .ok (.getfield 18, 3) := by decide +kernel
theorem dd_Mapper_begin_50 : decode prog_5_method_4_code 50 = .ok (.aload_n 0, 1) := by decide +kernel
theorem dd_Mapper_begin_51 : decode prog_5_method_4_code 51 = .ok (.getfield 56, 3) := by decide +kernel
theorem dd_Mapper_begin_54 : decode prog_5_method_4_code 54 = .ok (.iload_n 3, 1) := by decide +kernel
theorem dd_Mapper_begin_55 : decode prog_5_method_4_code 55 = .ok (.iastore, 1) := by decide +kernel
theorem dd_Mapper_begin_56 : decode prog_5_method_4_code 56 = .ok (.aload_n 0, 1) := by decide +kernel
theorem dd_Mapper_begin_57 : decode prog_5_method_4_code 57 = .ok (.getfield 21, 3) := by decide +kernel
theorem dd_Mapper_begin_60 : decode prog_5_method_4_code 60 = .ok (.aload_n 0, 1) := by decide +kernel
theorem dd_Mapper_begin_61 : decode prog_5_method_4_code 61 = .ok (.getfield 56, 3) := by decide +kernel
theorem dd_Mapper_begin_64 : decode prog_5_method_4_code 64 = .ok (.iconst 0, 1) := by decide +kernel
theorem dd_Mapper_begin_65 : decode prog_5_method_4_code 65 = .ok (.iastore, 1) := by decide +kernel
theorem dd_Mapper_begin_66 : decode prog_5_method_4_code 66 = .ok (.aload_n 0, 1) := by decide +kernel
theorem dd_Mapper_begin_67 : decode prog_5_method_4_code 67 = .ok (.dup, 1) := by decide +kernel
theorem dd_Mapper_begin_68 : decode prog_5_method_4_code 68 = .ok (.getfield 56, 3) := by decide +kernel
theorem dd_Mapper_begin_71 : decode prog_5_method_4_code 71 = .ok (.iconst 1, 1) := by decide +kernel
theorem dd_Mapper_begin_72 : decode prog_5_method_4_code 72 = .ok (.iadd, 1) := by decide +kernel
theorem dd_Mapper_begin_73 : decode prog_5_method_4_code 73 = .ok (.putfield 56, 3) := by decide +kernel
theorem dd_Mapper_begin_76 : decode prog_5_method_4_code 76 = .ok (.return_, 1) := by decide +kernel
theorem dd_Mapper_fillList_0 : decode prog_5_method_5_code 0 = .ok (.aload_n 0, 1) := by decide +kernel
theorem dd_Mapper_fillList_1 : decode prog_5_method_5_code 1 = .ok (.getfield 27, 3) := by decide +kernel
theorem dd_Mapper_fillList_4 : decode prog_5_method_5_code 4 = .ok (.aload_n 0, 1) := by decide +kernel
theorem dd_Mapper_fillList_5 : decode prog_5_method_5_code 5 = .ok (.getfield 35, 3) := by decide +kernel
theorem dd_Mapper_fillList_8 : decode prog_5_method_5_code 8 = .ok (.iload_n 1, 1) := by decide +kernel
theorem dd_Mapper_fillList_9 : decode prog_5_method_5_code 9 = .ok (.invokevirtual 89, 3) := by decide +kernel
theorem dd_Mapper_fillList_12 : decode prog_5_method_5_code 12 = .ok (.invokevirtual 92, 3) := by decide +kernel
theorem dd_Mapper_fillList_15 : decode prog_5_method_5_code 15 = .ok (.istore 4, 2) := by decide +kernel
theorem dd_Mapper_fillList_17 : decode prog_5_method_5_code 17 = .ok (.aload_n 0, 1) := by decide +kernel
theorem dd_Mapper_fillList_18 : decode prog_5_method_5_code 18 = .ok (.getfield 27, 3) := by decide +kernel
theorem dd_Mapper_fillList_21 : decode prog_5_method_5_code 21 = .ok (.aload_n 0, 1) := by decide +kernel
theorem dd_Mapper_fillList_22 : decode prog_5_method_5_code 22 = .ok (.getfield 35, 3) := by decide +kernel
theorem dd_Mapper_fillList_25 : decode prog_5_method_5_code 25 = .ok (.iload_n 2, 1) := by decide +kernel
theorem dd_Mapper_fillList_26 : decode prog_5_method_5_code 26 = .ok (.invokevirtual 89, 3) := by decide +kernel
theorem dd_Mapper_fillList_29 : decode prog_5_method_5_code 29 = .ok (.invokevirtual 92, 3) := by decide +kernel
theorem dd_Mapper_fillList_32 : decode prog_5_method_5_code 32 = .ok (.istore 5, 2) := by decide +kernel
theorem dd_Mapper_fillList_34 : decode prog_5_method_5_code 34 = .ok (.aload_n 0, 1) := by decide +kernel
theorem dd_Mapper_fillList_35 : decode prog_5_method_5_code 35 = .ok (.getfield 35, 3) := by decide +kernel
theorem dd_Mapper_fillList_38 : decode prog_5_method_5_code 38 = .ok (.iload_n 2, 1) := by decide +kernel
theorem dd_Mapper_fillList_39 : decode prog_5_method_5_code 39 = .ok (.aload_n 0, 1) := by decide +kernel
theorem dd_Mapper_fillList_40 : decode prog_5_method_5_code 40 = .ok (.aload_n 0, 1) := by decide +kernel
theorem dd_Mapper_fillList_41 : decode prog_5_method_5_code 41 = .ok (.getfield 39, 3) := by decide +kernel
theorem dd_Mapper_fillList_44 : decode prog_5_method_5_code 44 = .ok (.iload 4, 2) := by decide +kernel
theorem dd_Mapper_fillList_46 : decode prog_5_method_5_code 46 = .ok (.iload 5, 2) := by decide +kernel
theorem dd_Mapper_fillList_48 : decode prog_5_method_5_code 48 = .ok (.invokevirtual 97, 3) := by decide +kernel
theorem dd_Mapper_fillList_51 : decode prog_5_method_5_code 51 = .ok (.iload 4, 2) := by decide +kernel
theorem dd_Mapper_fillList_53 : decode prog_5_method_5_code 53 = .ok (.iload 5, 2) := by decide +kernel
theorem dd_Mapper_fillList_55 : decode prog_5_method_5_code 55 = .ok (.aload_n 0, 1) := by decide +kernel
theorem dd_Mapper_fillList_56 : decode prog_5_method_5_code 56 = .ok (.getfield 35, 3) := by decide +kernel
theorem dd_Mapper_fillList_59 : decode prog_5_method_5_code 59 = .ok (.iload_n 1, 1) := by decide +kernel
theorem dd_Mapper_fillList_60 : decode prog_5_method_5_code 60 = .ok (.iload_n 3, 1) := by decide +kernel
theorem dd_Mapper_fillList_61 : decode prog_5_method_5_code 61 = .ok (.invokevirtual 103, 3) := by decide +kernel
theorem dd_Mapper_fillList_64 : decode prog_5_method_5_code 64 = .ok (.invokevirtual 107, 3) := by decide +kernel
theorem dd_Mapper_fillList_67 : decode prog_5_method_5_code 67 = .ok (.invokevirtual 111, 3) := by decide +kernel
theorem dd_Mapper_fillList_70 : decode prog_5_method_5_code 70 = .ok (.pop, 1) := by decide +kernel
theorem dd_Mapper_fillList_71 : decode prog_5_method_5_code 71 = .ok (.return_, 1) := by decide +kernel
theorem dd_Mapper_fillProperty_0 : decode prog_5_method_6_code 0 = .ok (.iload 4, 2) := by decide +kernel
theorem dd_Mapper_fillProperty_2 : decode prog_5_method_6_code 2 = .ok (.ifCond .lt 10, 3) := by decide +kernel
theorem dd_Mapper_fillProperty_5 : decode prog_5_method_6_code 5 = .ok (.iload 4, 2) := by decide +kernel
theorem dd_Mapper_fillProperty_7 : decode prog_5_method_6_code 7 = .ok (.bipush 8, 2) := by decide +kernel
theorem dd_Mapper_fillProperty_9 : decode prog_5_method_6_code 9 = .ok (.if_icmp .lt 4, 3) := by decide +kernel
theorem dd_Mapper_fillProperty_12 : decode prog_5_method_6_code 12 = .ok (.return_, 1) := by decide +kernel
theorem dd_Mapper_fillProperty_13 : decode prog_5_method_6_code 13 = .ok (.aload_n 1, 1) := by decide +kernel
theorem dd_Mapper_fillProperty_14 : decode prog_5_method_6_code 14 = .ok (.getfield 115, 3) := by decide +kernel
theorem dd_Mapper_fillProperty_17 : decode prog_5_method_6_code 17 = .ok (.iload 4, 2) := by decide +kernel
theorem dd_Mapper_fillProperty_19 : decode prog_5_method_6_code 19 = .ok (.aaload, 1) := by decide +kernel
theorem dd_Mapper_fillProperty_20 : decode prog_5_method_6_code 20 = .ok (.astore 5, 2) := by decide +kernel
theorem dd_Mapper_fillProperty_22 : decode prog_5_method_6_code 22 = .ok (.aload_n 0, 1) := by decide +kernel
theorem dd_Mapper_fillProperty_23 : decode prog_5_method_6_code 23 = .ok (.getfield 27, 3) := by decide +kernel
theorem dd_Mapper_fillProperty_26 : decode prog_5_method_6_code 26 = .ok (.aload_n 1, 1) := by decide +kernel
theorem dd_Mapper_fillProperty_27 : decode prog_5_method_6_code 27 = .ok (.getfield 121, 3) := by decide +kernel
theorem dd_Mapper_fillProperty_30 : decode prog_5_method_6_code 30 = .ok (.iload 4, 2) := by decide +kernel
theorem dd_Mapper_fillProperty_32 : decode prog_5_method_6_code 32 = .ok (.invokevirtual 124, 3) := by decide +kernel
theorem dd_Mapper_fillProperty_35 : decode prog_5_method_6_code 35 = .ok (.istore 6, 2) := by decide +kernel
theorem dd_Mapper_fillProperty_37 : decode prog_5_method_6_code 37 = .ok (.aload 5, 2) := by decide +kernel
theorem dd_Mapper_fillProperty_39 : decode prog_5_method_6_code 39 = .ok (.getfield 127, 3) := by decide +kernel
theorem dd_Mapper_fillProperty_42 : decode prog_5_method_6_code 42 = .ok (.iconst 1, 1) := by decide +kernel
theorem dd_Mapper_fillProperty_43 : decode prog_5_method_6_code 43 = .ok (.if_icmp .ne 31, 3) := by decide +kernel
theorem dd_Mapper_fillProperty_46 : decode prog_5_method_6_code 46 = .ok (.aload_n 0, 1) := by decide +kernel
theorem dd_Mapper_fillProperty_47 : decode prog_5_method_6_code 47 = .ok (.getfield 35, 3) := by decide +kernel
theorem dd_Mapper_fillProperty_50 : decode prog_5_method_6_code 50 = .ok (.iload_n 3, 1) := by decide +kernel
theorem dd_Mapper_fillProperty_51 : decode prog_5_method_6_code 51 = .ok (.iload 4, 2) := by decide +kernel
theorem dd_Mapper_fillProperty_53 : decode prog_5_method_6_code 53 = .ok (.aload_n 0, 1) := by decide +kernel
theorem dd_Mapper_fillProperty_54 : decode prog_5_method_6_code 54 = .ok (.aload 5, 2) := by decide +kernel
theorem dd_Mapper_fillProperty_56 : decode prog_5_method_6_code 56 = .ok (.getfield 132, 3) := by decide +kernel
theorem dd_Mapper_fillProperty_59 : decode prog_5_method_6_code 59 = .ok (.iconst 4, 1) := by decide +kernel
theorem dd_Mapper_fillProperty_60 : decode prog_5_method_6_code 60 = .ok (.iload 6, 2) := by decide +kernel
theorem dd_Mapper_fillProperty_62 : decode prog_5_method_6_code 62 = .ok (.aload 5, 2) := by decide +kernel
theorem dd_Mapper_fillProperty_64 : decode prog_5_method_6_code 64 = .ok (.getfield 135, 3) := by decide +kernel
theorem dd_Mapper_fillProperty_67 : decode prog_5_method_6_code 67 = .ok (.invokevirtual 107, 3) := by decide +kernel
theorem dd_Mapper_fillProperty_70 : decode prog_5_method_6_code 70 = .ok (.invokevirtual 139, 3) := by decide +kernel
theorem dd_Mapper_fillProperty_73 : decode prog_5_method_6_code 73 = .ok (.pop, 1) := by decide +kernel
theorem dd_Mapper_fillProperty_74 : decode prog_5_method_6_code 74 = .ok (.aload 5, 2) := by decide +kernel
theorem dd_Mapper_fillProperty_76 : decode prog_5_method_6_code 76 = .ok (.getfield 127, 3) := by decide +kernel
theorem dd_Mapper_fillProperty_79 : decode prog_5_method_6_code 79 = .ok (.ifCond .eq 4, 3) := by decide +kernel
theorem dd_Mapper_fillProperty_82 : decode prog_5_method_6_code 82 = .ok (.return_, 1) := by decide +kernel
theorem dd_Mapper_fillProperty_83 : decode prog_5_method_6_code 83 = .ok (.iload_n 2, 1) := by decide +kernel
theorem dd_Mapper_fillProperty_84 : decode prog_5_method_6_code 84 = .ok (.i2l, 1) := by decide +kernel
theorem dd_Mapper_fillProperty_85 : decode prog_5_method_6_code 85 = .ok (.lstore 7, 2) := by decide +kernel
theorem dd_Mapper_fillProperty_87 : decode prog_5_method_6_code 87 = .ok (.aload 5, 2) := by decide +kernel
theorem dd_Mapper_fillProperty_89 : decode prog_5_method_6_code 89 = .ok (.getfield 143, 3) := by decide +kernel
theorem dd_Mapper_fillProperty_92 : decode prog_5_method_6_code 92 = .ok (.iconst 1, 1) := by decide +kernel
theorem dd_Mapper_fillProperty_93 : decode prog_5_method_6_code 93 = .ok (.isub, 1) := by decide +kernel
theorem dd_Mapper_fillProperty_94 : decode prog_5_method_6_code 94 = .ok (.istore 9, 2) := by decide +kernel
theorem dd_Mapper_fillProperty_96 : decode prog_5_method_6_code 96 = .ok (.iconst 0, 1) := by decide +kernel
theorem dd_Mapper_fillProperty_97 : decode prog_5_method_6_code 97 = .ok (.istore 10, 2) := by decide +kernel
theorem dd_Mapper_fillProperty_99 : decode prog_5_method_6_code 99 = .ok (.iload 10, 2) := by decide +kernel
theorem dd_Mapper_fillProperty_101 : decode prog_5_method_6_code 101 = .ok (.iload 9, 2) := by decide +kernel
theorem dd_Mapper_fillProperty_103 : decode prog_5_method_6_code 103 = .ok (.if_icmp .ge 44, 3) := by decide +kernel
theorem dd_Mapper_fillProperty_106 : decode prog_5_method_6_code 106 = .ok (.iload 10, 2) := by decide +kernel
theorem dd_Mapper_fillProperty_108 : decode prog_5_method_6_code 108 = .ok (.iconst 3, 1) := by decide +kernel
theorem dd_Mapper_fillProperty_109 : decode prog_5_method_6_code 109 = .ok (.if_icmp .ge 38, 3) := by decide +kernel
theorem dd_Mapper_fillProperty_112 : decode prog_5_method_6_code 112 = .ok (.lload 7, 2) := by decide +kernel
theorem dd_Mapper_fillProperty_114 : decode prog_5_method_6_code 114 = .ok (.ldc2_w 146, 3) := by decide +kernel
theorem dd_Mapper_fillProperty_117 : decode prog_5_method_6_code 117 = .ok (.lcmp, 1) := by decide +kernel
theorem dd_Mapper_fillProperty_118 : decode prog_5_method_6_code 118 = .ok (.ifCond .eq 29, 3) := by decide +kernel
theorem dd_Mapper_fillProperty_121 : decode prog_5_method_6_code 121 = .ok (.aload_n 0, 1) := by decide +kernel
theorem dd_Mapper_fillProperty_122 : decode prog_5_method_6_code 122 = .ok (.getfield 35, 3) := by decide +kernel
theorem dd_Mapper_fillProperty_125 : decode prog_5_method_6_code 125 = .ok (.lload 7, 2) := by decide +kernel
theorem dd_Mapper_fillProperty_127 : decode prog_5_method_6_code 127 = .ok (.l2i, 1) := by decide +kernel
theorem dd_Mapper_fillProperty_128 : decode prog_5_method_6_code 128 = .ok (.aload 5, 2) := by decide +kernel
theorem dd_Mapper_fillProperty_130 : decode prog_5_method_6_code 130 = .ok (.getfield 148, 3) := by decide +kernel
theorem dd_Mapper_fillProperty_133 : decode prog_5_method_6_code 133 = .ok (.iload 10, 2) := by decide +kernel
theorem dd_Mapper_fillProperty_135 : decode prog_5_method_6_code 135 = .ok (.iaload, 1) := by decide +kernel
theorem dd_Mapper_fillProperty_136 : decode prog_5_method_6_code 136 = .ok (.invokevirtual 103, 3) := by decide +kernel
theorem dd_Mapper_fillProperty_139 : decode prog_5_method_6_code 139 = .ok (.lstore 7, 2) := by decide +kernel
theorem dd_Mapper_fillProperty_141 : decode prog_5_method_6_code 141 = .ok (.iinc 10 1, 3) := by decide +kernel
theorem dd_Mapper_fillProperty_144 : decode prog_5_method_6_code 144 = .ok (.goto (-45), 3) := by decide +kernel
theorem dd_Mapper_fillProperty_147 : decode prog_5_method_6_code 147 = .ok (.lload 7, 2) := by decide +kernel
theorem dd_Mapper_fillProperty_149 : decode prog_5_method_6_code 149 = .ok (.ldc2_w 146, 3) := by decide +kernel
theorem dd_Mapper_fillProperty_152 : decode prog_5_method_6_code 152 = .ok (.lcmp, 1) := by decide +kernel
theorem dd_Mapper_fillProperty_153 : decode prog_5_method_6_code 153 = .ok (.ifCond .eq 14, 3) := by decide +kernel
theorem dd_Mapper_fillProperty_156 : decode prog_5_method_6_code 156 = .ok (.iload 9, 2) := by decide +kernel
theorem dd_Mapper_fillProperty_158 : decode prog_5_method_6_code 158 = .ok (.ifCond .lt 9, 3) := by decide +kernel
theorem dd_Mapper_fillProperty_161 : decode prog_5_method_6_code 161 = .ok (.iload 9, 2) := by decide +kernel
theorem dd_Mapper_fillProperty_163 : decode prog_5_method_6_code 163 = .ok (.iconst 3, 1) := by decide +kernel
theorem dd_Mapper_fillProperty_164 : decode prog_5_method_6_code 164 = .ok (.if_icmp .lt 7, 3) := by decide +kernel
theorem dd_Mapper_fillProperty_167 : decode prog_5_method_6_code 167 = .ok (.iconst 1, 1) := by decide +kernel
theorem dd_Mapper_fillProperty_168 : decode prog_5_method_6_code 168 = .ok (.goto 4, 3) := by decide +kernel
theorem dd_Mapper_fillProperty_171 : decode prog_5_method_6_code 171 = .ok (.iconst 0, 1) := by decide +kernel
theorem dd_Mapper_fillProperty_172 : decode prog_5_method_6_code 172 = .ok (.istore 10, 2) := by decide +kernel
theorem dd_Mapper_fillProperty_174 : decode prog_5_method_6_code 174 = .ok (.iload 10, 2) := by decide +kernel
theorem dd_Mapper_fillProperty_176 : decode prog_5_method_6_code 176 = .ok (.ifCond .eq 9, 3) := by decide +kernel
theorem dd_Mapper_fillProperty_179 : decode prog_5_method_6_code 179 = .ok (.ldc2_w 146, 3) := by decide +kernel
theorem dd_Mapper_fillProperty_182 : decode prog_5_method_6_code 182 = .ok (.goto 21, 3) := by decide +kernel
theorem dd_Mapper_fillProperty_185 : decode prog_5_method_6_code 185 = .ok (.aload_n 0, 1) := by decide +kernel
theorem dd_Mapper_fillProperty_186 : decode prog_5_method_6_code 186 = .ok (.getfield 35, 3) := by decide +kernel
theorem dd_Mapper_fillProperty_189 : decode prog_5_method_6_code 189 = .ok (.lload 7, 2) := by decide +kernel
theorem dd_Mapper_fillProperty_191 : decode prog_5_method_6_code 191 = .ok (.l2i, 1) := by decide +kernel
theorem dd_Mapper_fillProperty_192 : decode prog_5_method_6_code 192 = .ok (.aload 5, 2) := by decide +kernel
theorem dd_Mapper_fillProperty_194 : decode prog_5_method_6_code 194 = .ok (.getfield 148, 3) := by decide +kernel
theorem dd_Mapper_fillProperty_197 : decode prog_5_method_6_code 197 = .ok (.iload 9, 2) := by decide +kernel
theorem dd_Mapper_fillProperty_199 : decode prog_5_method_6_code 199 = .ok (.iaload, 1) := by decide +kernel
theorem dd_Mapper_fillProperty_200 : decode prog_5_method_6_code 200 = .ok (.invokevirtual 103, 3) := by decide +kernel
theorem dd_Mapper_fillProperty_203 : decode prog_5_method_6_code 203 = .ok (.lstore 11, 2) := by decide +kernel
theorem dd_Mapper_fillProperty_205 : decode prog_5_method_6_code 205 = .ok (.aload 5, 2) := by decide +kernel
theorem dd_Mapper_fillProperty_207 : decode prog_5_method_6_code 207 = .ok (.getfield 151, 3) := by decide +kernel
theorem dd_Mapper_fillProperty_210 : decode prog_5_method_6_code 210 = .ok (.ifCond .eq 52, 3) := by decide +kernel
theorem dd_Mapper_fillProperty_213 : decode prog_5_method_6_code 213 = .ok (.iload 10, 2) := by decide +kernel
theorem dd_Mapper_fillProperty_215 : decode prog_5_method_6_code 215 = .ok (.ifCond .ne 16, 3) := by decide +kernel
theorem dd_Mapper_fillProperty_218 : decode prog_5_method_6_code 218 = .ok (.aload 5, 2) := by decide +kernel
theorem dd_Mapper_fillProperty_220 : decode prog_5_method_6_code 220 = .ok (.getfield 154, 3) := by decide +kernel
theorem dd_Mapper_fillProperty_223 : decode prog_5_method_6_code 223 = .ok (.lload 11, 2) := by decide +kernel
theorem dd_Mapper_fillProperty_225 : decode prog_5_method_6_code 225 = .ok (.invokestatic 157, 3) := by decide +kernel
theorem dd_Mapper_fillProperty_228 : decode prog_5_method_6_code 228 = .ok (.ifCond .eq 34, 3) := by decide +kernel
theorem dd_Mapper_fillProperty_231 : decode prog_5_method_6_code 231 = .ok (.aload_n 0, 1) := by decide +kernel
theorem dd_Mapper_fillProperty_232 : decode prog_5_method_6_code 232 = .ok (.getfield 35, 3) := by decide +kernel
theorem dd_Mapper_fillProperty_235 : decode prog_5_method_6_code 235 = .ok (.iload_n 3, 1) := by decide +kernel
theorem dd_Mapper_fillProperty_236 : decode prog_5_method_6_code 236 = .ok (.iload 4, 2) := by decide +kernel
theorem dd_Mapper_fillProperty_238 : decode prog_5_method_6_code 238 = .ok (.aload_n 0, 1) := by decide +kernel
theorem dd_Mapper_fillProperty_239 : decode prog_5_method_6_code 239 = .ok (.aload 5, 2) := by decide +kernel
theorem dd_Mapper_fillProperty_241 : decode prog_5_method_6_code 241 = .ok (.getfield 162, 3) := by decide +kernel
theorem dd_Mapper_fillProperty_244 : decode prog_5_method_6_code 244 = .ok (.iconst 4, 1) := by decide +kernel
theorem dd_Mapper_fillProperty_245 : decode prog_5_method_6_code 245 = .ok (.iload 6, 2) := by decide +kernel
theorem dd_Mapper_fillProperty_247 : decode prog_5_method_6_code 247 = .ok (.aload 5, 2) := by decide +kernel
theorem dd_Mapper_fillProperty_249 : decode prog_5_method_6_code 249 = .ok (.getfield 165, 3) := by decide +kernel
theorem dd_Mapper_fillProperty_252 : decode prog_5_method_6_code 252 = .ok (.invokevirtual 107, 3) := by decide +kernel
theorem dd_Mapper_fillProperty_255 : decode prog_5_method_6_code 255 = .ok (.invokevirtual 139, 3) := by decide +kernel
theorem dd_Mapper_fillProperty_258 : decode prog_5_method_6_code 258 = .ok (.pop, 1) := by decide +kernel
theorem dd_Mapper_fillProperty_259 : decode prog_5_method_6_code 259 = .ok (.goto 37, 3) := by decide +kernel
theorem dd_Mapper_fillProperty_262 : decode prog_5_method_6_code 262 = .ok (.iload 10, 2) := by decide +kernel
theorem dd_Mapper_fillProperty_264 : decode prog_5_method_6_code 264 = .ok (.ifCond .ne 32, 3) := by decide +kernel
theorem dd_Mapper_fillProperty_267 : decode prog_5_method_6_code 267 = .ok (.aload_n 0, 1) := by decide +kernel
theorem dd_Mapper_fillProperty_268 : decode prog_5_method_6_code 268 = .ok (.getfield 35, 3) := by decide +kernel
theorem dd_Mapper_fillProperty_271 : decode prog_5_method_6_code 271 = .ok (.iload_n 3, 1) := by decide +kernel
theorem dd_Mapper_fillProperty_272 : decode prog_5_method_6_code 272 = .ok (.iload 4, 2) := by decide +kernel
theorem dd_Mapper_fillProperty_274 : decode prog_5_method_6_code 274 = .ok (.aload_n 0, 1) := by decide +kernel
theorem dd_Mapper_fillProperty_275 : decode prog_5_method_6_code 275 = .ok (.aload 5, 2) := by decide +kernel
theorem dd_Mapper_fillProperty_277 : decode prog_5_method_6_code 277 = .ok (.getfield 132, 3) := by decide +kernel
theorem dd_Mapper_fillProperty_280 : decode prog_5_method_6_code 280 = .ok (.aload 5, 2) := by decide +kernel
theorem dd_Mapper_fillProperty_282 : decode prog_5_method_6_code 282 = .ok (.getfield 154, 3) := by decide +kernel
theorem dd_Mapper_fillProperty_285 : decode prog_5_method_6_code 285 = .ok (.iload 6, 2) := by decide +kernel
theorem dd_Mapper_fillProperty_287 : decode prog_5_method_6_code 287 = .ok (.lload 11, 2) := by decide +kernel
theorem dd_Mapper_fillProperty_289 : decode prog_5_method_6_code 289 = .ok (.invokevirtual 107, 3) := by decide +kernel
theorem dd_Mapper_fillProperty_292 : decode prog_5_method_6_code 292 = .ok (.invokevirtual 139, 3) := by decide +kernel
theorem dd_Mapper_fillProperty_295 : decode prog_5_method_6_code 295 = .ok (.pop, 1) := by decide +kernel
theorem dd_Mapper_fillProperty_296 : decode prog_5_method_6_code 296 = .ok (.return_, 1) := by decide +kernel
theorem dd_Mapper_become_0 : decode prog_5_method_7_code 0 = .ok (.iload_n 1, 1) := by decide +kernel
theorem dd_Mapper_become_1 : decode prog_5_method_7_code 1 = .ok (.ifCond .ge 15, 3) := by decide +kernel
theorem dd_Mapper_become_4 : decode prog_5_method_7_code 4 = .ok (.aload_n 0, 1) := by decide +kernel
theorem dd_Mapper_become_5 : decode prog_5_method_7_code 5 = .ok (.getfield 48, 3) := by decide +kernel
theorem dd_Mapper_become_8 : decode prog_5_method_7_code 8 = .ok (.iconst 1, 1) := by decide +kernel
theorem dd_Mapper_become_9 : decode prog_5_method_7_code 9 = .ok (.putfield 52, 3) := by decide +kernel
theorem dd_Mapper_become_12 : decode prog_5_method_7_code 12 = .ok (.ldc2_w 146, 3) := by decide +kernel
theorem dd_Mapper_become_15 : decode prog_5_method_7_code 15 = .ok (.lreturn, 1) := by decide +kernel
theorem dd_Mapper_become_16 : decode prog_5_method_7_code 16 = .ok (.iload_n 1, 1) := by decide +kernel
theorem dd_Mapper_become_17 : decode prog_5_method_7_code 17 = .ok (.bipush 16, 2) := by decide +kernel
theorem dd_Mapper_become_19 : decode prog_5_method_7_code 19 = .ok (.irem, 1) := by decide +kernel
theorem dd_Mapper_become_20 : decode prog_5_method_7_code 20 = .ok (.istore 6, 2) := by decide +kernel
theorem dd_Mapper_become_22 : decode prog_5_method_7_code 22 = .ok (.iload_n 1, 1) := by decide +kernel
theorem dd_Mapper_become_23 : decode prog_5_method_7_code 23 = .ok (.bipush 16, 2) := by decide +kernel
theorem dd_Mapper_become_25 : decode prog_5_method_7_code 25 = .ok (.idiv, 1) := by decide +kernel
theorem dd_Mapper_become_26 : decode prog_5_method_7_code 26 = .ok (.tableswitch 93 1 4 #[30, 64, 73, 85], 30) := by decide +kernel
theorem dd_Mapper_become_56 : decode prog_5_method_7_code 56 = .ok (.iload 6, 2) := by decide +kernel
theorem dd_Mapper_become_58 : decode prog_5_method_7_code 58 = .ok (.bipush 8, 2) := by decide +kernel
theorem dd_Mapper_become_60 : decode prog_5_method_7_code 60 = .ok (.if_icmp .ge 26, 3) := by decide +kernel
theorem dd_Mapper_become_63 : decode prog_5_method_7_code 63 = .ok (.aload_n 0, 1) := by decide +kernel
theorem dd_Mapper_become_64 : decode prog_5_method_7_code 64 = .ok (.getfield 48, 3) := by decide +kernel
theorem dd_Mapper_become_67 : decode prog_5_method_7_code 67 = .ok (.aload_n 0, 1) := by decide +kernel
theorem dd_Mapper_become_68 : decode prog_5_method_7_code 68 = .ok (.getfield 31, 3) := by decide +kernel
theorem dd_Mapper_become_71 : decode prog_5_method_7_code 71 = .ok (.getfield 168, 3) := by decide +kernel
theorem dd_Mapper_become_74 : decode prog_5_method_7_code 74 = .ok (.iload 6, 2) := by decide +kernel
theorem dd_Mapper_become_76 : decode prog_5_method_7_code 76 = .ok (.aaload, 1) := by decide +kernel
theorem dd_Mapper_become_77 : decode prog_5_method_7_code 77 = .ok (.iload_n 2, 1) := by decide +kernel
theorem dd_Mapper_become_78 : decode prog_5_method_7_code 78 = .ok (.lload 4, 2) := by decide +kernel
theorem dd_Mapper_become_80 : decode prog_5_method_7_code 80 = .ok (.invokevirtual 172, 3) := by decide +kernel
theorem dd_Mapper_become_83 : decode prog_5_method_7_code 83 = .ok (.goto 6, 3) := by decide +kernel
theorem dd_Mapper_become_86 : decode prog_5_method_7_code 86 = .ok (.ldc2_w 146, 3) := by decide +kernel
theorem dd_Mapper_become_89 : decode prog_5_method_7_code 89 = .ok (.lreturn, 1) := by decide +kernel
theorem dd_Mapper_become_90 : decode prog_5_method_7_code 90 = .ok (.aload_n 0, 1) := by decide +kernel
theorem dd_Mapper_become_91 : decode prog_5_method_7_code 91 = .ok (.iload 6, 2) := by decide +kernel
theorem dd_Mapper_become_93 : decode prog_5_method_7_code 93 = .ok (.lload 4, 2) := by decide +kernel
theorem dd_Mapper_become_95 : decode prog_5_method_7_code 95 = .ok (.invokevirtual 66, 3) := by decide +kernel
theorem dd_Mapper_become_98 : decode prog_5_method_7_code 98 = .ok (.lreturn, 1) := by decide +kernel
theorem dd_Mapper_become_99 : decode prog_5_method_7_code 99 = .ok (.aload_n 0, 1) := by decide +kernel
theorem dd_Mapper_become_100 : decode prog_5_method_7_code 100 = .ok (.getfield 48, 3) := by decide +kernel
theorem dd_Mapper_become_103 : decode prog_5_method_7_code 103 = .ok (.iload_n 2, 1) := by decide +kernel
theorem dd_Mapper_become_104 : decode prog_5_method_7_code 104 = .ok (.iload_n 3, 1) := by decide +kernel
theorem dd_Mapper_become_105 : decode prog_5_method_7_code 105 = .ok (.lload 4, 2) := by decide +kernel
theorem dd_Mapper_become_107 : decode prog_5_method_7_code 107 = .ok (.invokevirtual 176, 3) := by decide +kernel
theorem dd_Mapper_become_110 : decode prog_5_method_7_code 110 = .ok (.lreturn, 1) := by decide +kernel
theorem dd_Mapper_become_111 : decode prog_5_method_7_code 111 = .ok (.aload_n 0, 1) := by decide +kernel
theorem dd_Mapper_become_112 : decode prog_5_method_7_code 112 = .ok (.iload_n 3, 1) := by decide +kernel
theorem dd_Mapper_become_113 : decode prog_5_method_7_code 113 = .ok (.lload 4, 2) := by decide +kernel
theorem dd_Mapper_become_115 : decode prog_5_method_7_code 115 = .ok (.invokevirtual 180, 3) := by decide +kernel
theorem dd_Mapper_become_118 : decode prog_5_method_7_code 118 = .ok (.lreturn, 1) := by decide +kernel
theorem dd_Mapper_become_119 : decode prog_5_method_7_code 119 = .ok (.lload 4, 2) := by decide +kernel
theorem dd_Mapper_become_121 : decode prog_5_method_7_code 121 = .ok (.lreturn, 1) := by decide +kernel
theorem dd_Mapper_beginList_0 : decode prog_5_method_8_code 0 = .ok (.lload_n 2, 1) := by decide +kernel
theorem dd_Mapper_beginList_1 : decode prog_5_method_8_code 1 = .ok (.ldc2_w 146, 3) := by decide +kernel
theorem dd_Mapper_beginList_4 : decode prog_5_method_8_code 4 = .ok (.lcmp, 1) := by decide +kernel
theorem dd_Mapper_beginList_5 : decode prog_5_method_8_code 5 = .ok (.ifCond .ne 7, 3) := by decide +kernel
theorem dd_Mapper_beginList_8 : decode prog_5_method_8_code 8 = .ok (.ldc2_w 146, 3) := by decide +kernel
theorem dd_Mapper_beginList_11 : decode prog_5_method_8_code 11 = .ok (.lreturn, 1) := by decide +kernel
theorem dd_Mapper_beginList_12 : decode prog_5_method_8_code 12 = .ok (.aload_n 0, 1) := by decide +kernel
theorem dd_Mapper_beginList_13 : decode prog_5_method_8_code 13 = .ok (.getfield 48, 3) := by decide +kernel
theorem dd_Mapper_beginList_16 : decode prog_5_method_8_code 16 = .ok (.iload_n 1, 1) := by decide +kernel
theorem dd_Mapper_beginList_17 : decode prog_5_method_8_code 17 = .ok (.invokevirtual 183, 3) := by decide +kernel
theorem dd_Mapper_beginList_20 : decode prog_5_method_8_code 20 = .ok (.istore 4, 2) := by decide +kernel
theorem dd_Mapper_beginList_22 : decode prog_5_method_8_code 22 = .ok (.iload 4, 2) := by decide +kernel
theorem dd_Mapper_beginList_24 : decode prog_5_method_8_code 24 = .ok (.iconst (-1), 1) := by decide +kernel
theorem dd_Mapper_beginList_25 : decode prog_5_method_8_code 25 = .ok (.if_icmp .eq 12, 3) := by decide +kernel
theorem dd_Mapper_beginList_28 : decode prog_5_method_8_code 28 = .ok (.aload_n 0, 1) := by decide +kernel
theorem dd_Mapper_beginList_29 : decode prog_5_method_8_code 29 = .ok (.iconst (-1), 1) := by decide +kernel
theorem dd_Mapper_beginList_30 : decode prog_5_method_8_code 30 = .ok (.lload_n 2, 1) := by decide +kernel
theorem dd_Mapper_beginList_31 : decode prog_5_method_8_code 31 = .ok (.l2i, 1) := by decide +kernel
theorem dd_Mapper_beginList_32 : decode prog_5_method_8_code 32 = .ok (.iload 4, 2) := by decide +kernel
theorem dd_Mapper_beginList_34 : decode prog_5_method_8_code 34 = .ok (.invokevirtual 186, 3) := by decide +kernel
theorem dd_Mapper_beginList_37 : decode prog_5_method_8_code 37 = .ok (.iload 4, 2) := by decide +kernel
theorem dd_Mapper_beginList_39 : decode prog_5_method_8_code 39 = .ok (.i2l, 1) := by decide +kernel
theorem dd_Mapper_beginList_40 : decode prog_5_method_8_code 40 = .ok (.lreturn, 1) := by decide +kernel
theorem dd_Mapper_byMethod_0 : decode prog_5_method_9_code 0 = .ok (.aload_n 0, 1) := by decide +kernel
theorem dd_Mapper_byMethod_1 : decode prog_5_method_9_code 1 = .ok (.getfield 31, 3) := by decide +kernel
theorem dd_Mapper_byMethod_4 : decode prog_5_method_9_code 4 = .ok (.iload_n 1, 1) := by decide +kernel
theorem dd_Mapper_byMethod_5 : decode prog_5_method_9_code 5 = .ok (.i2l, 1) := by decide +kernel
theorem dd_Mapper_byMethod_6 : decode prog_5_method_9_code 6 = .ok (.invokevirtual 189, 3) := by decide +kernel
theorem dd_Mapper_byMethod_9 : decode prog_5_method_9_code 9 = .ok (.ifCond .ne 7, 3) := by decide +kernel
theorem dd_Mapper_byMethod_12 : decode prog_5_method_9_code 12 = .ok (.ldc2_w 146, 3) := by decide +kernel
theorem dd_Mapper_byMethod_15 : decode prog_5_method_9_code 15 = .ok (.lreturn, 1) := by decide +kernel
theorem dd_Mapper_byMethod_16 : decode prog_5_method_9_code 16 = .ok (.aload_n 0, 1) := by decide +kernel
theorem dd_Mapper_byMethod_17 : decode prog_5_method_9_code 17 = .ok (.getfield 31, 3) := by decide +kernel
theorem dd_Mapper_byMethod_20 : decode prog_5_method_9_code 20 = .ok (.getfield 80, 3) := by decide +kernel
theorem dd_Mapper_byMethod_23 : decode prog_5_method_9_code 23 = .ok (.iload_n 1, 1) := by decide +kernel
theorem dd_Mapper_byMethod_24 : decode prog_5_method_9_code 24 = .ok (.aaload, 1) := by decide +kernel
theorem dd_Mapper_byMethod_25 : decode prog_5_method_9_code 25 = .ok (.astore 4, 2) := by decide +kernel
theorem dd_Mapper_byMethod_27 : decode prog_5_method_9_code 27 = .ok (.aload_n 0, 1) := by decide +kernel
theorem dd_Mapper_byMethod_28 : decode prog_5_method_9_code 28 = .ok (.getfield 27, 3) := by decide +kernel
theorem dd_Mapper_byMethod_31 : decode prog_5_method_9_code 31 = .ok (.aload 4, 2) := by decide +kernel
theorem dd_Mapper_byMethod_33 : decode prog_5_method_9_code 33 = .ok (.getfield 121, 3) := by decide +kernel
theorem dd_Mapper_byMethod_36 : decode prog_5_method_9_code 36 = .ok (.invokevirtual 193, 3) := by decide +kernel
theorem dd_Mapper_byMethod_39 : decode prog_5_method_9_code 39 = .ok (.ifCond .eq 14, 3) := by decide +kernel
theorem dd_Mapper_byMethod_42 : decode prog_5_method_9_code 42 = .ok (.aload_n 0, 1) := by decide +kernel
theorem dd_Mapper_byMethod_43 : decode prog_5_method_9_code 43 = .ok (.iload_n 1, 1) := by decide +kernel
theorem dd_Mapper_byMethod_44 : decode prog_5_method_9_code 44 = .ok (.aload 4, 2) := by decide +kernel
theorem dd_Mapper_byMethod_46 : decode prog_5_method_9_code 46 = .ok (.lload_n 2, 1) := by decide +kernel
theorem dd_Mapper_byMethod_47 : decode prog_5_method_9_code 47 = .ok (.invokevirtual 197, 3) := by decide +kernel
theorem dd_Mapper_byMethod_50 : decode prog_5_method_9_code 50 = .ok (.goto 10, 3) := by decide +kernel
theorem dd_Mapper_byMethod_53 : decode prog_5_method_9_code 53 = .ok (.aload_n 0, 1) := by decide +kernel
theorem dd_Mapper_byMethod_54 : decode prog_5_method_9_code 54 = .ok (.aload 4, 2) := by decide +kernel
theorem dd_Mapper_byMethod_56 : decode prog_5_method_9_code 56 = .ok (.lload_n 2, 1) := by decide +kernel
theorem dd_Mapper_byMethod_57 : decode prog_5_method_9_code 57 = .ok (.invokevirtual 201, 3) := by decide +kernel
theorem dd_Mapper_byMethod_60 : decode prog_5_method_9_code 60 = .ok (.lreturn, 1) := by decide +kernel
theorem dd_Mapper_constantOf_0 : decode prog_5_method_10_code 0 = .ok (.lload_n 2, 1) := by decide +kernel
theorem dd_Mapper_constantOf_1 : decode prog_5_method_10_code 1 = .ok (.lconst 0, 1) := by decide +kernel
theorem dd_Mapper_constantOf_2 : decode prog_5_method_10_code 2 = .ok (.lcmp, 1) := by decide +kernel
theorem dd_Mapper_constantOf_3 : decode prog_5_method_10_code 3 = .ok (.ifCond .lt 11, 3) := by decide +kernel
theorem dd_Mapper_constantOf_6 : decode prog_5_method_10_code 6 = .ok (.lload_n 2, 1) := by decide +kernel
theorem dd_Mapper_constantOf_7 : decode prog_5_method_10_code 7 = .ok (.ldc2_w 205, 3) := by decide +kernel
theorem dd_Mapper_constantOf_10 : decode prog_5_method_10_code 10 = .ok (.lcmp, 1) := by decide +kernel
theorem dd_Mapper_constantOf_11 : decode prog_5_method_10_code 11 = .ok (.ifCond .lt 7, 3) := by decide +kernel
theorem dd_Mapper_constantOf_14 : decode prog_5_method_10_code 14 = .ok (.ldc2_w 146, 3) := by decide +kernel
theorem dd_Mapper_constantOf_17 : decode prog_5_method_10_code 17 = .ok (.lreturn, 1) := by decide +kernel
theorem dd_Mapper_constantOf_18 : decode prog_5_method_10_code 18 = .ok (.aload_n 1, 1) := by decide +kernel
theorem dd_Mapper_constantOf_19 : decode prog_5_method_10_code 19 = .ok (.getfield 207, 3) := by decide +kernel
theorem dd_Mapper_constantOf_22 : decode prog_5_method_10_code 22 = .ok (.lload_n 2, 1) := by decide +kernel
theorem dd_Mapper_constantOf_23 : decode prog_5_method_10_code 23 = .ok (.l2i, 1) := by decide +kernel
theorem dd_Mapper_constantOf_24 : decode prog_5_method_10_code 24 = .ok (.iaload, 1) := by decide +kernel
theorem dd_Mapper_constantOf_25 : decode prog_5_method_10_code 25 = .ok (.istore 4, 2) := by decide +kernel
theorem dd_Mapper_constantOf_27 : decode prog_5_method_10_code 27 = .ok (.iload 4, 2) := by decide +kernel
theorem dd_Mapper_constantOf_29 : decode prog_5_method_10_code 29 = .ok (.bipush (-2), 2) := by decide +kernel
theorem dd_Mapper_constantOf_31 : decode prog_5_method_10_code 31 = .ok (.if_icmp .ne 11, 3) := by decide +kernel
theorem dd_Mapper_constantOf_34 : decode prog_5_method_10_code 34 = .ok (.aload_n 0, 1) := by decide +kernel
theorem dd_Mapper_constantOf_35 : decode prog_5_method_10_code 35 = .ok (.getfield 48, 3) := by decide +kernel
theorem dd_Mapper_constantOf_38 : decode prog_5_method_10_code 38 = .ok (.iconst 1, 1) := by decide +kernel
theorem dd_Mapper_constantOf_39 : decode prog_5_method_10_code 39 = .ok (.putfield 52, 3) := by decide +kernel
theorem dd_Mapper_constantOf_42 : decode prog_5_method_10_code 42 = .ok (.iload 4, 2) := by decide +kernel
theorem dd_Mapper_constantOf_44 : decode prog_5_method_10_code 44 = .ok (.i2l, 1) := by decide +kernel
theorem dd_Mapper_constantOf_45 : decode prog_5_method_10_code 45 = .ok (.lreturn, 1) := by decide +kernel
theorem dd_Mapper_beanOf_0 : decode prog_5_method_11_code 0 = .ok (.lload_n 3, 1) := by decide +kernel
theorem dd_Mapper_beanOf_1 : decode prog_5_method_11_code 1 = .ok (.ldc2_w 146, 3) := by decide +kernel
theorem dd_Mapper_beanOf_4 : decode prog_5_method_11_code 4 = .ok (.lcmp, 1) := by decide +kernel
theorem dd_Mapper_beanOf_5 : decode prog_5_method_11_code 5 = .ok (.ifCond .ne 14, 3) := by decide +kernel
theorem dd_Mapper_beanOf_8 : decode prog_5_method_11_code 8 = .ok (.aload_n 2, 1) := by decide +kernel
theorem dd_Mapper_beanOf_9 : decode prog_5_method_11_code 9 = .ok (.getfield 210, 3) := by decide +kernel
theorem dd_Mapper_beanOf_12 : decode prog_5_method_11_code 12 = .ok (.ifCond .ne 7, 3) := by decide +kernel
theorem dd_Mapper_beanOf_15 : decode prog_5_method_11_code 15 = .ok (.ldc2_w 146, 3) := by decide +kernel
theorem dd_Mapper_beanOf_18 : decode prog_5_method_11_code 18 = .ok (.lreturn, 1) := by decide +kernel
theorem dd_Mapper_beanOf_19 : decode prog_5_method_11_code 19 = .ok (.iload_n 1, 1) := by decide +kernel
theorem dd_Mapper_beanOf_20 : decode prog_5_method_11_code 20 = .ok (.sipush 400, 3) := by decide +kernel
theorem dd_Mapper_beanOf_23 : decode prog_5_method_11_code 23 = .ok (.imul, 1) := by decide +kernel
theorem dd_Mapper_beanOf_24 : decode prog_5_method_11_code 24 = .ok (.lload_n 3, 1) := by decide +kernel
theorem dd_Mapper_beanOf_25 : decode prog_5_method_11_code 25 = .ok (.l2i, 1) := by decide +kernel
theorem dd_Mapper_beanOf_26 : decode prog_5_method_11_code 26 = .ok (.iadd, 1) := by decide +kernel
theorem dd_Mapper_beanOf_27 : decode prog_5_method_11_code 27 = .ok (.istore 5, 2) := by decide +kernel
theorem dd_Mapper_beanOf_29 : decode prog_5_method_11_code 29 = .ok (.lload_n 3, 1) := by decide +kernel
theorem dd_Mapper_beanOf_30 : decode prog_5_method_11_code 30 = .ok (.lconst 0, 1) := by decide +kernel
theorem dd_Mapper_beanOf_31 : decode prog_5_method_11_code 31 = .ok (.lcmp, 1) := by decide +kernel
theorem dd_Mapper_beanOf_32 : decode prog_5_method_11_code 32 = .ok (.ifCond .lt 31, 3) := by decide +kernel
theorem dd_Mapper_beanOf_35 : decode prog_5_method_11_code 35 = .ok (.lload_n 3, 1) := by decide +kernel
theorem dd_Mapper_beanOf_36 : decode prog_5_method_11_code 36 = .ok (.ldc2_w 213, 3) := by decide +kernel
theorem dd_Mapper_beanOf_39 : decode prog_5_method_11_code 39 = .ok (.lcmp, 1) := by decide +kernel
theorem dd_Mapper_beanOf_40 : decode prog_5_method_11_code 40 = .ok (.ifCond .ge 23, 3) := by decide +kernel
theorem dd_Mapper_beanOf_43 : decode prog_5_method_11_code 43 = .ok (.aload_n 0, 1) := by decide +kernel
theorem dd_Mapper_beanOf_44 : decode prog_5_method_11_code 44 = .ok (.getfield 9, 3) := by decide +kernel
theorem dd_Mapper_beanOf_47 : decode prog_5_method_11_code 47 = .ok (.iload 5, 2) := by decide +kernel
theorem dd_Mapper_beanOf_49 : decode prog_5_method_11_code 49 = .ok (.iaload, 1) := by decide +kernel
theorem dd_Mapper_beanOf_50 : decode prog_5_method_11_code 50 = .ok (.iconst (-1), 1) := by decide +kernel
theorem dd_Mapper_beanOf_51 : decode prog_5_method_11_code 51 = .ok (.if_icmp .eq 12, 3) := by decide +kernel
theorem dd_Mapper_beanOf_54 : decode prog_5_method_11_code 54 = .ok (.aload_n 0, 1) := by decide +kernel
theorem dd_Mapper_beanOf_55 : decode prog_5_method_11_code 55 = .ok (.getfield 9, 3) := by decide +kernel
theorem dd_Mapper_beanOf_58 : decode prog_5_method_11_code 58 = .ok (.iload 5, 2) := by decide +kernel
theorem dd_Mapper_beanOf_60 : decode prog_5_method_11_code 60 = .ok (.iaload, 1) := by decide +kernel
theorem dd_Mapper_beanOf_61 : decode prog_5_method_11_code 61 = .ok (.i2l, 1) := by decide +kernel
theorem dd_Mapper_beanOf_62 : decode prog_5_method_11_code 62 = .ok (.lreturn, 1) := by decide +kernel
theorem dd_Mapper_beanOf_63 : decode prog_5_method_11_code 63 = .ok (.aload_n 0, 1) := by decide +kernel
theorem dd_Mapper_beanOf_64 : decode prog_5_method_11_code 64 = .ok (.getfield 35, 3) := by decide +kernel
theorem dd_Mapper_beanOf_67 : decode prog_5_method_11_code 67 = .ok (.aload_n 2, 1) := by decide +kernel
theorem dd_Mapper_beanOf_68 : decode prog_5_method_11_code 68 = .ok (.getfield 121, 3) := by decide +kernel
theorem dd_Mapper_beanOf_71 : decode prog_5_method_11_code 71 = .ok (.invokevirtual 215, 3) := by decide +kernel
theorem dd_Mapper_beanOf_74 : decode prog_5_method_11_code 74 = .ok (.istore 6, 2) := by decide +kernel
theorem dd_Mapper_beanOf_76 : decode prog_5_method_11_code 76 = .ok (.iload 6, 2) := by decide +kernel
theorem dd_Mapper_beanOf_78 : decode prog_5_method_11_code 78 = .ok (.iconst (-1), 1) := by decide +kernel
theorem dd_Mapper_beanOf_79 : decode prog_5_method_11_code 79 = .ok (.if_icmp .ne 15, 3) := by decide +kernel
theorem dd_Mapper_beanOf_82 : decode prog_5_method_11_code 82 = .ok (.aload_n 0, 1) := by decide +kernel
theorem dd_Mapper_beanOf_83 : decode prog_5_method_11_code 83 = .ok (.getfield 48, 3) := by decide +kernel
theorem dd_Mapper_beanOf_86 : decode prog_5_method_11_code 86 = .ok (.iconst 1, 1) := by decide +kernel
theorem dd_Mapper_beanOf_87 : decode prog_5_method_11_code 87 = .ok (.putfield 52, 3) := by decide +kernel
theorem dd_Mapper_beanOf_90 : decode prog_5_method_11_code 90 = .ok (.ldc2_w 146, 3) := by decide +kernel
theorem dd_Mapper_beanOf_93 : decode prog_5_method_11_code 93 = .ok (.lreturn, 1) := by decide +kernel
theorem dd_Mapper_beanOf_94 : decode prog_5_method_11_code 94 = .ok (.lload_n 3, 1) := by decide +kernel
theorem dd_Mapper_beanOf_95 : decode prog_5_method_11_code 95 = .ok (.lconst 0, 1) := by decide +kernel
theorem dd_Mapper_beanOf_96 : decode prog_5_method_11_code 96 = .ok (.lcmp, 1) := by decide +kernel
theorem dd_Mapper_beanOf_97 : decode prog_5_method_11_code 97 = .ok (.ifCond .lt 29, 3) := by decide +kernel
theorem dd_Mapper_beanOf_100 : decode prog_5_method_11_code 100 = .ok (.lload_n 3, 1) := by decide +kernel
theorem dd_Mapper_beanOf_101 : decode prog_5_method_11_code 101 = .ok (.ldc2_w 213, 3) := by decide +kernel
theorem dd_Mapper_beanOf_104 : decode prog_5_method_11_code 104 = .ok (.lcmp, 1) := by decide +kernel
theorem dd_Mapper_beanOf_105 : decode prog_5_method_11_code 105 = .ok (.ifCond .ge 21, 3) := by decide +kernel
theorem dd_Mapper_beanOf_108 : decode prog_5_method_11_code 108 = .ok (.aload_n 0, 1) := by decide +kernel
theorem dd_Mapper_beanOf_109 : decode prog_5_method_11_code 109 = .ok (.getfield 9, 3) := by decide +kernel
theorem dd_Mapper_beanOf_112 : decode prog_5_method_11_code 112 = .ok (.iload 5, 2) := by decide +kernel
theorem dd_Mapper_beanOf_114 : decode prog_5_method_11_code 114 = .ok (.iload 6, 2) := by decide +kernel
theorem dd_Mapper_beanOf_116 : decode prog_5_method_11_code 116 = .ok (.iastore, 1) := by decide +kernel
theorem dd_Mapper_beanOf_117 : decode prog_5_method_11_code 117 = .ok (.aload_n 0, 1) := by decide +kernel
theorem dd_Mapper_beanOf_118 : decode prog_5_method_11_code 118 = .ok (.iload_n 1, 1) := by decide +kernel
theorem dd_Mapper_beanOf_119 : decode prog_5_method_11_code 119 = .ok (.lload_n 3, 1) := by decide +kernel
theorem dd_Mapper_beanOf_120 : decode prog_5_method_11_code 120 = .ok (.l2i, 1) := by decide +kernel
theorem dd_Mapper_beanOf_121 : decode prog_5_method_11_code 121 = .ok (.iload 6, 2) := by decide +kernel
theorem dd_Mapper_beanOf_123 : decode prog_5_method_11_code 123 = .ok (.invokevirtual 186, 3) := by decide +kernel
theorem dd_Mapper_beanOf_126 : decode prog_5_method_11_code 126 = .ok (.iload 6, 2) := by decide +kernel
theorem dd_Mapper_beanOf_128 : decode prog_5_method_11_code 128 = .ok (.i2l, 1) := by decide +kernel
theorem dd_Mapper_beanOf_129 : decode prog_5_method_11_code 129 = .ok (.lreturn, 1) := by decide +kernel
theorem dd_Method_init_0 : decode prog_6_method_1_code 0 = .ok (.aload_n 0, 1) := by decide +kernel
theorem dd_Method_init_1 : decode prog_6_method_1_code 1 = .ok (.invokespecial 3, 3) := by decide +kernel
theorem dd_Method_init_4 : decode prog_6_method_1_code 4 = .ok (.aload_n 0, 1) := by decide +kernel
theorem dd_Method_init_5 : decode prog_6_method_1_code 5 = .ok (.bipush 24, 2) := by decide +kernel
theorem dd_Method_init_7 : decode prog_6_method_1_code 7 = .ok (.newarray .int, 2) := by decide +kernel
theorem dd_Method_init_9 : decode prog_6_method_1_code 9 = .ok (.putfield 9, 3) := by decide +kernel
theorem dd_Method_init_12 : decode prog_6_method_1_code 12 = .ok (.aload_n 0, 1) := by decide +kernel
theorem dd_Method_init_13 : decode prog_6_method_1_code 13 = .ok (.bipush 24, 2) := by decide +kernel
theorem dd_Method_init_15 : decode prog_6_method_1_code 15 = .ok (.newarray .int, 2) := by decide +kernel
theorem dd_Method_init_17 : decode prog_6_method_1_code 17 = .ok (.putfield 15, 3) := by decide +kernel
theorem dd_Method_init_20 : decode prog_6_method_1_code 20 = .ok (.aload_n 0, 1) := by decide +kernel
theorem dd_Method_init_21 : decode prog_6_method_1_code 21 = .ok (.bipush 24, 2) := by decide +kernel
theorem dd_Method_init_23 : decode prog_6_method_1_code 23 = .ok (.newarray .long, 2) := by decide +kernel
theorem dd_Method_init_25 : decode prog_6_method_1_code 25 = .ok (.putfield 18, 3) := by decide +kernel
theorem dd_Method_init_28 : decode prog_6_method_1_code 28 = .ok (.aload_n 0, 1) := by decide +kernel
theorem dd_Method_init_29 : decode prog_6_method_1_code 29 = .ok (.bipush 8, 2) := by decide +kernel
theorem dd_Method_init_31 : decode prog_6_method_1_code 31 = .ok (.anewarray 22, 3) := by decide +kernel
theorem dd_Method_init_34 : decode prog_6_method_1_code 34 = .ok (.putfield 24, 3) := by decide +kernel
theorem dd_Method_init_37 : decode prog_6_method_1_code 37 = .ok (.aload_n 0, 1) := by decide +kernel
theorem dd_Method_init_38 : decode prog_6_method_1_code 38 = .ok (.bipush 8, 2) := by decide +kernel
theorem dd_Method_init_40 : decode prog_6_method_1_code 40 = .ok (.newarray .int, 2) := by decide +kernel
theorem dd_Method_init_42 : decode prog_6_method_1_code 42 = .ok (.putfield 28, 3) := by decide +kernel
theorem dd_Method_init_45 : decode prog_6_method_1_code 45 = .ok (.iconst 0, 1) := by decide +kernel
theorem dd_Method_init_46 : decode prog_6_method_1_code 46 = .ok (.istore_n 1, 1) := by decide +kernel
theorem dd_Method_init_47 : decode prog_6_method_1_code 47 = .ok (.iload_n 1, 1) := by decide +kernel
theorem dd_Method_init_48 : decode prog_6_method_1_code 48 = .ok (.bipush 8, 2) := by decide +kernel
theorem dd_Method_init_50 : decode prog_6_method_1_code 50 = .ok (.if_icmp .ge 22, 3) := by decide +kernel
theorem dd_Method_init_53 : decode prog_6_method_1_code 53 = .ok (.aload_n 0, 1) := by decide +kernel
theorem dd_Method_init_54 : decode prog_6_method_1_code 54 = .ok (.getfield 24, 3) := by decide +kernel
theorem dd_Method_init_57 : decode prog_6_method_1_code 57 = .ok (.iload_n 1, 1) := by decide +kernel
theorem dd_Method_init_58 : decode prog_6_method_1_code 58 = .ok (.new 22, 3) := by decide +kernel
theorem dd_Method_init_61 : decode prog_6_method_1_code 61 = .ok (.dup, 1) := by decide +kernel
theorem dd_Method_init_62 : decode prog_6_method_1_code 62 = .ok (.invokespecial 31, 3) := by decide +kernel
theorem dd_Method_init_65 : decode prog_6_method_1_code 65 = .ok (.aastore, 1) := by decide +kernel
theorem dd_Method_init_66 : decode prog_6_method_1_code 66 = .ok (.iinc 1 1, 3) := by decide +kernel
theorem dd_Method_init_69 : decode prog_6_method_1_code 69 = .ok (.goto (-22), 3) := by decide +kernel
theorem dd_Method_init_72 : decode prog_6_method_1_code 72 = .ok (.return_, 1) := by decide +kernel
theorem dd_Method_tell_0 : decode prog_6_method_2_code 0 = .ok (.aload_n 0, 1) := by decide +kernel
theorem dd_Method_tell_1 : decode prog_6_method_2_code 1 = .ok (.getfield 32, 3) := by decide +kernel
theorem dd_Method_tell_4 : decode prog_6_method_2_code 4 = .ok (.bipush 24, 2) := by decide +kernel
theorem dd_Method_tell_6 : decode prog_6_method_2_code 6 = .ok (.if_icmp .lt 4, 3) := by decide +kernel
theorem dd_Method_tell_9 : decode prog_6_method_2_code 9 = .ok (.return_, 1) := by decide +kernel
theorem dd_Method_tell_10 : decode prog_6_method_2_code 10 = .ok (.aload_n 0, 1) := by decide +kernel
theorem dd_Method_tell_11 : decode prog_6_method_2_code 11 = .ok (.getfield 9, 3) := by decide +kernel
theorem dd_Method_tell_14 : decode prog_6_method_2_code 14 = .ok (.aload_n 0, 1) := by decide +kernel
theorem dd_Method_tell_15 : decode prog_6_method_2_code 15 = .ok (.getfield 32, 3) := by decide +kernel
theorem dd_Method_tell_18 : decode prog_6_method_2_code 18 = .ok (.iload_n 1, 1) := by decide +kernel
theorem dd_Method_tell_19 : decode prog_6_method_2_code 19 = .ok (.iastore, 1) := by decide +kernel
theorem dd_Method_tell_20 : decode prog_6_method_2_code 20 = .ok (.aload_n 0, 1) := by decide +kernel
theorem dd_Method_tell_21 : decode prog_6_method_2_code 21 = .ok (.getfield 15, 3) := by decide +kernel
theorem dd_Method_tell_24 : decode prog_6_method_2_code 24 = .ok (.aload_n 0, 1) := by decide +kernel
theorem dd_Method_tell_25 : decode prog_6_method_2_code 25 = .ok (.getfield 32, 3) := by decide +kernel
theorem dd_Method_tell_28 : decode prog_6_method_2_code 28 = .ok (.iload_n 2, 1) := by decide +kernel
theorem dd_Method_tell_29 : decode prog_6_method_2_code 29 = .ok (.iastore, 1) := by decide +kernel
theorem dd_Method_tell_30 : decode prog_6_method_2_code 30 = .ok (.aload_n 0, 1) := by decide +kernel
theorem dd_Method_tell_31 : decode prog_6_method_2_code 31 = .ok (.getfield 18, 3) := by decide +kernel
theorem dd_Method_tell_34 : decode prog_6_method_2_code 34 = .ok (.aload_n 0, 1) := by decide +kernel
theorem dd_Method_tell_35 : decode prog_6_method_2_code 35 = .ok (.getfield 32, 3) := by decide +kernel
theorem dd_Method_tell_38 : decode prog_6_method_2_code 38 = .ok (.lload_n 3, 1) := by decide +kernel
theorem dd_Method_tell_39 : decode prog_6_method_2_code 39 = .ok (.lastore, 1) := by decide +kernel
theorem dd_Method_tell_40 : decode prog_6_method_2_code 40 = .ok (.aload_n 0, 1) := by decide +kernel
theorem dd_Method_tell_41 : decode prog_6_method_2_code 41 = .ok (.dup, 1) := by decide +kernel
theorem dd_Method_tell_42 : decode prog_6_method_2_code 42 = .ok (.getfield 32, 3) := by decide +kernel
theorem dd_Method_tell_45 : decode prog_6_method_2_code 45 = .ok (.iconst 1, 1) := by decide +kernel
theorem dd_Method_tell_46 : decode prog_6_method_2_code 46 = .ok (.iadd, 1) := by decide +kernel
theorem dd_Method_tell_47 : decode prog_6_method_2_code 47 = .ok (.putfield 32, 3) := by decide +kernel
theorem dd_Method_tell_50 : decode prog_6_method_2_code 50 = .ok (.return_, 1) := by decide +kernel
theorem dd_Method_latest_0 : decode prog_6_method_3_code 0 = .ok (.aload_n 0, 1) := by decide +kernel
theorem dd_Method_latest_1 : decode prog_6_method_3_code 1 = .ok (.getfield 32, 3) := by decide +kernel
theorem dd_Method_latest_4 : decode prog_6_method_3_code 4 = .ok (.iconst 1, 1) := by decide +kernel
theorem dd_Method_latest_5 : decode prog_6_method_3_code 5 = .ok (.isub, 1) := by decide +kernel
theorem dd_Method_latest_6 : decode prog_6_method_3_code 6 = .ok (.istore_n 2, 1) := by decide +kernel
theorem dd_Method_latest_7 : decode prog_6_method_3_code 7 = .ok (.iload_n 2, 1) := by decide +kernel
theorem dd_Method_latest_8 : decode prog_6_method_3_code 8 = .ok (.ifCond .lt 21, 3) := by decide +kernel
theorem dd_Method_latest_11 : decode prog_6_method_3_code 11 = .ok (.aload_n 0, 1) := by decide +kernel
theorem dd_Method_latest_12 : decode prog_6_method_3_code 12 = .ok (.getfield 9, 3) := by decide +kernel
theorem dd_Method_latest_15 : decode prog_6_method_3_code 15 = .ok (.iload_n 2, 1) := by decide +kernel
theorem dd_Method_latest_16 : decode prog_6_method_3_code 16 = .ok (.iaload, 1) := by decide +kernel
theorem dd_Method_latest_17 : decode prog_6_method_3_code 17 = .ok (.iload_n 1, 1) := by decide +kernel
theorem dd_Method_latest_18 : decode prog_6_method_3_code 18 = .ok (.if_icmp .ne 5, 3) := by decide +kernel
theorem dd_Method_latest_21 : decode prog_6_method_3_code 21 = .ok (.iload_n 2, 1) := by decide +kernel
theorem dd_Method_latest_22 : decode prog_6_method_3_code 22 = .ok (.ireturn, 1) := by decide +kernel
theorem dd_Method_latest_23 : decode prog_6_method_3_code 23 = .ok (.iinc 2 (-1), 3) := by decide +kernel
theorem dd_Method_latest_26 : decode prog_6_method_3_code 26 = .ok (.goto (-19), 3) := by decide +kernel
theorem dd_Method_latest_29 : decode prog_6_method_3_code 29 = .ok (.iconst (-1), 1) := by decide +kernel
theorem dd_Method_latest_30 : decode prog_6_method_3_code 30 = .ok (.ireturn, 1) := by decide +kernel
theorem dd_Method_first_0 : decode prog_6_method_4_code 0 = .ok (.iconst 0, 1) := by decide +kernel
theorem dd_Method_first_1 : decode prog_6_method_4_code 1 = .ok (.istore_n 3, 1) := by decide +kernel
theorem dd_Method_first_2 : decode prog_6_method_4_code 2 = .ok (.iload_n 3, 1) := by decide +kernel
theorem dd_Method_first_3 : decode prog_6_method_4_code 3 = .ok (.aload_n 0, 1) := by decide +kernel
theorem dd_Method_first_4 : decode prog_6_method_4_code 4 = .ok (.getfield 32, 3) := by decide +kernel
theorem dd_Method_first_7 : decode prog_6_method_4_code 7 = .ok (.if_icmp .ge 31, 3) := by decide +kernel
theorem dd_Method_first_10 : decode prog_6_method_4_code 10 = .ok (.aload_n 0, 1) := by decide +kernel
theorem dd_Method_first_11 : decode prog_6_method_4_code 11 = .ok (.getfield 9, 3) := by decide +kernel
theorem dd_Method_first_14 : decode prog_6_method_4_code 14 = .ok (.iload_n 3, 1) := by decide +kernel
theorem dd_Method_first_15 : decode prog_6_method_4_code 15 = .ok (.iaload, 1) := by decide +kernel
theorem dd_Method_first_16 : decode prog_6_method_4_code 16 = .ok (.iload_n 1, 1) := by decide +kernel
theorem dd_Method_first_17 : decode prog_6_method_4_code 17 = .ok (.if_icmp .ne 15, 3) := by decide +kernel
theorem dd_Method_first_20 : decode prog_6_method_4_code 20 = .ok (.aload_n 0, 1) := by decide +kernel
theorem dd_Method_first_21 : decode prog_6_method_4_code 21 = .ok (.getfield 15, 3) := by decide +kernel
theorem dd_Method_first_24 : decode prog_6_method_4_code 24 = .ok (.iload_n 3, 1) := by decide +kernel
theorem dd_Method_first_25 : decode prog_6_method_4_code 25 = .ok (.iaload, 1) := by decide +kernel
theorem dd_Method_first_26 : decode prog_6_method_4_code 26 = .ok (.iload_n 2, 1) := by decide +kernel
theorem dd_Method_first_27 : decode prog_6_method_4_code 27 = .ok (.if_icmp .ne 5, 3) := by decide +kernel
theorem dd_Method_first_30 : decode prog_6_method_4_code 30 = .ok (.iload_n 3, 1) := by decide +kernel
theorem dd_Method_first_31 : decode prog_6_method_4_code 31 = .ok (.ireturn, 1) := by decide +kernel
theorem dd_Method_first_32 : decode prog_6_method_4_code 32 = .ok (.iinc 3 1, 3) := by decide +kernel
theorem dd_Method_first_35 : decode prog_6_method_4_code 35 = .ok (.goto (-33), 3) := by decide +kernel
theorem dd_Method_first_38 : decode prog_6_method_4_code 38 = .ok (.iconst (-1), 1) := by decide +kernel
theorem dd_Method_first_39 : decode prog_6_method_4_code 39 = .ok (.ireturn, 1) := by decide +kernel
theorem dd_Method_repeats_0 : decode prog_6_method_5_code 0 = .ok (.iconst 0, 1) := by decide +kernel
theorem dd_Method_repeats_1 : decode prog_6_method_5_code 1 = .ok (.istore_n 2, 1) := by decide +kernel
theorem dd_Method_repeats_2 : decode prog_6_method_5_code 2 = .ok (.iload_n 2, 1) := by decide +kernel
theorem dd_Method_repeats_3 : decode prog_6_method_5_code 3 = .ok (.iload_n 1, 1) := by decide +kernel
theorem dd_Method_repeats_4 : decode prog_6_method_5_code 4 = .ok (.if_icmp .ge 71, 3) := by decide +kernel
theorem dd_Method_repeats_7 : decode prog_6_method_5_code 7 = .ok (.aload_n 0, 1) := by decide +kernel
theorem dd_Method_repeats_8 : decode prog_6_method_5_code 8 = .ok (.getfield 9, 3) := by decide +kernel
theorem dd_Method_repeats_11 : decode prog_6_method_5_code 11 = .ok (.iload_n 2, 1) := by decide +kernel
theorem dd_Method_repeats_12 : decode prog_6_method_5_code 12 = .ok (.iaload, 1) := by decide +kernel
theorem dd_Method_repeats_13 : decode prog_6_method_5_code 13 = .ok (.aload_n 0, 1) := by decide +kernel
theorem dd_Method_repeats_14 : decode prog_6_method_5_code 14 = .ok (.getfield 9, 3) := by decide +kernel
theorem dd_Method_repeats_17 : decode prog_6_method_5_code 17 = .ok (.iload_n 1, 1) := by decide +kernel
theorem dd_Method_repeats_18 : decode prog_6_method_5_code 18 = .ok (.iaload, 1) := by decide +kernel
theorem dd_Method_repeats_19 : decode prog_6_method_5_code 19 = .ok (.if_icmp .eq 23, 3) := by decide +kernel
theorem dd_Method_repeats_22 : decode prog_6_method_5_code 22 = .ok (.aload_n 0, 1) := by decide +kernel
theorem dd_Method_repeats_23 : decode prog_6_method_5_code 23 = .ok (.getfield 9, 3) := by decide +kernel
theorem dd_Method_repeats_26 : decode prog_6_method_5_code 26 = .ok (.iload_n 2, 1) := by decide +kernel
theorem dd_Method_repeats_27 : decode prog_6_method_5_code 27 = .ok (.iaload, 1) := by decide +kernel
theorem dd_Method_repeats_28 : decode prog_6_method_5_code 28 = .ok (.iconst 2, 1) := by decide +kernel
theorem dd_Method_repeats_29 : decode prog_6_method_5_code 29 = .ok (.if_icmp .gt 17, 3) := by decide +kernel
theorem dd_Method_repeats_32 : decode prog_6_method_5_code 32 = .ok (.aload_n 0, 1) := by decide +kernel
theorem dd_Method_repeats_33 : decode prog_6_method_5_code 33 = .ok (.getfield 9, 3) := by decide +kernel
theorem dd_Method_repeats_36 : decode prog_6_method_5_code 36 = .ok (.iload_n 1, 1) := by decide +kernel
theorem dd_Method_repeats_37 : decode prog_6_method_5_code 37 = .ok (.iaload, 1) := by decide +kernel
theorem dd_Method_repeats_38 : decode prog_6_method_5_code 38 = .ok (.iconst 2, 1) := by decide +kernel
theorem dd_Method_repeats_39 : decode prog_6_method_5_code 39 = .ok (.if_icmp .gt 7, 3) := by decide +kernel
theorem dd_Method_repeats_42 : decode prog_6_method_5_code 42 = .ok (.iconst 1, 1) := by decide +kernel
theorem dd_Method_repeats_43 : decode prog_6_method_5_code 43 = .ok (.goto 4, 3) := by decide +kernel
theorem dd_Method_repeats_46 : decode prog_6_method_5_code 46 = .ok (.iconst 0, 1) := by decide +kernel
theorem dd_Method_repeats_47 : decode prog_6_method_5_code 47 = .ok (.istore_n 3, 1) := by decide +kernel
theorem dd_Method_repeats_48 : decode prog_6_method_5_code 48 = .ok (.iload_n 3, 1) := by decide +kernel
theorem dd_Method_repeats_49 : decode prog_6_method_5_code 49 = .ok (.ifCond .eq 20, 3) := by decide +kernel
theorem dd_Method_repeats_52 : decode prog_6_method_5_code 52 = .ok (.aload_n 0, 1) := by decide +kernel
theorem dd_Method_repeats_53 : decode prog_6_method_5_code 53 = .ok (.getfield 15, 3) := by decide +kernel
theorem dd_Method_repeats_56 : decode prog_6_method_5_code 56 = .ok (.iload_n 2, 1) := by decide +kernel
theorem dd_Method_repeats_57 : decode prog_6_method_5_code 57 = .ok (.iaload, 1) := by decide +kernel
theorem dd_Method_repeats_58 : decode prog_6_method_5_code 58 = .ok (.aload_n 0, 1) := by decide +kernel
theorem dd_Method_repeats_59 : decode prog_6_method_5_code 59 = .ok (.getfield 15, 3) := by decide +kernel
theorem dd_Method_repeats_62 : decode prog_6_method_5_code 62 = .ok (.iload_n 1, 1) := by decide +kernel
theorem dd_Method_repeats_63 : decode prog_6_method_5_code 63 = .ok (.iaload, 1) := by decide +kernel
theorem dd_Method_repeats_64 : decode prog_6_method_5_code 64 = .ok (.if_icmp .ne 5, 3) := by decide +kernel
theorem dd_Method_repeats_67 : decode prog_6_method_5_code 67 = .ok (.iconst 1, 1) := by decide +kernel
theorem dd_Method_repeats_68 : decode prog_6_method_5_code 68 = .ok (.ireturn, 1) := by decide +kernel
theorem dd_Method_repeats_69 : decode prog_6_method_5_code 69 = .ok (.iinc 2 1, 3) := by decide +kernel
theorem dd_Method_repeats_72 : decode prog_6_method_5_code 72 = .ok (.goto (-70), 3) := by decide +kernel
theorem dd_Method_repeats_75 : decode prog_6_method_5_code 75 = .ok (.iconst 0, 1) := by decide +kernel
theorem dd_Method_repeats_76 : decode prog_6_method_5_code 76 = .ok (.ireturn, 1) := by decide +kernel
theorem dd_Model_init_0 : decode prog_7_method_1_code 0 = .ok (.aload_n 0, 1) := by decide +kernel
theorem dd_Model_init_1 : decode prog_7_method_1_code 1 = .ok (.invokespecial 3, 3) := by decide +kernel
theorem dd_Model_init_4 : decode prog_7_method_1_code 4 = .ok (.aload_n 0, 1) := by decide +kernel
theorem dd_Model_init_5 : decode prog_7_method_1_code 5 = .ok (.bipush 8, 2) := by decide +kernel
theorem dd_Model_init_7 : decode prog_7_method_1_code 7 = .ok (.anewarray 9, 3) := by decide +kernel
theorem dd_Model_init_10 : decode prog_7_method_1_code 10 = .ok (.putfield 11, 3) := by decide +kernel
theorem dd_Model_init_13 : decode prog_7_method_1_code 13 = .ok (.aload_n 0, 1) := by decide +kernel
theorem dd_Model_init_14 : decode prog_7_method_1_code 14 = .ok (.bipush 16, 2) := by decide +kernel
theorem dd_Model_init_16 : decode prog_7_method_1_code 16 = .ok (.anewarray 17, 3) := by decide +kernel
theorem dd_Model_init_19 : decode prog_7_method_1_code 19 = .ok (.putfield 19, 3) := by decide +kernel
theorem dd_Model_init_22 : decode prog_7_method_1_code 22 = .ok (.iconst 0, 1) := by decide +kernel
theorem dd_Model_init_23 : decode prog_7_method_1_code 23 = .ok (.istore_n 1, 1) := by decide +kernel
theorem dd_Model_init_24 : decode prog_7_method_1_code 24 = .ok (.iload_n 1, 1) := by decide +kernel
theorem dd_Model_init_25 : decode prog_7_method_1_code 25 = .ok (.bipush 8, 2) := by decide +kernel
theorem dd_Model_init_27 : decode prog_7_method_1_code 27 = .ok (.if_icmp .ge 22, 3) := by decide +kernel
theorem dd_Model_init_30 : decode prog_7_method_1_code 30 = .ok (.aload_n 0, 1) := by decide +kernel
theorem dd_Model_init_31 : decode prog_7_method_1_code 31 = .ok (.getfield 11, 3) := by decide +kernel
theorem dd_Model_init_34 : decode prog_7_method_1_code 34 = .ok (.iload_n 1, 1) := by decide +kernel
theorem dd_Model_init_35 : decode prog_7_method_1_code 35 = .ok (.new 9, 3) := by decide +kernel
theorem dd_Model_init_38 : decode prog_7_method_1_code 38 = .ok (.dup, 1) := by decide +kernel
theorem dd_Model_init_39 : decode prog_7_method_1_code 39 = .ok (.invokespecial 23, 3) := by decide +kernel
theorem dd_Model_init_42 : decode prog_7_method_1_code 42 = .ok (.aastore, 1) := by decide +kernel
theorem dd_Model_init_43 : decode prog_7_method_1_code 43 = .ok (.iinc 1 1, 3) := by decide +kernel
theorem dd_Model_init_46 : decode prog_7_method_1_code 46 = .ok (.goto (-22), 3) := by decide +kernel
theorem dd_Model_init_49 : decode prog_7_method_1_code 49 = .ok (.iconst 0, 1) := by decide +kernel
theorem dd_Model_init_50 : decode prog_7_method_1_code 50 = .ok (.istore_n 1, 1) := by decide +kernel
theorem dd_Model_init_51 : decode prog_7_method_1_code 51 = .ok (.iload_n 1, 1) := by decide +kernel
theorem dd_Model_init_52 : decode prog_7_method_1_code 52 = .ok (.bipush 16, 2) := by decide +kernel
theorem dd_Model_init_54 : decode prog_7_method_1_code 54 = .ok (.if_icmp .ge 22, 3) := by decide +kernel
theorem dd_Model_init_57 : decode prog_7_method_1_code 57 = .ok (.aload_n 0, 1) := by decide +kernel
theorem dd_Model_init_58 : decode prog_7_method_1_code 58 = .ok (.getfield 19, 3) := by decide +kernel
theorem dd_Model_init_61 : decode prog_7_method_1_code 61 = .ok (.iload_n 1, 1) := by decide +kernel
theorem dd_Model_init_62 : decode prog_7_method_1_code 62 = .ok (.new 17, 3) := by decide +kernel
theorem dd_Model_init_65 : decode prog_7_method_1_code 65 = .ok (.dup, 1) := by decide +kernel
theorem dd_Model_init_66 : decode prog_7_method_1_code 66 = .ok (.invokespecial 24, 3) := by decide +kernel
theorem dd_Model_init_69 : decode prog_7_method_1_code 69 = .ok (.aastore, 1) := by decide +kernel
theorem dd_Model_init_70 : decode prog_7_method_1_code 70 = .ok (.iinc 1 1, 3) := by decide +kernel
theorem dd_Model_init_73 : decode prog_7_method_1_code 73 = .ok (.goto (-22), 3) := by decide +kernel
theorem dd_Model_init_76 : decode prog_7_method_1_code 76 = .ok (.return_, 1) := by decide +kernel
theorem dd_Model_hasMethod_0 : decode prog_7_method_2_code 0 = .ok (.lload_n 1, 1) := by decide +kernel
theorem dd_Model_hasMethod_1 : decode prog_7_method_2_code 1 = .ok (.lconst 0, 1) := by decide +kernel
theorem dd_Model_hasMethod_2 : decode prog_7_method_2_code 2 = .ok (.lcmp, 1) := by decide +kernel
theorem dd_Model_hasMethod_3 : decode prog_7_method_2_code 3 = .ok (.ifCond .lt 17, 3) := by decide +kernel
theorem dd_Model_hasMethod_6 : decode prog_7_method_2_code 6 = .ok (.lload_n 1, 1) := by decide +kernel
theorem dd_Model_hasMethod_7 : decode prog_7_method_2_code 7 = .ok (.aload_n 0, 1) := by decide +kernel
theorem dd_Model_hasMethod_8 : decode prog_7_method_2_code 8 = .ok (.getfield 25, 3) := by decide +kernel
theorem dd_Model_hasMethod_11 : decode prog_7_method_2_code 11 = .ok (.i2l, 1) := by decide +kernel
theorem dd_Model_hasMethod_12 : decode prog_7_method_2_code 12 = .ok (.lcmp, 1) := by decide +kernel
theorem dd_Model_hasMethod_13 : decode prog_7_method_2_code 13 = .ok (.ifCond .ge 7, 3) := by decide +kernel
theorem dd_Model_hasMethod_16 : decode prog_7_method_2_code 16 = .ok (.iconst 1, 1) := by decide +kernel
theorem dd_Model_hasMethod_17 : decode prog_7_method_2_code 17 = .ok (.goto 4, 3) := by decide +kernel
theorem dd_Model_hasMethod_20 : decode prog_7_method_2_code 20 = .ok (.iconst 0, 1) := by decide +kernel
theorem dd_Model_hasMethod_21 : decode prog_7_method_2_code 21 = .ok (.ireturn, 1) := by decide +kernel
theorem dd_Model_hasFunction_0 : decode prog_7_method_3_code 0 = .ok (.lload_n 1, 1) := by decide +kernel
theorem dd_Model_hasFunction_1 : decode prog_7_method_3_code 1 = .ok (.lconst 0, 1) := by decide +kernel
theorem dd_Model_hasFunction_2 : decode prog_7_method_3_code 2 = .ok (.lcmp, 1) := by decide +kernel
theorem dd_Model_hasFunction_3 : decode prog_7_method_3_code 3 = .ok (.ifCond .lt 17, 3) := by decide +kernel
theorem dd_Model_hasFunction_6 : decode prog_7_method_3_code 6 = .ok (.lload_n 1, 1) := by decide +kernel
theorem dd_Model_hasFunction_7 : decode prog_7_method_3_code 7 = .ok (.aload_n 0, 1) := by decide +kernel
theorem dd_Model_hasFunction_8 : decode prog_7_method_3_code 8 = .ok (.getfield 29, 3) := by decide +kernel
theorem dd_Model_hasFunction_11 : decode prog_7_method_3_code 11 = .ok (.i2l, 1) := by decide +kernel
theorem dd_Model_hasFunction_12 : decode prog_7_method_3_code 12 = .ok (.lcmp, 1) := by decide +kernel
theorem dd_Model_hasFunction_13 : decode prog_7_method_3_code 13 = .ok (.ifCond .ge 7, 3) := by decide +kernel
theorem dd_Model_hasFunction_16 : decode prog_7_method_3_code 16 = .ok (.iconst 1, 1) := by decide +kernel
theorem dd_Model_hasFunction_17 : decode prog_7_method_3_code 17 = .ok (.goto 4, 3) := by decide +kernel
theorem dd_Model_hasFunction_20 : decode prog_7_method_3_code 20 = .ok (.iconst 0, 1) := by decide +kernel
theorem dd_Model_hasFunction_21 : decode prog_7_method_3_code 21 = .ok (.ireturn, 1) := by decide +kernel
theorem dd_Model_addMethod_0 : decode prog_7_method_4_code 0 = .ok (.aload_n 0, 1) := by decide +kernel
theorem dd_Model_addMethod_1 : decode prog_7_method_4_code 1 = .ok (.getfield 25, 3) := by decide +kernel
theorem dd_Model_addMethod_4 : decode prog_7_method_4_code 4 = .ok (.bipush 16, 2) := by decide +kernel
theorem dd_Model_addMethod_6 : decode prog_7_method_4_code 6 = .ok (.if_icmp .lt 5, 3) := by decide +kernel
theorem dd_Model_addMethod_9 : decode prog_7_method_4_code 9 = .ok (.iconst (-1), 1) := by decide +kernel
theorem dd_Model_addMethod_10 : decode prog_7_method_4_code 10 = .ok (.ireturn, 1) := by decide +kernel
theorem dd_Model_addMethod_11 : decode prog_7_method_4_code 11 = .ok (.aload_n 0, 1) := by decide +kernel
theorem dd_Model_addMethod_12 : decode prog_7_method_4_code 12 = .ok (.getfield 25, 3) := by decide +kernel
theorem dd_Model_addMethod_15 : decode prog_7_method_4_code 15 = .ok (.istore_n 3, 1) := by decide +kernel
theorem dd_Model_addMethod_16 : decode prog_7_method_4_code 16 = .ok (.aload_n 0, 1) := by decide +kernel
theorem dd_Model_addMethod_17 : decode prog_7_method_4_code 17 = .ok (.dup, 1) := by decide +kernel
theorem dd_Model_addMethod_18 : decode prog_7_method_4_code 18 = .ok (.getfield 25, 3) := by decide +kernel
theorem dd_Model_addMethod_21 : decode prog_7_method_4_code 21 = .ok (.iconst 1, 1) := by decide +kernel
theorem dd_Model_addMethod_22 : decode prog_7_method_4_code 22 = .ok (.iadd, 1) := by decide +kernel
theorem dd_Model_addMethod_23 : decode prog_7_method_4_code 23 = .ok (.putfield 25, 3) := by decide +kernel
theorem dd_Model_addMethod_26 : decode prog_7_method_4_code 26 = .ok (.aload_n 0, 1) := by decide +kernel
theorem dd_Model_addMethod_27 : decode prog_7_method_4_code 27 = .ok (.getfield 19, 3) := by decide +kernel
theorem dd_Model_addMethod_30 : decode prog_7_method_4_code 30 = .ok (.iload_n 3, 1) := by decide +kernel
theorem dd_Model_addMethod_31 : decode prog_7_method_4_code 31 = .ok (.aaload, 1) := by decide +kernel
theorem dd_Model_addMethod_32 : decode prog_7_method_4_code 32 = .ok (.iload_n 1, 1) := by decide +kernel
theorem dd_Model_addMethod_33 : decode prog_7_method_4_code 33 = .ok (.putfield 32, 3) := by decide +kernel
theorem dd_Model_addMethod_36 : decode prog_7_method_4_code 36 = .ok (.aload_n 0, 1) := by decide +kernel
theorem dd_Model_addMethod_37 : decode prog_7_method_4_code 37 = .ok (.getfield 19, 3) := by decide +kernel
theorem dd_Model_addMethod_40 : decode prog_7_method_4_code 40 = .ok (.iload_n 3, 1) := by decide +kernel
theorem dd_Model_addMethod_41 : decode prog_7_method_4_code 41 = .ok (.aaload, 1) := by decide +kernel
theorem dd_Model_addMethod_42 : decode prog_7_method_4_code 42 = .ok (.iload_n 2, 1) := by decide +kernel
theorem dd_Model_addMethod_43 : decode prog_7_method_4_code 43 = .ok (.putfield 35, 3) := by decide +kernel
theorem dd_Model_addMethod_46 : decode prog_7_method_4_code 46 = .ok (.iload_n 3, 1) := by decide +kernel
theorem dd_Model_addMethod_47 : decode prog_7_method_4_code 47 = .ok (.ireturn, 1) := by decide +kernel
theorem dd_Model_addFunction_0 : decode prog_7_method_5_code 0 = .ok (.aload_n 0, 1) := by decide +kernel
theorem dd_Model_addFunction_1 : decode prog_7_method_5_code 1 = .ok (.getfield 29, 3) := by decide +kernel
theorem dd_Model_addFunction_4 : decode prog_7_method_5_code 4 = .ok (.bipush 8, 2) := by decide +kernel
theorem dd_Model_addFunction_6 : decode prog_7_method_5_code 6 = .ok (.if_icmp .lt 5, 3) := by decide +kernel
theorem dd_Model_addFunction_9 : decode prog_7_method_5_code 9 = .ok (.iconst (-1), 1) := by decide +kernel
theorem dd_Model_addFunction_10 : decode prog_7_method_5_code 10 = .ok (.ireturn, 1) := by decide +kernel
theorem dd_Model_addFunction_11 : decode prog_7_method_5_code 11 = .ok (.aload_n 0, 1) := by decide +kernel
theorem dd_Model_addFunction_12 : decode prog_7_method_5_code 12 = .ok (.getfield 29, 3) := by decide +kernel
theorem dd_Model_addFunction_15 : decode prog_7_method_5_code 15 = .ok (.istore 5, 2) := by decide +kernel
theorem dd_Model_addFunction_17 : decode prog_7_method_5_code 17 = .ok (.aload_n 0, 1) := by decide +kernel
theorem dd_Model_addFunction_18 : decode prog_7_method_5_code 18 = .ok (.dup, 1) := by decide +kernel
theorem dd_Model_addFunction_19 : decode prog_7_method_5_code 19 = .ok (.getfield 29, 3) := by decide +kernel
theorem dd_Model_addFunction_22 : decode prog_7_method_5_code 22 = .ok (.iconst 1, 1) := by decide +kernel
theorem dd_Model_addFunction_23 : decode prog_7_method_5_code 23 = .ok (.iadd, 1) := by decide +kernel
theorem dd_Model_addFunction_24 : decode prog_7_method_5_code 24 = .ok (.putfield 29, 3) := by decide +kernel
theorem dd_Model_addFunction_27 : decode prog_7_method_5_code 27 = .ok (.aload_n 0, 1) := by decide +kernel
theorem dd_Model_addFunction_28 : decode prog_7_method_5_code 28 = .ok (.getfield 11, 3) := by decide +kernel
theorem dd_Model_addFunction_31 : decode prog_7_method_5_code 31 = .ok (.iload 5, 2) := by decide +kernel
theorem dd_Model_addFunction_33 : decode prog_7_method_5_code 33 = .ok (.aaload, 1) := by decide +kernel
theorem dd_Model_addFunction_34 : decode prog_7_method_5_code 34 = .ok (.astore 6, 2) := by decide +kernel
theorem dd_Model_addFunction_36 : decode prog_7_method_5_code 36 = .ok (.aload 6, 2) := by decide +kernel
theorem dd_Model_addFunction_38 : decode prog_7_method_5_code 38 = .ok (.iload_n 1, 1) := by decide +kernel
theorem dd_Model_addFunction_39 : decode prog_7_method_5_code 39 = .ok (.putfield 38, 3) := by decide +kernel
theorem dd_Model_addFunction_42 : decode prog_7_method_5_code 42 = .ok (.aload 6, 2) := by decide +kernel
theorem dd_Model_addFunction_44 : decode prog_7_method_5_code 44 = .ok (.iload_n 2, 1) := by decide +kernel
theorem dd_Model_addFunction_45 : decode prog_7_method_5_code 45 = .ok (.putfield 39, 3) := by decide +kernel
theorem dd_Model_addFunction_48 : decode prog_7_method_5_code 48 = .ok (.aload 6, 2) := by decide +kernel
theorem dd_Model_addFunction_50 : decode prog_7_method_5_code 50 = .ok (.iload_n 3, 1) := by decide +kernel
theorem dd_Model_addFunction_51 : decode prog_7_method_5_code 51 = .ok (.putfield 40, 3) := by decide +kernel
theorem dd_Model_addFunction_54 : decode prog_7_method_5_code 54 = .ok (.aload 6, 2) := by decide +kernel
theorem dd_Model_addFunction_56 : decode prog_7_method_5_code 56 = .ok (.iload 4, 2) := by decide +kernel
theorem dd_Model_addFunction_58 : decode prog_7_method_5_code 58 = .ok (.putfield 43, 3) := by decide +kernel
theorem dd_Model_addFunction_61 : decode prog_7_method_5_code 61 = .ok (.iload 5, 2) := by decide +kernel
theorem dd_Model_addFunction_63 : decode prog_7_method_5_code 63 = .ok (.ireturn, 1) := by decide +kernel
theorem dd_Model_nameFunctions_0 : decode prog_7_method_6_code 0 = .ok (.iconst 0, 1) := by decide +kernel
theorem dd_Model_nameFunctions_1 : decode prog_7_method_6_code 1 = .ok (.istore_n 1, 1) := by decide +kernel
theorem dd_Model_nameFunctions_2 : decode prog_7_method_6_code 2 = .ok (.iload_n 1, 1) := by decide +kernel
theorem dd_Model_nameFunctions_3 : decode prog_7_method_6_code 3 = .ok (.aload_n 0, 1) := by decide +kernel
theorem dd_Model_nameFunctions_4 : decode prog_7_method_6_code 4 = .ok (.getfield 29, 3) := by decide +kernel
theorem dd_Model_nameFunctions_7 : decode prog_7_method_6_code 7 = .ok (.if_icmp .ge 19, 3) := by decide +kernel
theorem dd_Model_nameFunctions_10 : decode prog_7_method_6_code 10 = .ok (.aload_n 0, 1) := by decide +kernel
theorem dd_Model_nameFunctions_11 : decode prog_7_method_6_code 11 = .ok (.getfield 11, 3) := by decide +kernel
theorem dd_Model_nameFunctions_14 : decode prog_7_method_6_code 14 = .ok (.iload_n 1, 1) := by decide +kernel
theorem dd_Model_nameFunctions_15 : decode prog_7_method_6_code 15 = .ok (.aaload, 1) := by decide +kernel
theorem dd_Model_nameFunctions_16 : decode prog_7_method_6_code 16 = .ok (.iconst 0, 1) := by decide +kernel
theorem dd_Model_nameFunctions_17 : decode prog_7_method_6_code 17 = .ok (.putfield 46, 3) := by decide +kernel
theorem dd_Model_nameFunctions_20 : decode prog_7_method_6_code 20 = .ok (.iinc 1 1, 3) := by decide +kernel
theorem dd_Model_nameFunctions_23 : decode prog_7_method_6_code 23 = .ok (.goto (-21), 3) := by decide +kernel
theorem dd_Model_nameFunctions_26 : decode prog_7_method_6_code 26 = .ok (.iconst 0, 1) := by decide +kernel
theorem dd_Model_nameFunctions_27 : decode prog_7_method_6_code 27 = .ok (.istore_n 1, 1) := by decide +kernel
theorem dd_Model_nameFunctions_28 : decode prog_7_method_6_code 28 = .ok (.iload_n 1, 1) := by decide +kernel
theorem dd_Model_nameFunctions_29 : decode prog_7_method_6_code 29 = .ok (.aload_n 0, 1) := by decide +kernel
theorem dd_Model_nameFunctions_30 : decode prog_7_method_6_code 30 = .ok (.getfield 25, 3) := by decide +kernel
theorem dd_Model_nameFunctions_33 : decode prog_7_method_6_code 33 = .ok (.if_icmp .ge 71, 3) := by decide +kernel
theorem dd_Model_nameFunctions_36 : decode prog_7_method_6_code 36 = .ok (.aload_n 0, 1) := by decide +kernel
theorem dd_Model_nameFunctions_37 : decode prog_7_method_6_code 37 = .ok (.getfield 19, 3) := by decide +kernel
theorem dd_Model_nameFunctions_40 : decode prog_7_method_6_code 40 = .ok (.iload_n 1, 1) := by decide +kernel
theorem dd_Model_nameFunctions_41 : decode prog_7_method_6_code 41 = .ok (.aaload, 1) := by decide +kernel
theorem dd_Model_nameFunctions_42 : decode prog_7_method_6_code 42 = .ok (.astore_n 2, 1) := by decide +kernel
theorem dd_Model_nameFunctions_43 : decode prog_7_method_6_code 43 = .ok (.iconst 0, 1) := by decide +kernel
theorem dd_Model_nameFunctions_44 : decode prog_7_method_6_code 44 = .ok (.istore_n 3, 1) := by decide +kernel
theorem dd_Model_nameFunctions_45 : decode prog_7_method_6_code 45 = .ok (.iload_n 3, 1) := by decide +kernel
theorem dd_Model_nameFunctions_46 : decode prog_7_method_6_code 46 = .ok (.aload_n 2, 1) := by decide +kernel
theorem dd_Model_nameFunctions_47 : decode prog_7_method_6_code 47 = .ok (.getfield 50, 3) := by decide +kernel
theorem dd_Model_nameFunctions_50 : decode prog_7_method_6_code 50 = .ok (.if_icmp .ge 48, 3) := by decide +kernel
theorem dd_Model_nameFunctions_53 : decode prog_7_method_6_code 53 = .ok (.aload_n 2, 1) := by decide +kernel
theorem dd_Model_nameFunctions_54 : decode prog_7_method_6_code 54 = .ok (.getfield 53, 3) := by decide +kernel
theorem dd_Model_nameFunctions_57 : decode prog_7_method_6_code 57 = .ok (.iload_n 3, 1) := by decide +kernel
theorem dd_Model_nameFunctions_58 : decode prog_7_method_6_code 58 = .ok (.iaload, 1) := by decide +kernel
theorem dd_Model_nameFunctions_59 : decode prog_7_method_6_code 59 = .ok (.iconst 4, 1) := by decide +kernel
theorem dd_Model_nameFunctions_60 : decode prog_7_method_6_code 60 = .ok (.if_icmp .ne 32, 3) := by decide +kernel
theorem dd_Model_nameFunctions_63 : decode prog_7_method_6_code 63 = .ok (.aload_n 0, 1) := by decide +kernel
theorem dd_Model_nameFunctions_64 : decode prog_7_method_6_code 64 = .ok (.aload_n 2, 1) := by decide +kernel
theorem dd_Model_nameFunctions_65 : decode prog_7_method_6_code 65 = .ok (.getfield 57, 3) := by decide +kernel
theorem dd_Model_nameFunctions_68 : decode prog_7_method_6_code 68 = .ok (.iload_n 3, 1) := by decide +kernel
theorem dd_Model_nameFunctions_69 : decode prog_7_method_6_code 69 = .ok (.laload, 1) := by decide +kernel
theorem dd_Model_nameFunctions_70 : decode prog_7_method_6_code 70 = .ok (.invokevirtual 61, 3) := by decide +kernel
theorem dd_Model_nameFunctions_73 : decode prog_7_method_6_code 73 = .ok (.ifCond .eq 19, 3) := by decide +kernel
theorem dd_Model_nameFunctions_76 : decode prog_7_method_6_code 76 = .ok (.aload_n 0, 1) := by decide +kernel
theorem dd_Model_nameFunctions_77 : decode prog_7_method_6_code 77 = .ok (.getfield 11, 3) := by decide +kernel
theorem dd_Model_nameFunctions_80 : decode prog_7_method_6_code 80 = .ok (.aload_n 2, 1) := by decide +kernel
theorem dd_Model_nameFunctions_81 : decode prog_7_method_6_code 81 = .ok (.getfield 57, 3) := by decide +kernel
theorem dd_Model_nameFunctions_84 : decode prog_7_method_6_code 84 = .ok (.iload_n 3, 1) := by decide +kernel
theorem dd_Model_nameFunctions_85 : decode prog_7_method_6_code 85 = .ok (.laload, 1) := by decide +kernel
theorem dd_Model_nameFunctions_86 : decode prog_7_method_6_code 86 = .ok (.l2i, 1) := by decide +kernel
theorem dd_Model_nameFunctions_87 : decode prog_7_method_6_code 87 = .ok (.aaload, 1) := by decide +kernel
theorem dd_Model_nameFunctions_88 : decode prog_7_method_6_code 88 = .ok (.iconst 1, 1) := by decide +kernel
theorem dd_Model_nameFunctions_89 : decode prog_7_method_6_code 89 = .ok (.putfield 46, 3) := by decide +kernel
theorem dd_Model_nameFunctions_92 : decode prog_7_method_6_code 92 = .ok (.iinc 3 1, 3) := by decide +kernel
theorem dd_Model_nameFunctions_95 : decode prog_7_method_6_code 95 = .ok (.goto (-50), 3) := by decide +kernel
theorem dd_Model_nameFunctions_98 : decode prog_7_method_6_code 98 = .ok (.iinc 1 1, 3) := by decide +kernel
theorem dd_Model_nameFunctions_101 : decode prog_7_method_6_code 101 = .ok (.goto (-73), 3) := by decide +kernel
theorem dd_Model_nameFunctions_104 : decode prog_7_method_6_code 104 = .ok (.return_, 1) := by decide +kernel
theorem dd_Plan_init_0 : decode prog_8_method_1_code 0 = .ok (.aload_n 0, 1) := by decide +kernel
theorem dd_Plan_init_1 : decode prog_8_method_1_code 1 = .ok (.invokespecial 3, 3) := by decide +kernel
theorem dd_Plan_init_4 : decode prog_8_method_1_code 4 = .ok (.aload_n 0, 1) := by decide +kernel
theorem dd_Plan_init_5 : decode prog_8_method_1_code 5 = .ok (.iconst 3, 1) := by decide +kernel
theorem dd_Plan_init_6 : decode prog_8_method_1_code 6 = .ok (.newarray .int, 2) := by decide +kernel
theorem dd_Plan_init_8 : decode prog_8_method_1_code 8 = .ok (.putfield 9, 3) := by decide +kernel
theorem dd_Plan_init_11 : decode prog_8_method_1_code 11 = .ok (.return_, 1) := by decide +kernel
theorem dd_Plan_trace_0 : decode prog_8_method_2_code 0 = .ok (.iload_n 2, 1) := by decide +kernel
theorem dd_Plan_trace_1 : decode prog_8_method_2_code 1 = .ok (.istore 5, 2) := by decide +kernel
theorem dd_Plan_trace_3 : decode prog_8_method_2_code 3 = .ok (.aload_n 0, 1) := by decide +kernel
theorem dd_Plan_trace_4 : decode prog_8_method_2_code 4 = .ok (.iconst 0, 1) := by decide +kernel
theorem dd_Plan_trace_5 : decode prog_8_method_2_code 5 = .ok (.putfield 15, 3) := by decide +kernel
theorem dd_Plan_trace_8 : decode prog_8_method_2_code 8 = .ok (.iconst 0, 1) := by decide +kernel
theorem dd_Plan_trace_9 : decode prog_8_method_2_code 9 = .ok (.istore 6, 2) := by decide +kernel
theorem dd_Plan_trace_11 : decode prog_8_method_2_code 11 = .ok (.iload 6, 2) := by decide +kernel
theorem dd_Plan_trace_13 : decode prog_8_method_2_code 13 = .ok (.iconst 3, 1) := by decide +kernel
theorem dd_Plan_trace_14 : decode prog_8_method_2_code 14 = .ok (.if_icmp .ge 88, 3) := by decide +kernel
theorem dd_Plan_trace_17 : decode prog_8_method_2_code 17 = .ok (.lload_n 3, 1) := by decide +kernel
theorem dd_Plan_trace_18 : decode prog_8_method_2_code 18 = .ok (.iload 6, 2) := by decide +kernel
theorem dd_Plan_trace_20 : decode prog_8_method_2_code 20 = .ok (.invokestatic 19, 3) := by decide +kernel
theorem dd_Plan_trace_23 : decode prog_8_method_2_code 23 = .ok (.iconst 1, 1) := by decide +kernel
theorem dd_Plan_trace_24 : decode prog_8_method_2_code 24 = .ok (.isub, 1) := by decide +kernel
theorem dd_Plan_trace_25 : decode prog_8_method_2_code 25 = .ok (.istore 7, 2) := by decide +kernel
theorem dd_Plan_trace_27 : decode prog_8_method_2_code 27 = .ok (.iload 7, 2) := by decide +kernel
theorem dd_Plan_trace_29 : decode prog_8_method_2_code 29 = .ok (.ifCond .ge 6, 3) := by decide +kernel
theorem dd_Plan_trace_32 : decode prog_8_method_2_code 32 = .ok (.goto 70, 3) := by decide +kernel
theorem dd_Plan_trace_35 : decode prog_8_method_2_code 35 = .ok (.aload_n 1, 1) := by decide +kernel
theorem dd_Plan_trace_36 : decode prog_8_method_2_code 36 = .ok (.iload 5, 2) := by decide +kernel
theorem dd_Plan_trace_38 : decode prog_8_method_2_code 38 = .ok (.invokevirtual 25, 3) := by decide +kernel
theorem dd_Plan_trace_41 : decode prog_8_method_2_code 41 = .ok (.ifCond .eq 15, 3) := by decide +kernel
theorem dd_Plan_trace_44 : decode prog_8_method_2_code 44 = .ok (.aload_n 1, 1) := by decide +kernel
theorem dd_Plan_trace_45 : decode prog_8_method_2_code 45 = .ok (.iload 5, 2) := by decide +kernel
theorem dd_Plan_trace_47 : decode prog_8_method_2_code 47 = .ok (.iload 7, 2) := by decide +kernel
theorem dd_Plan_trace_49 : decode prog_8_method_2_code 49 = .ok (.i2l, 1) := by decide +kernel
theorem dd_Plan_trace_50 : decode prog_8_method_2_code 50 = .ok (.invokevirtual 29, 3) := by decide +kernel
theorem dd_Plan_trace_53 : decode prog_8_method_2_code 53 = .ok (.goto 4, 3) := by decide +kernel
theorem dd_Plan_trace_56 : decode prog_8_method_2_code 56 = .ok (.iconst (-1), 1) := by decide +kernel
theorem dd_Plan_trace_57 : decode prog_8_method_2_code 57 = .ok (.istore 8, 2) := by decide +kernel
theorem dd_Plan_trace_59 : decode prog_8_method_2_code 59 = .ok (.iload 8, 2) := by decide +kernel
theorem dd_Plan_trace_61 : decode prog_8_method_2_code 61 = .ok (.iconst (-1), 1) := by decide +kernel
theorem dd_Plan_trace_62 : decode prog_8_method_2_code 62 = .ok (.if_icmp .ne 5, 3) := by decide +kernel
theorem dd_Plan_trace_65 : decode prog_8_method_2_code 65 = .ok (.iconst 0, 1) := by decide +kernel
theorem dd_Plan_trace_66 : decode prog_8_method_2_code 66 = .ok (.ireturn, 1) := by decide +kernel
theorem dd_Plan_trace_67 : decode prog_8_method_2_code 67 = .ok (.aload_n 0, 1) := by decide +kernel
theorem dd_Plan_trace_68 : decode prog_8_method_2_code 68 = .ok (.getfield 9, 3) := by decide +kernel
theorem dd_Plan_trace_71 : decode prog_8_method_2_code 71 = .ok (.iload 6, 2) := by decide +kernel
theorem dd_Plan_trace_73 : decode prog_8_method_2_code 73 = .ok (.iload 8, 2) := by decide +kernel
theorem dd_Plan_trace_75 : decode prog_8_method_2_code 75 = .ok (.iastore, 1) := by decide +kernel
theorem dd_Plan_trace_76 : decode prog_8_method_2_code 76 = .ok (.aload_n 0, 1) := by decide +kernel
theorem dd_Plan_trace_77 : decode prog_8_method_2_code 77 = .ok (.dup, 1) := by decide +kernel
theorem dd_Plan_trace_78 : decode prog_8_method_2_code 78 = .ok (.getfield 15, 3) := by decide +kernel
theorem dd_Plan_trace_81 : decode prog_8_method_2_code 81 = .ok (.iconst 1, 1) := by decide +kernel
theorem dd_Plan_trace_82 : decode prog_8_method_2_code 82 = .ok (.iadd, 1) := by decide +kernel
theorem dd_Plan_trace_83 : decode prog_8_method_2_code 83 = .ok (.putfield 15, 3) := by decide +kernel
theorem dd_Plan_trace_86 : decode prog_8_method_2_code 86 = .ok (.aload_n 1, 1) := by decide +kernel
theorem dd_Plan_trace_87 : decode prog_8_method_2_code 87 = .ok (.iload 5, 2) := by decide +kernel
theorem dd_Plan_trace_89 : decode prog_8_method_2_code 89 = .ok (.iload 8, 2) := by decide +kernel
theorem dd_Plan_trace_91 : decode prog_8_method_2_code 91 = .ok (.invokevirtual 33, 3) := by decide +kernel
theorem dd_Plan_trace_94 : decode prog_8_method_2_code 94 = .ok (.istore 5, 2) := by decide +kernel
theorem dd_Plan_trace_96 : decode prog_8_method_2_code 96 = .ok (.iinc 6 1, 3) := by decide +kernel
theorem dd_Plan_trace_99 : decode prog_8_method_2_code 99 = .ok (.goto (-88), 3) := by decide +kernel
theorem dd_Plan_trace_102 : decode prog_8_method_2_code 102 = .ok (.aload_n 0, 1) := by decide +kernel
theorem dd_Plan_trace_103 : decode prog_8_method_2_code 103 = .ok (.iload 5, 2) := by decide +kernel
theorem dd_Plan_trace_105 : decode prog_8_method_2_code 105 = .ok (.putfield 37, 3) := by decide +kernel
theorem dd_Plan_trace_108 : decode prog_8_method_2_code 108 = .ok (.aload_n 0, 1) := by decide +kernel
theorem dd_Plan_trace_109 : decode prog_8_method_2_code 109 = .ok (.getfield 15, 3) := by decide +kernel
theorem dd_Plan_trace_112 : decode prog_8_method_2_code 112 = .ok (.ifCond .le 7, 3) := by decide +kernel
theorem dd_Plan_trace_115 : decode prog_8_method_2_code 115 = .ok (.iconst 1, 1) := by decide +kernel
theorem dd_Plan_trace_116 : decode prog_8_method_2_code 116 = .ok (.goto 4, 3) := by decide +kernel
theorem dd_Plan_trace_119 : decode prog_8_method_2_code 119 = .ok (.iconst 0, 1) := by decide +kernel
theorem dd_Plan_trace_120 : decode prog_8_method_2_code 120 = .ok (.ireturn, 1) := by decide +kernel
theorem dd_Planner_init_0 : decode prog_9_method_1_code 0 = .ok (.aload_n 0, 1) := by decide +kernel
theorem dd_Planner_init_1 : decode prog_9_method_1_code 1 = .ok (.invokespecial 3, 3) := by decide +kernel
theorem dd_Planner_init_4 : decode prog_9_method_1_code 4 = .ok (.aload_n 0, 1) := by decide +kernel
theorem dd_Planner_init_5 : decode prog_9_method_1_code 5 = .ok (.new 9, 3) := by decide +kernel
theorem dd_Planner_init_8 : decode prog_9_method_1_code 8 = .ok (.dup, 1) := by decide +kernel
theorem dd_Planner_init_9 : decode prog_9_method_1_code 9 = .ok (.invokespecial 11, 3) := by decide +kernel
theorem dd_Planner_init_12 : decode prog_9_method_1_code 12 = .ok (.putfield 12, 3) := by decide +kernel
theorem dd_Planner_init_15 : decode prog_9_method_1_code 15 = .ok (.aload_n 0, 1) := by decide +kernel
theorem dd_Planner_init_16 : decode prog_9_method_1_code 16 = .ok (.iconst (-1), 1) := by decide +kernel
theorem dd_Planner_init_17 : decode prog_9_method_1_code 17 = .ok (.putfield 18, 3) := by decide +kernel
theorem dd_Planner_init_20 : decode prog_9_method_1_code 20 = .ok (.aload_n 0, 1) := by decide +kernel
theorem dd_Planner_init_21 : decode prog_9_method_1_code 21 = .ok (.iconst (-1), 1) := by decide +kernel
theorem dd_Planner_init_22 : decode prog_9_method_1_code 22 = .ok (.putfield 22, 3) := by decide +kernel
theorem dd_Planner_init_25 : decode prog_9_method_1_code 25 = .ok (.aload_n 0, 1) := by decide +kernel
theorem dd_Planner_init_26 : decode prog_9_method_1_code 26 = .ok (.aload_n 1, 1) := by decide +kernel
theorem dd_Planner_init_27 : decode prog_9_method_1_code 27 = .ok (.putfield 25, 3) := by decide +kernel
theorem dd_Planner_init_30 : decode prog_9_method_1_code 30 = .ok (.aload_n 0, 1) := by decide +kernel
theorem dd_Planner_init_31 : decode prog_9_method_1_code 31 = .ok (.aload_n 2, 1) := by decide +kernel
theorem dd_Planner_init_32 : decode prog_9_method_1_code 32 = .ok (.putfield 29, 3) := by decide +kernel
theorem dd_Planner_init_35 : decode prog_9_method_1_code 35 = .ok (.aload_n 0, 1) := by decide +kernel
theorem dd_Planner_init_36 : decode prog_9_method_1_code 36 = .ok (.aload_n 3, 1) := by decide +kernel
theorem dd_Planner_init_37 : decode prog_9_method_1_code 37 = .ok (.putfield 33, 3) := by decide +kernel
theorem dd_Planner_init_40 : decode prog_9_method_1_code 40 = .ok (.return_, 1) := by decide +kernel
theorem dd_Planner_planAll_0 : decode prog_9_method_2_code 0 = .ok (.aload_n 0, 1) := by decide +kernel
theorem dd_Planner_planAll_1 : decode prog_9_method_2_code 1 = .ok (.getfield 29, 3) := by decide +kernel
theorem dd_Planner_planAll_4 : decode prog_9_method_2_code 4 = .ok (.invokevirtual 37, 3) := by decide +kernel
theorem dd_Planner_planAll_7 : decode prog_9_method_2_code 7 = .ok (.aload_n 0, 1) := by decide +kernel
theorem dd_Planner_planAll_8 : decode prog_9_method_2_code 8 = .ok (.iconst 0, 1) := by decide +kernel
theorem dd_Planner_planAll_9 : decode prog_9_method_2_code 9 = .ok (.putfield 42, 3) := by decide +kernel
theorem dd_Planner_planAll_12 : decode prog_9_method_2_code 12 = .ok (.aload_n 0, 1) := by decide +kernel
theorem dd_Planner_planAll_13 : decode prog_9_method_2_code 13 = .ok (.iconst (-1), 1) := by decide +kernel
theorem dd_Planner_planAll_14 : decode prog_9_method_2_code 14 = .ok (.putfield 18, 3) := by decide +kernel
theorem dd_Planner_planAll_17 : decode prog_9_method_2_code 17 = .ok (.aload_n 0, 1) := by decide +kernel
theorem dd_Planner_planAll_18 : decode prog_9_method_2_code 18 = .ok (.iconst (-1), 1) := by decide +kernel
theorem dd_Planner_planAll_19 : decode prog_9_method_2_code 19 = .ok (.putfield 22, 3) := by decide +kernel
theorem dd_Planner_planAll_22 : decode prog_9_method_2_code 22 = .ok (.iconst 0, 1) := by decide +kernel
theorem dd_Planner_planAll_23 : decode prog_9_method_2_code 23 = .ok (.istore_n 1, 1) := by decide +kernel
theorem dd_Planner_planAll_24 : decode prog_9_method_2_code 24 = .ok (.iload_n 1, 1) := by decide +kernel
theorem dd_Planner_planAll_25 : decode prog_9_method_2_code 25 = .ok (.aload_n 0, 1) := by decide +kernel
theorem dd_Planner_planAll_26 : decode prog_9_method_2_code 26 = .ok (.getfield 29, 3) := by decide +kernel
theorem dd_Planner_planAll_29 : decode prog_9_method_2_code 29 = .ok (.getfield 45, 3) := by decide +kernel
theorem dd_Planner_planAll_32 : decode prog_9_method_2_code 32 = .ok (.if_icmp .ge 34, 3) := by decide +kernel
theorem dd_Planner_planAll_35 : decode prog_9_method_2_code 35 = .ok (.aload_n 0, 1) := by decide +kernel
theorem dd_Planner_planAll_36 : decode prog_9_method_2_code 36 = .ok (.getfield 42, 3) := by decide +kernel
theorem dd_Planner_planAll_39 : decode prog_9_method_2_code 39 = .ok (.ifCond .ne 27, 3) := by decide +kernel
theorem dd_Planner_planAll_42 : decode prog_9_method_2_code 42 = .ok (.aload_n 0, 1) := by decide +kernel
theorem dd_Planner_planAll_43 : decode prog_9_method_2_code 43 = .ok (.iload_n 1, 1) := by decide +kernel
theorem dd_Planner_planAll_44 : decode prog_9_method_2_code 44 = .ok (.putfield 18, 3) := by decide +kernel
theorem dd_Planner_planAll_47 : decode prog_9_method_2_code 47 = .ok (.aload_n 0, 1) := by decide +kernel
theorem dd_Planner_planAll_48 : decode prog_9_method_2_code 48 = .ok (.aload_n 0, 1) := by decide +kernel
theorem dd_Planner_planAll_49 : decode prog_9_method_2_code 49 = .ok (.getfield 29, 3) := by decide +kernel
theorem dd_Planner_planAll_52 : decode prog_9_method_2_code 52 = .ok (.getfield 48, 3) := by decide +kernel
theorem dd_Planner_planAll_55 : decode prog_9_method_2_code 55 = .ok (.iload_n 1, 1) := by decide +kernel
theorem dd_Planner_planAll_56 : decode prog_9_method_2_code 56 = .ok (.aaload, 1) := by decide +kernel
theorem dd_Planner_planAll_57 : decode prog_9_method_2_code 57 = .ok (.invokevirtual 52, 3) := by decide +kernel
theorem dd_Planner_planAll_60 : decode prog_9_method_2_code 60 = .ok (.iinc 1 1, 3) := by decide +kernel
theorem dd_Planner_planAll_63 : decode prog_9_method_2_code 63 = .ok (.goto (-39), 3) := by decide +kernel
theorem dd_Planner_planAll_66 : decode prog_9_method_2_code 66 = .ok (.aload_n 0, 1) := by decide +kernel
theorem dd_Planner_planAll_67 : decode prog_9_method_2_code 67 = .ok (.getfield 42, 3) := by decide +kernel
theorem dd_Planner_planAll_70 : decode prog_9_method_2_code 70 = .ok (.ifCond .ne 8, 3) := by decide +kernel
theorem dd_Planner_planAll_73 : decode prog_9_method_2_code 73 = .ok (.aload_n 0, 1) := by decide +kernel
theorem dd_Planner_planAll_74 : decode prog_9_method_2_code 74 = .ok (.iconst (-1), 1) := by decide +kernel
theorem dd_Planner_planAll_75 : decode prog_9_method_2_code 75 = .ok (.putfield 18, 3) := by decide +kernel
theorem dd_Planner_planAll_78 : decode prog_9_method_2_code 78 = .ok (.return_, 1) := by decide +kernel
theorem dd_Planner_planMethod_0 : decode prog_9_method_3_code 0 = .ok (.aload_n 0, 1) := by decide +kernel
theorem dd_Planner_planMethod_1 : decode prog_9_method_3_code 1 = .ok (.aload_n 1, 1) := by decide +kernel
theorem dd_Planner_planMethod_2 : decode prog_9_method_3_code 2 = .ok (.invokevirtual 56, 3) := by decide +kernel
theorem dd_Planner_planMethod_5 : decode prog_9_method_3_code 5 = .ok (.ifCond .ne 9, 3) := by decide +kernel
theorem dd_Planner_planMethod_8 : decode prog_9_method_3_code 8 = .ok (.aload_n 0, 1) := by decide +kernel
theorem dd_Planner_planMethod_9 : decode prog_9_method_3_code 9 = .ok (.iconst 1, 1) := by decide +kernel
theorem dd_Planner_planMethod_10 : decode prog_9_method_3_code 10 = .ok (.putfield 42, 3) := by decide +kernel
theorem dd_Planner_planMethod_13 : decode prog_9_method_3_code 13 = .ok (.return_, 1) := by decide +kernel
theorem dd_Planner_planMethod_14 : decode prog_9_method_3_code 14 = .ok (.iconst 0, 1) := by decide +kernel
theorem dd_Planner_planMethod_15 : decode prog_9_method_3_code 15 = .ok (.istore_n 2, 1) := by decide +kernel
theorem dd_Planner_planMethod_16 : decode prog_9_method_3_code 16 = .ok (.iload_n 2, 1) := by decide +kernel
theorem dd_Planner_planMethod_17 : decode prog_9_method_3_code 17 = .ok (.aload_n 1, 1) := by decide +kernel
theorem dd_Planner_planMethod_18 : decode prog_9_method_3_code 18 = .ok (.getfield 60, 3) := by decide +kernel
theorem dd_Planner_planMethod_21 : decode prog_9_method_3_code 21 = .ok (.if_icmp .ge 27, 3) := by decide +kernel
theorem dd_Planner_planMethod_24 : decode prog_9_method_3_code 24 = .ok (.aload_n 0, 1) := by decide +kernel
theorem dd_Planner_planMethod_25 : decode prog_9_method_3_code 25 = .ok (.getfield 42, 3) := by decide +kernel
theorem dd_Planner_planMethod_28 : decode prog_9_method_3_code 28 = .ok (.ifCond .ne 20, 3) := by decide +kernel
theorem dd_Planner_planMethod_31 : decode prog_9_method_3_code 31 = .ok (.aload_n 0, 1) := by decide +kernel
theorem dd_Planner_planMethod_32 : decode prog_9_method_3_code 32 = .ok (.aload_n 0, 1) := by decide +kernel
theorem dd_Planner_planMethod_33 : decode prog_9_method_3_code 33 = .ok (.aload_n 1, 1) := by decide +kernel
theorem dd_Planner_planMethod_34 : decode prog_9_method_3_code 34 = .ok (.iload_n 2, 1) := by decide +kernel
theorem dd_Planner_planMethod_35 : decode prog_9_method_3_code 35 = .ok (.invokevirtual 65, 3) := by decide +kernel
theorem dd_Planner_planMethod_38 : decode prog_9_method_3_code 38 = .ok (.iload_n 2, 1) := by decide +kernel
theorem dd_Planner_planMethod_39 : decode prog_9_method_3_code 39 = .ok (.invokevirtual 69, 3) := by decide +kernel
theorem dd_Planner_planMethod_42 : decode prog_9_method_3_code 42 = .ok (.iinc 2 1, 3) := by decide +kernel
theorem dd_Planner_planMethod_45 : decode prog_9_method_3_code 45 = .ok (.goto (-29), 3) := by decide +kernel
theorem dd_Planner_planMethod_48 : decode prog_9_method_3_code 48 = .ok (.aload_n 1, 1) := by decide +kernel
theorem dd_Planner_planMethod_49 : decode prog_9_method_3_code 49 = .ok (.bipush 8, 2) := by decide +kernel
theorem dd_Planner_planMethod_51 : decode prog_9_method_3_code 51 = .ok (.invokevirtual 73, 3) := by decide +kernel
theorem dd_Planner_planMethod_54 : decode prog_9_method_3_code 54 = .ok (.istore_n 2, 1) := by decide +kernel
theorem dd_Planner_planMethod_55 : decode prog_9_method_3_code 55 = .ok (.aload_n 1, 1) := by decide +kernel
theorem dd_Planner_planMethod_56 : decode prog_9_method_3_code 56 = .ok (.iload_n 2, 1) := by decide +kernel
theorem dd_Planner_planMethod_57 : decode prog_9_method_3_code 57 = .ok (.iconst (-1), 1) := by decide +kernel
theorem dd_Planner_planMethod_58 : decode prog_9_method_3_code 58 = .ok (.if_icmp .eq 18, 3) := by decide +kernel
theorem dd_Planner_planMethod_61 : decode prog_9_method_3_code 61 = .ok (.aload_n 1, 1) := by decide +kernel
theorem dd_Planner_planMethod_62 : decode prog_9_method_3_code 62 = .ok (.getfield 77, 3) := by decide +kernel
theorem dd_Planner_planMethod_65 : decode prog_9_method_3_code 65 = .ok (.iload_n 2, 1) := by decide +kernel
theorem dd_Planner_planMethod_66 : decode prog_9_method_3_code 66 = .ok (.laload, 1) := by decide +kernel
theorem dd_Planner_planMethod_67 : decode prog_9_method_3_code 67 = .ok (.lconst 1, 1) := by decide +kernel
theorem dd_Planner_planMethod_68 : decode prog_9_method_3_code 68 = .ok (.lcmp, 1) := by decide +kernel
theorem dd_Planner_planMethod_69 : decode prog_9_method_3_code 69 = .ok (.ifCond .ne 7, 3) := by decide +kernel
theorem dd_Planner_planMethod_72 : decode prog_9_method_3_code 72 = .ok (.iconst 1, 1) := by decide +kernel
theorem dd_Planner_planMethod_73 : decode prog_9_method_3_code 73 = .ok (.goto 4, 3) := by decide +kernel
theorem dd_Planner_planMethod_76 : decode prog_9_method_3_code 76 = .ok (.iconst 0, 1) := by decide +kernel
theorem dd_Planner_planMethod_77 : decode prog_9_method_3_code 77 = .ok (.putfield 81, 3) := by decide +kernel
theorem dd_Planner_planMethod_80 : decode prog_9_method_3_code 80 = .ok (.aload_n 0, 1) := by decide +kernel
theorem dd_Planner_planMethod_81 : decode prog_9_method_3_code 81 = .ok (.getfield 25, 3) := by decide +kernel
theorem dd_Planner_planMethod_84 : decode prog_9_method_3_code 84 = .ok (.aload_n 1, 1) := by decide +kernel
theorem dd_Planner_planMethod_85 : decode prog_9_method_3_code 85 = .ok (.getfield 85, 3) := by decide +kernel
theorem dd_Planner_planMethod_88 : decode prog_9_method_3_code 88 = .ok (.invokevirtual 88, 3) := by decide +kernel
theorem dd_Planner_planMethod_91 : decode prog_9_method_3_code 91 = .ok (.istore_n 3, 1) := by decide +kernel
theorem dd_Planner_planMethod_92 : decode prog_9_method_3_code 92 = .ok (.aload_n 0, 1) := by decide +kernel
theorem dd_Planner_planMethod_93 : decode prog_9_method_3_code 93 = .ok (.getfield 25, 3) := by decide +kernel
theorem dd_Planner_planMethod_96 : decode prog_9_method_3_code 96 = .ok (.iload_n 3, 1) := by decide +kernel
theorem dd_Planner_planMethod_97 : decode prog_9_method_3_code 97 = .ok (.ifCond .eq 10, 3) := by decide +kernel
theorem dd_Planner_planMethod_100 : decode prog_9_method_3_code 100 = .ok (.aload_n 1, 1) := by decide +kernel
theorem dd_Planner_planMethod_101 : decode prog_9_method_3_code 101 = .ok (.getfield 85, 3) := by decide +kernel
theorem dd_Planner_planMethod_104 : decode prog_9_method_3_code 104 = .ok (.goto 7, 3) := by decide +kernel
theorem dd_Planner_planMethod_107 : decode prog_9_method_3_code 107 = .ok (.aload_n 1, 1) := by decide +kernel
theorem dd_Planner_planMethod_108 : decode prog_9_method_3_code 108 = .ok (.getfield 94, 3) := by decide +kernel
theorem dd_Planner_planMethod_111 : decode prog_9_method_3_code 111 = .ok (.invokevirtual 97, 3) := by decide +kernel
theorem dd_Planner_planMethod_114 : decode prog_9_method_3_code 114 = .ok (.istore 4, 2) := by decide +kernel
theorem dd_Planner_planMethod_116 : decode prog_9_method_3_code 116 = .ok (.iconst 0, 1) := by decide +kernel
theorem dd_Planner_planMethod_117 : decode prog_9_method_3_code 117 = .ok (.istore 5, 2) := by decide +kernel
theorem dd_Planner_planMethod_119 : decode prog_9_method_3_code 119 = .ok (.iload 5, 2) := by decide +kernel
theorem dd_Planner_planMethod_121 : decode prog_9_method_3_code 121 = .ok (.iload 4, 2) := by decide +kernel
theorem dd_Planner_planMethod_123 : decode prog_9_method_3_code 123 = .ok (.if_icmp .ge 67, 3) := by decide +kernel
theorem dd_Planner_planMethod_126 : decode prog_9_method_3_code 126 = .ok (.aload_n 0, 1) := by decide +kernel
theorem dd_Planner_planMethod_127 : decode prog_9_method_3_code 127 = .ok (.getfield 42, 3) := by decide +kernel
theorem dd_Planner_planMethod_130 : decode prog_9_method_3_code 130 = .ok (.ifCond .ne 60, 3) := by decide +kernel
theorem dd_Planner_planMethod_133 : decode prog_9_method_3_code 133 = .ok (.aload_n 0, 1) := by decide +kernel
theorem dd_Planner_planMethod_134 : decode prog_9_method_3_code 134 = .ok (.iload_n 3, 1) := by decide +kernel
theorem dd_Planner_planMethod_135 : decode prog_9_method_3_code 135 = .ok (.ifCond .eq 13, 3) := by decide +kernel
theorem dd_Planner_planMethod_138 : decode prog_9_method_3_code 138 = .ok (.aload_n 0, 1) := by decide +kernel
theorem dd_Planner_planMethod_139 : decode prog_9_method_3_code 139 = .ok (.aload_n 1, 1) := by decide +kernel
theorem dd_Planner_planMethod_140 : decode prog_9_method_3_code 140 = .ok (.iload 5, 2) := by decide +kernel
theorem dd_Planner_planMethod_142 : decode prog_9_method_3_code 142 = .ok (.invokevirtual 100, 3) := by decide +kernel
theorem dd_Planner_planMethod_145 : decode prog_9_method_3_code 145 = .ok (.goto 10, 3) := by decide +kernel
theorem dd_Planner_planMethod_148 : decode prog_9_method_3_code 148 = .ok (.aload_n 0, 1) := by decide +kernel
theorem dd_Planner_planMethod_149 : decode prog_9_method_3_code 149 = .ok (.aload_n 1, 1) := by decide +kernel
theorem dd_Planner_planMethod_150 : decode prog_9_method_3_code 150 = .ok (.iload 5, 2) := by decide +kernel
theorem dd_Planner_planMethod_152 : decode prog_9_method_3_code 152 = .ok (.invokevirtual 103, 3) := by decide +kernel
theorem dd_Planner_planMethod_155 : decode prog_9_method_3_code 155 = .ok (.iload 5, 2) := by decide +kernel
theorem dd_Planner_planMethod_157 : decode prog_9_method_3_code 157 = .ok (.invokevirtual 69, 3) := by decide +kernel
theorem dd_Planner_planMethod_160 : decode prog_9_method_3_code 160 = .ok (.iload_n 3, 1) := by decide +kernel
theorem dd_Planner_planMethod_161 : decode prog_9_method_3_code 161 = .ok (.ifCond .eq 23, 3) := by decide +kernel
theorem dd_Planner_planMethod_164 : decode prog_9_method_3_code 164 = .ok (.aload_n 0, 1) := by decide +kernel
theorem dd_Planner_planMethod_165 : decode prog_9_method_3_code 165 = .ok (.getfield 42, 3) := by decide +kernel
theorem dd_Planner_planMethod_168 : decode prog_9_method_3_code 168 = .ok (.ifCond .ne 16, 3) := by decide +kernel
theorem dd_Planner_planMethod_171 : decode prog_9_method_3_code 171 = .ok (.aload_n 0, 1) := by decide +kernel
theorem dd_Planner_planMethod_172 : decode prog_9_method_3_code 172 = .ok (.aload_n 0, 1) := by decide +kernel
theorem dd_Planner_planMethod_173 : decode prog_9_method_3_code 173 = .ok (.aload_n 1, 1) := by decide +kernel
theorem dd_Planner_planMethod_174 : decode prog_9_method_3_code 174 = .ok (.iload 5, 2) := by decide +kernel
theorem dd_Planner_planMethod_176 : decode prog_9_method_3_code 176 = .ok (.invokevirtual 106, 3) := by decide +kernel
theorem dd_Planner_planMethod_179 : decode prog_9_method_3_code 179 = .ok (.iload 5, 2) := by decide +kernel
theorem dd_Planner_planMethod_181 : decode prog_9_method_3_code 181 = .ok (.invokevirtual 69, 3) := by decide +kernel
theorem dd_Planner_planMethod_184 : decode prog_9_method_3_code 184 = .ok (.iinc 5 1, 3) := by decide +kernel
theorem dd_Planner_planMethod_187 : decode prog_9_method_3_code 187 = .ok (.goto (-68), 3) := by decide +kernel
theorem dd_Planner_planMethod_190 : decode prog_9_method_3_code 190 = .ok (.return_, 1) := by decide +kernel
theorem dd_Planner_note_0 : decode prog_9_method_4_code 0 = .ok (.iload_n 1, 1) := by decide +kernel
theorem dd_Planner_note_1 : decode prog_9_method_4_code 1 = .ok (.ifCond .eq 13, 3) := by decide +kernel
theorem dd_Planner_note_4 : decode prog_9_method_4_code 4 = .ok (.aload_n 0, 1) := by decide +kernel
theorem dd_Planner_note_5 : decode prog_9_method_4_code 5 = .ok (.iload_n 1, 1) := by decide +kernel
theorem dd_Planner_note_6 : decode prog_9_method_4_code 6 = .ok (.putfield 42, 3) := by decide +kernel
theorem dd_Planner_note_9 : decode prog_9_method_4_code 9 = .ok (.aload_n 0, 1) := by decide +kernel
theorem dd_Planner_note_10 : decode prog_9_method_4_code 10 = .ok (.iload_n 2, 1) := by decide +kernel
theorem dd_Planner_note_11 : decode prog_9_method_4_code 11 = .ok (.putfield 22, 3) := by decide +kernel
theorem dd_Planner_note_14 : decode prog_9_method_4_code 14 = .ok (.return_, 1) := by decide +kernel
theorem dd_Planner_planInverse_0 : decode prog_9_method_5_code 0 = .ok (.aload_n 1, 1) := by decide +kernel
theorem dd_Planner_planInverse_1 : decode prog_9_method_5_code 1 = .ok (.iconst (-1), 1) := by decide +kernel
theorem dd_Planner_planInverse_2 : decode prog_9_method_5_code 2 = .ok (.putfield 109, 3) := by decide +kernel
theorem dd_Planner_planInverse_5 : decode prog_9_method_5_code 5 = .ok (.aload_n 1, 1) := by decide +kernel
theorem dd_Planner_planInverse_6 : decode prog_9_method_5_code 6 = .ok (.bipush 7, 2) := by decide +kernel
theorem dd_Planner_planInverse_8 : decode prog_9_method_5_code 8 = .ok (.invokevirtual 73, 3) := by decide +kernel
theorem dd_Planner_planInverse_11 : decode prog_9_method_5_code 11 = .ok (.istore_n 2, 1) := by decide +kernel
theorem dd_Planner_planInverse_12 : decode prog_9_method_5_code 12 = .ok (.iload_n 2, 1) := by decide +kernel
theorem dd_Planner_planInverse_13 : decode prog_9_method_5_code 13 = .ok (.iconst (-1), 1) := by decide +kernel
theorem dd_Planner_planInverse_14 : decode prog_9_method_5_code 14 = .ok (.if_icmp .ne 5, 3) := by decide +kernel
theorem dd_Planner_planInverse_17 : decode prog_9_method_5_code 17 = .ok (.iconst 1, 1) := by decide +kernel
theorem dd_Planner_planInverse_18 : decode prog_9_method_5_code 18 = .ok (.ireturn, 1) := by decide +kernel
theorem dd_Planner_planInverse_19 : decode prog_9_method_5_code 19 = .ok (.aload_n 1, 1) := by decide +kernel
theorem dd_Planner_planInverse_20 : decode prog_9_method_5_code 20 = .ok (.getfield 77, 3) := by decide +kernel
theorem dd_Planner_planInverse_23 : decode prog_9_method_5_code 23 = .ok (.iload_n 2, 1) := by decide +kernel
theorem dd_Planner_planInverse_24 : decode prog_9_method_5_code 24 = .ok (.laload, 1) := by decide +kernel
theorem dd_Planner_planInverse_25 : decode prog_9_method_5_code 25 = .ok (.lstore_n 3, 1) := by decide +kernel
theorem dd_Planner_planInverse_26 : decode prog_9_method_5_code 26 = .ok (.aload_n 0, 1) := by decide +kernel
theorem dd_Planner_planInverse_27 : decode prog_9_method_5_code 27 = .ok (.getfield 29, 3) := by decide +kernel
theorem dd_Planner_planInverse_30 : decode prog_9_method_5_code 30 = .ok (.lload_n 3, 1) := by decide +kernel
theorem dd_Planner_planInverse_31 : decode prog_9_method_5_code 31 = .ok (.invokevirtual 112, 3) := by decide +kernel
theorem dd_Planner_planInverse_34 : decode prog_9_method_5_code 34 = .ok (.ifCond .ne 5, 3) := by decide +kernel
theorem dd_Planner_planInverse_37 : decode prog_9_method_5_code 37 = .ok (.iconst 0, 1) := by decide +kernel
theorem dd_Planner_planInverse_38 : decode prog_9_method_5_code 38 = .ok (.ireturn, 1) := by decide +kernel
theorem dd_Planner_planInverse_39 : decode prog_9_method_5_code 39 = .ok (.aload_n 0, 1) := by decide +kernel
theorem dd_Planner_planInverse_40 : decode prog_9_method_5_code 40 = .ok (.getfield 29, 3) := by decide +kernel
theorem dd_Planner_planInverse_43 : decode prog_9_method_5_code 43 = .ok (.getfield 48, 3) := by decide +kernel
theorem dd_Planner_planInverse_46 : decode prog_9_method_5_code 46 = .ok (.lload_n 3, 1) := by decide +kernel
theorem dd_Planner_planInverse_47 : decode prog_9_method_5_code 47 = .ok (.l2i, 1) := by decide +kernel
theorem dd_Planner_planInverse_48 : decode prog_9_method_5_code 48 = .ok (.aaload, 1) := by decide +kernel
theorem dd_Planner_planInverse_49 : decode prog_9_method_5_code 49 = .ok (.astore 5, 2) := by decide +kernel
theorem dd_Planner_planInverse_51 : decode prog_9_method_5_code 51 = .ok (.aload 5, 2) := by decide +kernel
theorem dd_Planner_planInverse_53 : decode prog_9_method_5_code 53 = .ok (.getfield 94, 3) := by decide +kernel
theorem dd_Planner_planInverse_56 : decode prog_9_method_5_code 56 = .ok (.aload_n 1, 1) := by decide +kernel
theorem dd_Planner_planInverse_57 : decode prog_9_method_5_code 57 = .ok (.getfield 85, 3) := by decide +kernel
theorem dd_Planner_planInverse_60 : decode prog_9_method_5_code 60 = .ok (.if_icmp .ne 26, 3) := by decide +kernel
theorem dd_Planner_planInverse_63 : decode prog_9_method_5_code 63 = .ok (.aload 5, 2) := by decide +kernel
theorem dd_Planner_planInverse_65 : decode prog_9_method_5_code 65 = .ok (.getfield 85, 3) := by decide +kernel
theorem dd_Planner_planInverse_68 : decode prog_9_method_5_code 68 = .ok (.aload_n 1, 1) := by decide +kernel
theorem dd_Planner_planInverse_69 : decode prog_9_method_5_code 69 = .ok (.getfield 94, 3) := by decide +kernel
theorem dd_Planner_planInverse_72 : decode prog_9_method_5_code 72 = .ok (.if_icmp .ne 14, 3) := by decide +kernel
theorem dd_Planner_planInverse_75 : decode prog_9_method_5_code 75 = .ok (.aload 5, 2) := by decide +kernel
theorem dd_Planner_planInverse_77 : decode prog_9_method_5_code 77 = .ok (.bipush 7, 2) := by decide +kernel
theorem dd_Planner_planInverse_79 : decode prog_9_method_5_code 79 = .ok (.invokevirtual 73, 3) := by decide +kernel
theorem dd_Planner_planInverse_82 : decode prog_9_method_5_code 82 = .ok (.iconst (-1), 1) := by decide +kernel
theorem dd_Planner_planInverse_83 : decode prog_9_method_5_code 83 = .ok (.if_icmp .eq 5, 3) := by decide +kernel
theorem dd_Planner_planInverse_86 : decode prog_9_method_5_code 86 = .ok (.iconst 0, 1) := by decide +kernel
theorem dd_Planner_planInverse_87 : decode prog_9_method_5_code 87 = .ok (.ireturn, 1) := by decide +kernel
theorem dd_Planner_planInverse_88 : decode prog_9_method_5_code 88 = .ok (.aload_n 1, 1) := by decide +kernel
theorem dd_Planner_planInverse_89 : decode prog_9_method_5_code 89 = .ok (.lload_n 3, 1) := by decide +kernel
theorem dd_Planner_planInverse_90 : decode prog_9_method_5_code 90 = .ok (.l2i, 1) := by decide +kernel
theorem dd_Planner_planInverse_91 : decode prog_9_method_5_code 91 = .ok (.putfield 109, 3) := by decide +kernel
theorem dd_Planner_planInverse_94 : decode prog_9_method_5_code 94 = .ok (.iconst 1, 1) := by decide +kernel
theorem dd_Planner_planInverse_95 : decode prog_9_method_5_code 95 = .ok (.ireturn, 1) := by decide +kernel
theorem dd_Planner_ruleFault_0 : decode prog_9_method_6_code 0 = .ok (.aload_n 1, 1) := by decide +kernel
theorem dd_Planner_ruleFault_1 : decode prog_9_method_6_code 1 = .ok (.getfield 116, 3) := by decide +kernel
theorem dd_Planner_ruleFault_4 : decode prog_9_method_6_code 4 = .ok (.iload_n 2, 1) := by decide +kernel
theorem dd_Planner_ruleFault_5 : decode prog_9_method_6_code 5 = .ok (.iaload, 1) := by decide +kernel
theorem dd_Planner_ruleFault_6 : decode prog_9_method_6_code 6 = .ok (.istore_n 3, 1) := by decide +kernel
theorem dd_Planner_ruleFault_7 : decode prog_9_method_6_code 7 = .ok (.aload_n 1, 1) := by decide +kernel
theorem dd_Planner_ruleFault_8 : decode prog_9_method_6_code 8 = .ok (.getfield 120, 3) := by decide +kernel
theorem dd_Planner_ruleFault_11 : decode prog_9_method_6_code 11 = .ok (.iload_n 2, 1) := by decide +kernel
theorem dd_Planner_ruleFault_12 : decode prog_9_method_6_code 12 = .ok (.iaload, 1) := by decide +kernel
theorem dd_Planner_ruleFault_13 : decode prog_9_method_6_code 13 = .ok (.istore 4, 2) := by decide +kernel
theorem dd_Planner_ruleFault_15 : decode prog_9_method_6_code 15 = .ok (.aload_n 1, 1) := by decide +kernel
theorem dd_Planner_ruleFault_16 : decode prog_9_method_6_code 16 = .ok (.getfield 77, 3) := by decide +kernel
theorem dd_Planner_ruleFault_19 : decode prog_9_method_6_code 19 = .ok (.iload_n 2, 1) := by decide +kernel
theorem dd_Planner_ruleFault_20 : decode prog_9_method_6_code 20 = .ok (.laload, 1) := by decide +kernel
theorem dd_Planner_ruleFault_21 : decode prog_9_method_6_code 21 = .ok (.lstore 5, 2) := by decide +kernel
theorem dd_Planner_ruleFault_23 : decode prog_9_method_6_code 23 = .ok (.aload_n 0, 1) := by decide +kernel
theorem dd_Planner_ruleFault_24 : decode prog_9_method_6_code 24 = .ok (.getfield 25, 3) := by decide +kernel
theorem dd_Planner_ruleFault_27 : decode prog_9_method_6_code 27 = .ok (.aload_n 1, 1) := by decide +kernel
theorem dd_Planner_ruleFault_28 : decode prog_9_method_6_code 28 = .ok (.getfield 85, 3) := by decide +kernel
theorem dd_Planner_ruleFault_31 : decode prog_9_method_6_code 31 = .ok (.invokevirtual 88, 3) := by decide +kernel
theorem dd_Planner_ruleFault_34 : decode prog_9_method_6_code 34 = .ok (.istore 7, 2) := by decide +kernel
theorem dd_Planner_ruleFault_36 : decode prog_9_method_6_code 36 = .ok (.iload_n 3, 1) := by decide +kernel
theorem dd_Planner_ruleFault_37 : decode prog_9_method_6_code 37 = .ok (.iconst 5, 1) := by decide +kernel
theorem dd_Planner_ruleFault_38 : decode prog_9_method_6_code 38 = .ok (.if_icmp .gt 68, 3) := by decide +kernel
theorem dd_Planner_ruleFault_41 : decode prog_9_method_6_code 41 = .ok (.aload_n 1, 1) := by decide +kernel
theorem dd_Planner_ruleFault_42 : decode prog_9_method_6_code 42 = .ok (.iload_n 2, 1) := by decide +kernel
theorem dd_Planner_ruleFault_43 : decode prog_9_method_6_code 43 = .ok (.invokevirtual 123, 3) := by decide +kernel
theorem dd_Planner_ruleFault_46 : decode prog_9_method_6_code 46 = .ok (.ifCond .eq 5, 3) := by decide +kernel
theorem dd_Planner_ruleFault_49 : decode prog_9_method_6_code 49 = .ok (.iconst 2, 1) := by decide +kernel
theorem dd_Planner_ruleFault_50 : decode prog_9_method_6_code 50 = .ok (.ireturn, 1) := by decide +kernel
theorem dd_Planner_ruleFault_51 : decode prog_9_method_6_code 51 = .ok (.iload_n 3, 1) := by decide +kernel
theorem dd_Planner_ruleFault_52 : decode prog_9_method_6_code 52 = .ok (.iconst 5, 1) := by decide +kernel
theorem dd_Planner_ruleFault_53 : decode prog_9_method_6_code 53 = .ok (.if_icmp .eq 7, 3) := by decide +kernel
theorem dd_Planner_ruleFault_56 : decode prog_9_method_6_code 56 = .ok (.iconst 1, 1) := by decide +kernel
theorem dd_Planner_ruleFault_57 : decode prog_9_method_6_code 57 = .ok (.goto 4, 3) := by decide +kernel
theorem dd_Planner_ruleFault_60 : decode prog_9_method_6_code 60 = .ok (.iconst 0, 1) := by decide +kernel
theorem dd_Planner_ruleFault_61 : decode prog_9_method_6_code 61 = .ok (.istore 8, 2) := by decide +kernel
theorem dd_Planner_ruleFault_63 : decode prog_9_method_6_code 63 = .ok (.iload 8, 2) := by decide +kernel
theorem dd_Planner_ruleFault_65 : decode prog_9_method_6_code 65 = .ok (.ifCond .eq 10, 3) := by decide +kernel
theorem dd_Planner_ruleFault_68 : decode prog_9_method_6_code 68 = .ok (.aload_n 1, 1) := by decide +kernel
theorem dd_Planner_ruleFault_69 : decode prog_9_method_6_code 69 = .ok (.getfield 85, 3) := by decide +kernel
theorem dd_Planner_ruleFault_72 : decode prog_9_method_6_code 72 = .ok (.goto 7, 3) := by decide +kernel
theorem dd_Planner_ruleFault_75 : decode prog_9_method_6_code 75 = .ok (.aload_n 1, 1) := by decide +kernel
theorem dd_Planner_ruleFault_76 : decode prog_9_method_6_code 76 = .ok (.getfield 94, 3) := by decide +kernel
theorem dd_Planner_ruleFault_79 : decode prog_9_method_6_code 79 = .ok (.istore 9, 2) := by decide +kernel
theorem dd_Planner_ruleFault_81 : decode prog_9_method_6_code 81 = .ok (.iload 8, 2) := by decide +kernel
theorem dd_Planner_ruleFault_83 : decode prog_9_method_6_code 83 = .ok (.iload 7, 2) := by decide +kernel
theorem dd_Planner_ruleFault_85 : decode prog_9_method_6_code 85 = .ok (.if_icmp .ne 19, 3) := by decide +kernel
theorem dd_Planner_ruleFault_88 : decode prog_9_method_6_code 88 = .ok (.aload_n 0, 1) := by decide +kernel
theorem dd_Planner_ruleFault_89 : decode prog_9_method_6_code 89 = .ok (.getfield 25, 3) := by decide +kernel
theorem dd_Planner_ruleFault_92 : decode prog_9_method_6_code 92 = .ok (.iload 9, 2) := by decide +kernel
theorem dd_Planner_ruleFault_94 : decode prog_9_method_6_code 94 = .ok (.iload 4, 2) := by decide +kernel
theorem dd_Planner_ruleFault_96 : decode prog_9_method_6_code 96 = .ok (.i2l, 1) := by decide +kernel
theorem dd_Planner_ruleFault_97 : decode prog_9_method_6_code 97 = .ok (.invokevirtual 126, 3) := by decide +kernel
theorem dd_Planner_ruleFault_100 : decode prog_9_method_6_code 100 = .ok (.iconst (-1), 1) := by decide +kernel
theorem dd_Planner_ruleFault_101 : decode prog_9_method_6_code 101 = .ok (.if_icmp .ne 5, 3) := by decide +kernel
theorem dd_Planner_ruleFault_104 : decode prog_9_method_6_code 104 = .ok (.iconst 3, 1) := by decide +kernel
theorem dd_Planner_ruleFault_105 : decode prog_9_method_6_code 105 = .ok (.ireturn, 1) := by decide +kernel
theorem dd_Planner_ruleFault_106 : decode prog_9_method_6_code 106 = .ok (.iconst 1, 1) := by decide +kernel
theorem dd_Planner_ruleFault_107 : decode prog_9_method_6_code 107 = .ok (.istore 8, 2) := by decide +kernel
theorem dd_Planner_ruleFault_109 : decode prog_9_method_6_code 109 = .ok (.iload_n 3, 1) := by decide +kernel
theorem dd_Planner_ruleFault_110 : decode prog_9_method_6_code 110 = .ok (.tableswitch 179 0 8 #[50, 179, 179, 179, 72, 86, 122, 179, 172], 50) := by decide +kernel
theorem dd_Planner_ruleFault_160 : decode prog_9_method_6_code 160 = .ok (.aload_n 0, 1) := by decide +kernel
theorem dd_Planner_ruleFault_161 : decode prog_9_method_6_code 161 = .ok (.getfield 12, 3) := by decide +kernel
theorem dd_Planner_ruleFault_164 : decode prog_9_method_6_code 164 = .ok (.aload_n 0, 1) := by decide +kernel
theorem dd_Planner_ruleFault_165 : decode prog_9_method_6_code 165 = .ok (.getfield 25, 3) := by decide +kernel
theorem dd_Planner_ruleFault_168 : decode prog_9_method_6_code 168 = .ok (.aload_n 1, 1) := by decide +kernel
theorem dd_Planner_ruleFault_169 : decode prog_9_method_6_code 169 = .ok (.getfield 94, 3) := by decide +kernel
theorem dd_Planner_ruleFault_172 : decode prog_9_method_6_code 172 = .ok (.lload 5, 2) := by decide +kernel
theorem dd_Planner_ruleFault_174 : decode prog_9_method_6_code 174 = .ok (.invokevirtual 130, 3) := by decide +kernel
theorem dd_Planner_ruleFault_177 : decode prog_9_method_6_code 177 = .ok (.istore 8, 2) := by decide +kernel
theorem dd_Planner_ruleFault_179 : decode prog_9_method_6_code 179 = .ok (.goto 110, 3) := by decide +kernel
theorem dd_Planner_ruleFault_182 : decode prog_9_method_6_code 182 = .ok (.aload_n 0, 1) := by decide +kernel
theorem dd_Planner_ruleFault_183 : decode prog_9_method_6_code 183 = .ok (.getfield 29, 3) := by decide +kernel
theorem dd_Planner_ruleFault_186 : decode prog_9_method_6_code 186 = .ok (.lload 5, 2) := by decide +kernel
theorem dd_Planner_ruleFault_188 : decode prog_9_method_6_code 188 = .ok (.invokevirtual 134, 3) := by decide +kernel
theorem dd_Planner_ruleFault_191 : decode prog_9_method_6_code 191 = .ok (.istore 8, 2) := by decide +kernel
theorem dd_Planner_ruleFault_193 : decode prog_9_method_6_code 193 = .ok (.goto 96, 3) := by decide +kernel
theorem dd_Planner_ruleFault_196 : decode prog_9_method_6_code 196 = .ok (.lload 5, 2) := by decide +kernel
theorem dd_Planner_ruleFault_198 : decode prog_9_method_6_code 198 = .ok (.ldc2_w 137, 3) := by decide +kernel
theorem dd_Planner_ruleFault_201 : decode prog_9_method_6_code 201 = .ok (.lcmp, 1) := by decide +kernel
theorem dd_Planner_ruleFault_202 : decode prog_9_method_6_code 202 = .ok (.ifCond .eq 20, 3) := by decide +kernel
theorem dd_Planner_ruleFault_205 : decode prog_9_method_6_code 205 = .ok (.aload_n 0, 1) := by decide +kernel
theorem dd_Planner_ruleFault_206 : decode prog_9_method_6_code 206 = .ok (.getfield 25, 3) := by decide +kernel
theorem dd_Planner_ruleFault_209 : decode prog_9_method_6_code 209 = .ok (.aload_n 1, 1) := by decide +kernel
theorem dd_Planner_ruleFault_210 : decode prog_9_method_6_code 210 = .ok (.getfield 85, 3) := by decide +kernel
theorem dd_Planner_ruleFault_213 : decode prog_9_method_6_code 213 = .ok (.lload 5, 2) := by decide +kernel
theorem dd_Planner_ruleFault_215 : decode prog_9_method_6_code 215 = .ok (.invokevirtual 126, 3) := by decide +kernel
theorem dd_Planner_ruleFault_218 : decode prog_9_method_6_code 218 = .ok (.iconst (-1), 1) := by decide +kernel
theorem dd_Planner_ruleFault_219 : decode prog_9_method_6_code 219 = .ok (.if_icmp .eq 7, 3) := by decide +kernel
theorem dd_Planner_ruleFault_222 : decode prog_9_method_6_code 222 = .ok (.iconst 1, 1) := by decide +kernel
theorem dd_Planner_ruleFault_223 : decode prog_9_method_6_code 223 = .ok (.goto 4, 3) := by decide +kernel
theorem dd_Planner_ruleFault_226 : decode prog_9_method_6_code 226 = .ok (.iconst 0, 1) := by decide +kernel
theorem dd_Planner_ruleFault_227 : decode prog_9_method_6_code 227 = .ok (.istore 8, 2) := by decide +kernel
theorem dd_Planner_ruleFault_229 : decode prog_9_method_6_code 229 = .ok (.goto 60, 3) := by decide +kernel
theorem dd_Planner_ruleFault_232 : decode prog_9_method_6_code 232 = .ok (.iload 7, 2) := by decide +kernel
theorem dd_Planner_ruleFault_234 : decode prog_9_method_6_code 234 = .ok (.ifCond .ne 42, 3) := by decide +kernel
theorem dd_Planner_ruleFault_237 : decode prog_9_method_6_code 237 = .ok (.lload 5, 2) := by decide +kernel
theorem dd_Planner_ruleFault_239 : decode prog_9_method_6_code 239 = .ok (.ldc2_w 137, 3) := by decide +kernel
theorem dd_Planner_ruleFault_242 : decode prog_9_method_6_code 242 = .ok (.lcmp, 1) := by decide +kernel
theorem dd_Planner_ruleFault_243 : decode prog_9_method_6_code 243 = .ok (.ifCond .eq 29, 3) := by decide +kernel
theorem dd_Planner_ruleFault_246 : decode prog_9_method_6_code 246 = .ok (.lload 5, 2) := by decide +kernel
theorem dd_Planner_ruleFault_248 : decode prog_9_method_6_code 248 = .ok (.ldc2_w 139, 3) := by decide +kernel
theorem dd_Planner_ruleFault_251 : decode prog_9_method_6_code 251 = .ok (.lcmp, 1) := by decide +kernel
theorem dd_Planner_ruleFault_252 : decode prog_9_method_6_code 252 = .ok (.ifCond .eq 20, 3) := by decide +kernel
theorem dd_Planner_ruleFault_255 : decode prog_9_method_6_code 255 = .ok (.aload_n 0, 1) := by decide +kernel
theorem dd_Planner_ruleFault_256 : decode prog_9_method_6_code 256 = .ok (.getfield 25, 3) := by decide +kernel
theorem dd_Planner_ruleFault_259 : decode prog_9_method_6_code 259 = .ok (.aload_n 1, 1) := by decide +kernel
theorem dd_Planner_ruleFault_260 : decode prog_9_method_6_code 260 = .ok (.getfield 85, 3) := by decide +kernel
theorem dd_Planner_ruleFault_263 : decode prog_9_method_6_code 263 = .ok (.lload 5, 2) := by decide +kernel
theorem dd_Planner_ruleFault_265 : decode prog_9_method_6_code 265 = .ok (.invokevirtual 126, 3) := by decide +kernel
theorem dd_Planner_ruleFault_268 : decode prog_9_method_6_code 268 = .ok (.iconst (-1), 1) := by decide +kernel
theorem dd_Planner_ruleFault_269 : decode prog_9_method_6_code 269 = .ok (.if_icmp .eq 7, 3) := by decide +kernel
theorem dd_Planner_ruleFault_272 : decode prog_9_method_6_code 272 = .ok (.iconst 1, 1) := by decide +kernel
theorem dd_Planner_ruleFault_273 : decode prog_9_method_6_code 273 = .ok (.goto 4, 3) := by decide +kernel
theorem dd_Planner_ruleFault_276 : decode prog_9_method_6_code 276 = .ok (.iconst 0, 1) := by decide +kernel
theorem dd_Planner_ruleFault_277 : decode prog_9_method_6_code 277 = .ok (.istore 8, 2) := by decide +kernel
theorem dd_Planner_ruleFault_279 : decode prog_9_method_6_code 279 = .ok (.goto 10, 3) := by decide +kernel
theorem dd_Planner_ruleFault_282 : decode prog_9_method_6_code 282 = .ok (.iload 7, 2) := by decide +kernel
theorem dd_Planner_ruleFault_284 : decode prog_9_method_6_code 284 = .ok (.istore 8, 2) := by decide +kernel
theorem dd_Planner_ruleFault_286 : decode prog_9_method_6_code 286 = .ok (.goto 3, 3) := by decide +kernel
theorem dd_Planner_ruleFault_289 : decode prog_9_method_6_code 289 = .ok (.iload 8, 2) := by decide +kernel
theorem dd_Planner_ruleFault_291 : decode prog_9_method_6_code 291 = .ok (.ifCond .eq 7, 3) := by decide +kernel
theorem dd_Planner_ruleFault_294 : decode prog_9_method_6_code 294 = .ok (.iconst 0, 1) := by decide +kernel
theorem dd_Planner_ruleFault_295 : decode prog_9_method_6_code 295 = .ok (.goto 4, 3) := by decide +kernel
theorem dd_Planner_ruleFault_298 : decode prog_9_method_6_code 298 = .ok (.iconst 4, 1) := by decide +kernel
theorem dd_Planner_ruleFault_299 : decode prog_9_method_6_code 299 = .ok (.ireturn, 1) := by decide +kernel
theorem dd_Planner_planProperty_0 : decode prog_9_method_7_code 0 = .ok (.aload_n 1, 1) := by decide +kernel
theorem dd_Planner_planProperty_1 : decode prog_9_method_7_code 1 = .ok (.getfield 141, 3) := by decide +kernel
theorem dd_Planner_planProperty_4 : decode prog_9_method_7_code 4 = .ok (.iload_n 2, 1) := by decide +kernel
theorem dd_Planner_planProperty_5 : decode prog_9_method_7_code 5 = .ok (.aaload, 1) := by decide +kernel
theorem dd_Planner_planProperty_6 : decode prog_9_method_7_code 6 = .ok (.astore_n 3, 1) := by decide +kernel
theorem dd_Planner_planProperty_7 : decode prog_9_method_7_code 7 = .ok (.aload_n 0, 1) := by decide +kernel
theorem dd_Planner_planProperty_8 : decode prog_9_method_7_code 8 = .ok (.getfield 25, 3) := by decide +kernel
theorem dd_Planner_planProperty_11 : decode prog_9_method_7_code 11 = .ok (.aload_n 1, 1) := by decide +kernel
theorem dd_Planner_planProperty_12 : decode prog_9_method_7_code 12 = .ok (.getfield 85, 3) := by decide +kernel
theorem dd_Planner_planProperty_15 : decode prog_9_method_7_code 15 = .ok (.iload_n 2, 1) := by decide +kernel
theorem dd_Planner_planProperty_16 : decode prog_9_method_7_code 16 = .ok (.invokevirtual 145, 3) := by decide +kernel
theorem dd_Planner_planProperty_19 : decode prog_9_method_7_code 19 = .ok (.istore 4, 2) := by decide +kernel
theorem dd_Planner_planProperty_21 : decode prog_9_method_7_code 21 = .ok (.aload_n 0, 1) := by decide +kernel
theorem dd_Planner_planProperty_22 : decode prog_9_method_7_code 22 = .ok (.getfield 25, 3) := by decide +kernel
theorem dd_Planner_planProperty_25 : decode prog_9_method_7_code 25 = .ok (.aload_n 1, 1) := by decide +kernel
theorem dd_Planner_planProperty_26 : decode prog_9_method_7_code 26 = .ok (.getfield 85, 3) := by decide +kernel
theorem dd_Planner_planProperty_29 : decode prog_9_method_7_code 29 = .ok (.iload_n 2, 1) := by decide +kernel
theorem dd_Planner_planProperty_30 : decode prog_9_method_7_code 30 = .ok (.invokevirtual 149, 3) := by decide +kernel
theorem dd_Planner_planProperty_33 : decode prog_9_method_7_code 33 = .ok (.istore 5, 2) := by decide +kernel
theorem dd_Planner_planProperty_35 : decode prog_9_method_7_code 35 = .ok (.aload_n 1, 1) := by decide +kernel
theorem dd_Planner_planProperty_36 : decode prog_9_method_7_code 36 = .ok (.iconst 2, 1) := by decide +kernel
theorem dd_Planner_planProperty_37 : decode prog_9_method_7_code 37 = .ok (.iload 4, 2) := by decide +kernel
theorem dd_Planner_planProperty_39 : decode prog_9_method_7_code 39 = .ok (.invokevirtual 152, 3) := by decide +kernel
theorem dd_Planner_planProperty_42 : decode prog_9_method_7_code 42 = .ok (.iconst (-1), 1) := by decide +kernel
theorem dd_Planner_planProperty_43 : decode prog_9_method_7_code 43 = .ok (.if_icmp .eq 10, 3) := by decide +kernel
theorem dd_Planner_planProperty_46 : decode prog_9_method_7_code 46 = .ok (.aload_n 3, 1) := by decide +kernel
theorem dd_Planner_planProperty_47 : decode prog_9_method_7_code 47 = .ok (.iconst 2, 1) := by decide +kernel
theorem dd_Planner_planProperty_48 : decode prog_9_method_7_code 48 = .ok (.putfield 155, 3) := by decide +kernel
theorem dd_Planner_planProperty_51 : decode prog_9_method_7_code 51 = .ok (.iconst 0, 1) := by decide +kernel
theorem dd_Planner_planProperty_52 : decode prog_9_method_7_code 52 = .ok (.ireturn, 1) := by decide +kernel
theorem dd_Planner_planProperty_53 : decode prog_9_method_7_code 53 = .ok (.aload_n 1, 1) := by decide +kernel
theorem dd_Planner_planProperty_54 : decode prog_9_method_7_code 54 = .ok (.iconst 1, 1) := by decide +kernel
theorem dd_Planner_planProperty_55 : decode prog_9_method_7_code 55 = .ok (.iload 4, 2) := by decide +kernel
theorem dd_Planner_planProperty_57 : decode prog_9_method_7_code 57 = .ok (.invokevirtual 152, 3) := by decide +kernel
theorem dd_Planner_planProperty_60 : decode prog_9_method_7_code 60 = .ok (.istore 6, 2) := by decide +kernel
theorem dd_Planner_planProperty_62 : decode prog_9_method_7_code 62 = .ok (.iload 6, 2) := by decide +kernel
theorem dd_Planner_planProperty_64 : decode prog_9_method_7_code 64 = .ok (.iconst (-1), 1) := by decide +kernel
theorem dd_Planner_planProperty_65 : decode prog_9_method_7_code 65 = .ok (.if_icmp .eq 42, 3) := by decide +kernel
theorem dd_Planner_planProperty_68 : decode prog_9_method_7_code 68 = .ok (.aload_n 3, 1) := by decide +kernel
theorem dd_Planner_planProperty_69 : decode prog_9_method_7_code 69 = .ok (.iconst 1, 1) := by decide +kernel
theorem dd_Planner_planProperty_70 : decode prog_9_method_7_code 70 = .ok (.putfield 155, 3) := by decide +kernel
theorem dd_Planner_planProperty_73 : decode prog_9_method_7_code 73 = .ok (.aload_n 3, 1) := by decide +kernel
theorem dd_Planner_planProperty_74 : decode prog_9_method_7_code 74 = .ok (.aload_n 1, 1) := by decide +kernel
theorem dd_Planner_planProperty_75 : decode prog_9_method_7_code 75 = .ok (.getfield 77, 3) := by decide +kernel
theorem dd_Planner_planProperty_78 : decode prog_9_method_7_code 78 = .ok (.iload 6, 2) := by decide +kernel
theorem dd_Planner_planProperty_80 : decode prog_9_method_7_code 80 = .ok (.laload, 1) := by decide +kernel
theorem dd_Planner_planProperty_81 : decode prog_9_method_7_code 81 = .ok (.putfield 158, 3) := by decide +kernel
theorem dd_Planner_planProperty_84 : decode prog_9_method_7_code 84 = .ok (.aload_n 3, 1) := by decide +kernel
theorem dd_Planner_planProperty_85 : decode prog_9_method_7_code 85 = .ok (.aload_n 0, 1) := by decide +kernel
theorem dd_Planner_planProperty_86 : decode prog_9_method_7_code 86 = .ok (.getfield 33, 3) := by decide +kernel
theorem dd_Planner_planProperty_89 : decode prog_9_method_7_code 89 = .ok (.iconst 4, 1) := by decide +kernel
theorem dd_Planner_planProperty_90 : decode prog_9_method_7_code 90 = .ok (.iload 5, 2) := by decide +kernel
theorem dd_Planner_planProperty_92 : decode prog_9_method_7_code 92 = .ok (.invokevirtual 162, 3) := by decide +kernel
theorem dd_Planner_planProperty_95 : decode prog_9_method_7_code 95 = .ok (.putfield 167, 3) := by decide +kernel
theorem dd_Planner_planProperty_98 : decode prog_9_method_7_code 98 = .ok (.aload_n 0, 1) := by decide +kernel
theorem dd_Planner_planProperty_99 : decode prog_9_method_7_code 99 = .ok (.aload_n 3, 1) := by decide +kernel
theorem dd_Planner_planProperty_100 : decode prog_9_method_7_code 100 = .ok (.getfield 167, 3) := by decide +kernel
theorem dd_Planner_planProperty_103 : decode prog_9_method_7_code 103 = .ok (.invokevirtual 170, 3) := by decide +kernel
theorem dd_Planner_planProperty_106 : decode prog_9_method_7_code 106 = .ok (.ireturn, 1) := by decide +kernel
theorem dd_Planner_planProperty_107 : decode prog_9_method_7_code 107 = .ok (.aload_n 3, 1) := by decide +kernel
theorem dd_Planner_planProperty_108 : decode prog_9_method_7_code 108 = .ok (.iconst 0, 1) := by decide +kernel
theorem dd_Planner_planProperty_109 : decode prog_9_method_7_code 109 = .ok (.putfield 155, 3) := by decide +kernel
theorem dd_Planner_planProperty_112 : decode prog_9_method_7_code 112 = .ok (.aload_n 3, 1) := by decide +kernel
theorem dd_Planner_planProperty_113 : decode prog_9_method_7_code 113 = .ok (.aload_n 0, 1) := by decide +kernel
theorem dd_Planner_planProperty_114 : decode prog_9_method_7_code 114 = .ok (.getfield 25, 3) := by decide +kernel
theorem dd_Planner_planProperty_117 : decode prog_9_method_7_code 117 = .ok (.aload_n 1, 1) := by decide +kernel
theorem dd_Planner_planProperty_118 : decode prog_9_method_7_code 118 = .ok (.getfield 94, 3) := by decide +kernel
theorem dd_Planner_planProperty_121 : decode prog_9_method_7_code 121 = .ok (.aload_n 0, 1) := by decide +kernel
theorem dd_Planner_planProperty_122 : decode prog_9_method_7_code 122 = .ok (.aload_n 1, 1) := by decide +kernel
theorem dd_Planner_planProperty_123 : decode prog_9_method_7_code 123 = .ok (.iload 4, 2) := by decide +kernel
theorem dd_Planner_planProperty_125 : decode prog_9_method_7_code 125 = .ok (.invokevirtual 173, 3) := by decide +kernel
theorem dd_Planner_planProperty_128 : decode prog_9_method_7_code 128 = .ok (.invokevirtual 130, 3) := by decide +kernel
theorem dd_Planner_planProperty_131 : decode prog_9_method_7_code 131 = .ok (.ifCond .ne 5, 3) := by decide +kernel
theorem dd_Planner_planProperty_134 : decode prog_9_method_7_code 134 = .ok (.iconst 5, 1) := by decide +kernel
theorem dd_Planner_planProperty_135 : decode prog_9_method_7_code 135 = .ok (.ireturn, 1) := by decide +kernel
theorem dd_Planner_planProperty_136 : decode prog_9_method_7_code 136 = .ok (.aload_n 1, 1) := by decide +kernel
theorem dd_Planner_planProperty_137 : decode prog_9_method_7_code 137 = .ok (.iconst 4, 1) := by decide +kernel
theorem dd_Planner_planProperty_138 : decode prog_9_method_7_code 138 = .ok (.iload 4, 2) := by decide +kernel
theorem dd_Planner_planProperty_140 : decode prog_9_method_7_code 140 = .ok (.invokevirtual 152, 3) := by decide +kernel
theorem dd_Planner_planProperty_143 : decode prog_9_method_7_code 143 = .ok (.istore 7, 2) := by decide +kernel
theorem dd_Planner_planProperty_145 : decode prog_9_method_7_code 145 = .ok (.aload_n 3, 1) := by decide +kernel
theorem dd_Planner_planProperty_146 : decode prog_9_method_7_code 146 = .ok (.iload 7, 2) := by decide +kernel
theorem dd_Planner_planProperty_148 : decode prog_9_method_7_code 148 = .ok (.iconst (-1), 1) := by decide +kernel
theorem dd_Planner_planProperty_149 : decode prog_9_method_7_code 149 = .ok (.if_icmp .ne 19, 3) := by decide +kernel
theorem dd_Planner_planProperty_152 : decode prog_9_method_7_code 152 = .ok (.aload_n 0, 1) := by decide +kernel
theorem dd_Planner_planProperty_153 : decode prog_9_method_7_code 153 = .ok (.getfield 33, 3) := by decide +kernel
theorem dd_Planner_planProperty_156 : decode prog_9_method_7_code 156 = .ok (.aload_n 3, 1) := by decide +kernel
theorem dd_Planner_planProperty_157 : decode prog_9_method_7_code 157 = .ok (.getfield 177, 3) := by decide +kernel
theorem dd_Planner_planProperty_160 : decode prog_9_method_7_code 160 = .ok (.iload 5, 2) := by decide +kernel
theorem dd_Planner_planProperty_162 : decode prog_9_method_7_code 162 = .ok (.invokevirtual 162, 3) := by decide +kernel
theorem dd_Planner_planProperty_165 : decode prog_9_method_7_code 165 = .ok (.goto 20, 3) := by decide +kernel
theorem dd_Planner_planProperty_168 : decode prog_9_method_7_code 168 = .ok (.aload_n 0, 1) := by decide +kernel
theorem dd_Planner_planProperty_169 : decode prog_9_method_7_code 169 = .ok (.aload_n 1, 1) := by decide +kernel
theorem dd_Planner_planProperty_170 : decode prog_9_method_7_code 170 = .ok (.getfield 77, 3) := by decide +kernel
theorem dd_Planner_planProperty_173 : decode prog_9_method_7_code 173 = .ok (.iload 7, 2) := by decide +kernel
theorem dd_Planner_planProperty_175 : decode prog_9_method_7_code 175 = .ok (.laload, 1) := by decide +kernel
theorem dd_Planner_planProperty_176 : decode prog_9_method_7_code 176 = .ok (.aload_n 3, 1) := by decide +kernel
theorem dd_Planner_planProperty_177 : decode prog_9_method_7_code 177 = .ok (.getfield 177, 3) := by decide +kernel
theorem dd_Planner_planProperty_180 : decode prog_9_method_7_code 180 = .ok (.iload 5, 2) := by decide +kernel
theorem dd_Planner_planProperty_182 : decode prog_9_method_7_code 182 = .ok (.invokevirtual 180, 3) := by decide +kernel
theorem dd_Planner_planProperty_185 : decode prog_9_method_7_code 185 = .ok (.putfield 167, 3) := by decide +kernel
theorem dd_Planner_planProperty_188 : decode prog_9_method_7_code 188 = .ok (.aload_n 0, 1) := by decide +kernel
theorem dd_Planner_planProperty_189 : decode prog_9_method_7_code 189 = .ok (.aload_n 3, 1) := by decide +kernel
theorem dd_Planner_planProperty_190 : decode prog_9_method_7_code 190 = .ok (.getfield 167, 3) := by decide +kernel
theorem dd_Planner_planProperty_193 : decode prog_9_method_7_code 193 = .ok (.invokevirtual 170, 3) := by decide +kernel
theorem dd_Planner_planProperty_196 : decode prog_9_method_7_code 196 = .ok (.ireturn, 1) := by decide +kernel
theorem dd_Planner_planDefault_0 : decode prog_9_method_8_code 0 = .ok (.aload_n 1, 1) := by decide +kernel
theorem dd_Planner_planDefault_1 : decode prog_9_method_8_code 1 = .ok (.getfield 141, 3) := by decide +kernel
theorem dd_Planner_planDefault_4 : decode prog_9_method_8_code 4 = .ok (.iload_n 2, 1) := by decide +kernel
theorem dd_Planner_planDefault_5 : decode prog_9_method_8_code 5 = .ok (.aaload, 1) := by decide +kernel
theorem dd_Planner_planDefault_6 : decode prog_9_method_8_code 6 = .ok (.astore_n 3, 1) := by decide +kernel
theorem dd_Planner_planDefault_7 : decode prog_9_method_8_code 7 = .ok (.aload_n 1, 1) := by decide +kernel
theorem dd_Planner_planDefault_8 : decode prog_9_method_8_code 8 = .ok (.iconst 3, 1) := by decide +kernel
theorem dd_Planner_planDefault_9 : decode prog_9_method_8_code 9 = .ok (.aload_n 0, 1) := by decide +kernel
theorem dd_Planner_planDefault_10 : decode prog_9_method_8_code 10 = .ok (.getfield 25, 3) := by decide +kernel
theorem dd_Planner_planDefault_13 : decode prog_9_method_8_code 13 = .ok (.aload_n 1, 1) := by decide +kernel
theorem dd_Planner_planDefault_14 : decode prog_9_method_8_code 14 = .ok (.getfield 85, 3) := by decide +kernel
theorem dd_Planner_planDefault_17 : decode prog_9_method_8_code 17 = .ok (.iload_n 2, 1) := by decide +kernel
theorem dd_Planner_planDefault_18 : decode prog_9_method_8_code 18 = .ok (.invokevirtual 145, 3) := by decide +kernel
theorem dd_Planner_planDefault_21 : decode prog_9_method_8_code 21 = .ok (.invokevirtual 152, 3) := by decide +kernel
theorem dd_Planner_planDefault_24 : decode prog_9_method_8_code 24 = .ok (.istore 4, 2) := by decide +kernel
theorem dd_Planner_planDefault_26 : decode prog_9_method_8_code 26 = .ok (.aload_n 3, 1) := by decide +kernel
theorem dd_Planner_planDefault_27 : decode prog_9_method_8_code 27 = .ok (.aload_n 3, 1) := by decide +kernel
theorem dd_Planner_planDefault_28 : decode prog_9_method_8_code 28 = .ok (.getfield 155, 3) := by decide +kernel
theorem dd_Planner_planDefault_31 : decode prog_9_method_8_code 31 = .ok (.ifCond .ne 13, 3) := by decide +kernel
theorem dd_Planner_planDefault_34 : decode prog_9_method_8_code 34 = .ok (.iload 4, 2) := by decide +kernel
theorem dd_Planner_planDefault_36 : decode prog_9_method_8_code 36 = .ok (.iconst (-1), 1) := by decide +kernel
theorem dd_Planner_planDefault_37 : decode prog_9_method_8_code 37 = .ok (.if_icmp .eq 7, 3) := by decide +kernel
theorem dd_Planner_planDefault_40 : decode prog_9_method_8_code 40 = .ok (.iconst 1, 1) := by decide +kernel
theorem dd_Planner_planDefault_41 : decode prog_9_method_8_code 41 = .ok (.goto 4, 3) := by decide +kernel
theorem dd_Planner_planDefault_44 : decode prog_9_method_8_code 44 = .ok (.iconst 0, 1) := by decide +kernel
theorem dd_Planner_planDefault_45 : decode prog_9_method_8_code 45 = .ok (.putfield 184, 3) := by decide +kernel
theorem dd_Planner_planDefault_48 : decode prog_9_method_8_code 48 = .ok (.aload_n 3, 1) := by decide +kernel
theorem dd_Planner_planDefault_49 : decode prog_9_method_8_code 49 = .ok (.getfield 184, 3) := by decide +kernel
theorem dd_Planner_planDefault_52 : decode prog_9_method_8_code 52 = .ok (.ifCond .ne 5, 3) := by decide +kernel
theorem dd_Planner_planDefault_55 : decode prog_9_method_8_code 55 = .ok (.iconst 0, 1) := by decide +kernel
theorem dd_Planner_planDefault_56 : decode prog_9_method_8_code 56 = .ok (.ireturn, 1) := by decide +kernel
theorem dd_Planner_planDefault_57 : decode prog_9_method_8_code 57 = .ok (.aload_n 3, 1) := by decide +kernel
theorem dd_Planner_planDefault_58 : decode prog_9_method_8_code 58 = .ok (.aload_n 1, 1) := by decide +kernel
theorem dd_Planner_planDefault_59 : decode prog_9_method_8_code 59 = .ok (.getfield 77, 3) := by decide +kernel
theorem dd_Planner_planDefault_62 : decode prog_9_method_8_code 62 = .ok (.iload 4, 2) := by decide +kernel
theorem dd_Planner_planDefault_64 : decode prog_9_method_8_code 64 = .ok (.laload, 1) := by decide +kernel
theorem dd_Planner_planDefault_65 : decode prog_9_method_8_code 65 = .ok (.putfield 187, 3) := by decide +kernel
theorem dd_Planner_planDefault_68 : decode prog_9_method_8_code 68 = .ok (.aload_n 3, 1) := by decide +kernel
theorem dd_Planner_planDefault_69 : decode prog_9_method_8_code 69 = .ok (.aload_n 0, 1) := by decide +kernel
theorem dd_Planner_planDefault_70 : decode prog_9_method_8_code 70 = .ok (.getfield 33, 3) := by decide +kernel
theorem dd_Planner_planDefault_73 : decode prog_9_method_8_code 73 = .ok (.iconst 4, 1) := by decide +kernel
theorem dd_Planner_planDefault_74 : decode prog_9_method_8_code 74 = .ok (.aload_n 0, 1) := by decide +kernel
theorem dd_Planner_planDefault_75 : decode prog_9_method_8_code 75 = .ok (.getfield 25, 3) := by decide +kernel
theorem dd_Planner_planDefault_78 : decode prog_9_method_8_code 78 = .ok (.aload_n 1, 1) := by decide +kernel
theorem dd_Planner_planDefault_79 : decode prog_9_method_8_code 79 = .ok (.getfield 85, 3) := by decide +kernel
theorem dd_Planner_planDefault_82 : decode prog_9_method_8_code 82 = .ok (.iload_n 2, 1) := by decide +kernel
theorem dd_Planner_planDefault_83 : decode prog_9_method_8_code 83 = .ok (.invokevirtual 149, 3) := by decide +kernel
theorem dd_Planner_planDefault_86 : decode prog_9_method_8_code 86 = .ok (.invokevirtual 162, 3) := by decide +kernel
theorem dd_Planner_planDefault_89 : decode prog_9_method_8_code 89 = .ok (.putfield 190, 3) := by decide +kernel
theorem dd_Planner_planDefault_92 : decode prog_9_method_8_code 92 = .ok (.aload_n 0, 1) := by decide +kernel
theorem dd_Planner_planDefault_93 : decode prog_9_method_8_code 93 = .ok (.aload_n 3, 1) := by decide +kernel
theorem dd_Planner_planDefault_94 : decode prog_9_method_8_code 94 = .ok (.getfield 190, 3) := by decide +kernel
theorem dd_Planner_planDefault_97 : decode prog_9_method_8_code 97 = .ok (.invokevirtual 170, 3) := by decide +kernel
theorem dd_Planner_planDefault_100 : decode prog_9_method_8_code 100 = .ok (.ireturn, 1) := by decide +kernel
theorem dd_Planner_wayBy_0 : decode prog_9_method_9_code 0 = .ok (.aload_n 0, 1) := by decide +kernel
theorem dd_Planner_wayBy_1 : decode prog_9_method_9_code 1 = .ok (.getfield 29, 3) := by decide +kernel
theorem dd_Planner_wayBy_4 : decode prog_9_method_9_code 4 = .ok (.lload_n 1, 1) := by decide +kernel
theorem dd_Planner_wayBy_5 : decode prog_9_method_9_code 5 = .ok (.invokevirtual 134, 3) := by decide +kernel
theorem dd_Planner_wayBy_8 : decode prog_9_method_9_code 8 = .ok (.ifCond .ne 5, 3) := by decide +kernel
theorem dd_Planner_wayBy_11 : decode prog_9_method_9_code 11 = .ok (.iconst (-1), 1) := by decide +kernel
theorem dd_Planner_wayBy_12 : decode prog_9_method_9_code 12 = .ok (.ireturn, 1) := by decide +kernel
theorem dd_Planner_wayBy_13 : decode prog_9_method_9_code 13 = .ok (.aload_n 0, 1) := by decide +kernel
theorem dd_Planner_wayBy_14 : decode prog_9_method_9_code 14 = .ok (.getfield 29, 3) := by decide +kernel
theorem dd_Planner_wayBy_17 : decode prog_9_method_9_code 17 = .ok (.getfield 193, 3) := by decide +kernel
theorem dd_Planner_wayBy_20 : decode prog_9_method_9_code 20 = .ok (.lload_n 1, 1) := by decide +kernel
theorem dd_Planner_wayBy_21 : decode prog_9_method_9_code 21 = .ok (.l2i, 1) := by decide +kernel
theorem dd_Planner_wayBy_22 : decode prog_9_method_9_code 22 = .ok (.aaload, 1) := by decide +kernel
theorem dd_Planner_wayBy_23 : decode prog_9_method_9_code 23 = .ok (.astore 5, 2) := by decide +kernel
theorem dd_Planner_wayBy_25 : decode prog_9_method_9_code 25 = .ok (.aload 5, 2) := by decide +kernel
theorem dd_Planner_wayBy_27 : decode prog_9_method_9_code 27 = .ok (.getfield 197, 3) := by decide +kernel
theorem dd_Planner_wayBy_30 : decode prog_9_method_9_code 30 = .ok (.iload_n 3, 1) := by decide +kernel
theorem dd_Planner_wayBy_31 : decode prog_9_method_9_code 31 = .ok (.if_icmp .ne 21, 3) := by decide +kernel
theorem dd_Planner_wayBy_34 : decode prog_9_method_9_code 34 = .ok (.aload 5, 2) := by decide +kernel
theorem dd_Planner_wayBy_36 : decode prog_9_method_9_code 36 = .ok (.getfield 200, 3) := by decide +kernel
theorem dd_Planner_wayBy_39 : decode prog_9_method_9_code 39 = .ok (.iload 4, 2) := by decide +kernel
theorem dd_Planner_wayBy_41 : decode prog_9_method_9_code 41 = .ok (.if_icmp .ne 11, 3) := by decide +kernel
theorem dd_Planner_wayBy_44 : decode prog_9_method_9_code 44 = .ok (.bipush 16, 2) := by decide +kernel
theorem dd_Planner_wayBy_46 : decode prog_9_method_9_code 46 = .ok (.lload_n 1, 1) := by decide +kernel
theorem dd_Planner_wayBy_47 : decode prog_9_method_9_code 47 = .ok (.l2i, 1) := by decide +kernel
theorem dd_Planner_wayBy_48 : decode prog_9_method_9_code 48 = .ok (.iadd, 1) := by decide +kernel
theorem dd_Planner_wayBy_49 : decode prog_9_method_9_code 49 = .ok (.goto 4, 3) := by decide +kernel
theorem dd_Planner_wayBy_52 : decode prog_9_method_9_code 52 = .ok (.iconst (-1), 1) := by decide +kernel
theorem dd_Planner_wayBy_53 : decode prog_9_method_9_code 53 = .ok (.ireturn, 1) := by decide +kernel
theorem dd_Planner_faultOf_0 : decode prog_9_method_10_code 0 = .ok (.iload_n 1, 1) := by decide +kernel
theorem dd_Planner_faultOf_1 : decode prog_9_method_10_code 1 = .ok (.iconst (-1), 1) := by decide +kernel
theorem dd_Planner_faultOf_2 : decode prog_9_method_10_code 2 = .ok (.if_icmp .ne 8, 3) := by decide +kernel
theorem dd_Planner_faultOf_5 : decode prog_9_method_10_code 5 = .ok (.bipush 6, 2) := by decide +kernel
theorem dd_Planner_faultOf_7 : decode prog_9_method_10_code 7 = .ok (.goto 15, 3) := by decide +kernel
theorem dd_Planner_faultOf_10 : decode prog_9_method_10_code 10 = .ok (.iload_n 1, 1) := by decide +kernel
theorem dd_Planner_faultOf_11 : decode prog_9_method_10_code 11 = .ok (.bipush (-2), 2) := by decide +kernel
theorem dd_Planner_faultOf_13 : decode prog_9_method_10_code 13 = .ok (.if_icmp .ne 8, 3) := by decide +kernel
theorem dd_Planner_faultOf_16 : decode prog_9_method_10_code 16 = .ok (.bipush 7, 2) := by decide +kernel
theorem dd_Planner_faultOf_18 : decode prog_9_method_10_code 18 = .ok (.goto 4, 3) := by decide +kernel
theorem dd_Planner_faultOf_21 : decode prog_9_method_10_code 21 = .ok (.iconst 0, 1) := by decide +kernel
theorem dd_Planner_faultOf_22 : decode prog_9_method_10_code 22 = .ok (.ireturn, 1) := by decide +kernel
theorem dd_Planner_pathTo_0 : decode prog_9_method_11_code 0 = .ok (.aload_n 1, 1) := by decide +kernel
theorem dd_Planner_pathTo_1 : decode prog_9_method_11_code 1 = .ok (.iconst 0, 1) := by decide +kernel
theorem dd_Planner_pathTo_2 : decode prog_9_method_11_code 2 = .ok (.iload_n 2, 1) := by decide +kernel
theorem dd_Planner_pathTo_3 : decode prog_9_method_11_code 3 = .ok (.invokevirtual 152, 3) := by decide +kernel
theorem dd_Planner_pathTo_6 : decode prog_9_method_11_code 6 = .ok (.istore_n 3, 1) := by decide +kernel
theorem dd_Planner_pathTo_7 : decode prog_9_method_11_code 7 = .ok (.iload_n 3, 1) := by decide +kernel
theorem dd_Planner_pathTo_8 : decode prog_9_method_11_code 8 = .ok (.iconst (-1), 1) := by decide +kernel
theorem dd_Planner_pathTo_9 : decode prog_9_method_11_code 9 = .ok (.if_icmp .eq 10, 3) := by decide +kernel
theorem dd_Planner_pathTo_12 : decode prog_9_method_11_code 12 = .ok (.aload_n 1, 1) := by decide +kernel
theorem dd_Planner_pathTo_13 : decode prog_9_method_11_code 13 = .ok (.getfield 77, 3) := by decide +kernel
theorem dd_Planner_pathTo_16 : decode prog_9_method_11_code 16 = .ok (.iload_n 3, 1) := by decide +kernel
theorem dd_Planner_pathTo_17 : decode prog_9_method_11_code 17 = .ok (.laload, 1) := by decide +kernel
theorem dd_Planner_pathTo_18 : decode prog_9_method_11_code 18 = .ok (.lreturn, 1) := by decide +kernel
theorem dd_Planner_pathTo_19 : decode prog_9_method_11_code 19 = .ok (.aload_n 0, 1) := by decide +kernel
theorem dd_Planner_pathTo_20 : decode prog_9_method_11_code 20 = .ok (.getfield 29, 3) := by decide +kernel
theorem dd_Planner_pathTo_23 : decode prog_9_method_11_code 23 = .ok (.aload_n 1, 1) := by decide +kernel
theorem dd_Planner_pathTo_24 : decode prog_9_method_11_code 24 = .ok (.getfield 109, 3) := by decide +kernel
theorem dd_Planner_pathTo_27 : decode prog_9_method_11_code 27 = .ok (.i2l, 1) := by decide +kernel
theorem dd_Planner_pathTo_28 : decode prog_9_method_11_code 28 = .ok (.invokevirtual 112, 3) := by decide +kernel
theorem dd_Planner_pathTo_31 : decode prog_9_method_11_code 31 = .ok (.ifCond .eq 105, 3) := by decide +kernel
theorem dd_Planner_pathTo_34 : decode prog_9_method_11_code 34 = .ok (.aload_n 0, 1) := by decide +kernel
theorem dd_Planner_pathTo_35 : decode prog_9_method_11_code 35 = .ok (.getfield 29, 3) := by decide +kernel
theorem dd_Planner_pathTo_38 : decode prog_9_method_11_code 38 = .ok (.getfield 48, 3) := by decide +kernel
theorem dd_Planner_pathTo_41 : decode prog_9_method_11_code 41 = .ok (.aload_n 1, 1) := by decide +kernel
theorem dd_Planner_pathTo_42 : decode prog_9_method_11_code 42 = .ok (.getfield 109, 3) := by decide +kernel
theorem dd_Planner_pathTo_45 : decode prog_9_method_11_code 45 = .ok (.aaload, 1) := by decide +kernel
theorem dd_Planner_pathTo_46 : decode prog_9_method_11_code 46 = .ok (.astore 4, 2) := by decide +kernel
theorem dd_Planner_pathTo_48 : decode prog_9_method_11_code 48 = .ok (.iconst 0, 1) := by decide +kernel
theorem dd_Planner_pathTo_49 : decode prog_9_method_11_code 49 = .ok (.istore 5, 2) := by decide +kernel
theorem dd_Planner_pathTo_51 : decode prog_9_method_11_code 51 = .ok (.iload 5, 2) := by decide +kernel
theorem dd_Planner_pathTo_53 : decode prog_9_method_11_code 53 = .ok (.aload 4, 2) := by decide +kernel
theorem dd_Planner_pathTo_55 : decode prog_9_method_11_code 55 = .ok (.getfield 60, 3) := by decide +kernel
theorem dd_Planner_pathTo_58 : decode prog_9_method_11_code 58 = .ok (.if_icmp .ge 78, 3) := by decide +kernel
theorem dd_Planner_pathTo_61 : decode prog_9_method_11_code 61 = .ok (.aload 4, 2) := by decide +kernel
theorem dd_Planner_pathTo_63 : decode prog_9_method_11_code 63 = .ok (.getfield 116, 3) := by decide +kernel
theorem dd_Planner_pathTo_66 : decode prog_9_method_11_code 66 = .ok (.iload 5, 2) := by decide +kernel
theorem dd_Planner_pathTo_68 : decode prog_9_method_11_code 68 = .ok (.iaload, 1) := by decide +kernel
theorem dd_Planner_pathTo_69 : decode prog_9_method_11_code 69 = .ok (.ifCond .ne 61, 3) := by decide +kernel
theorem dd_Planner_pathTo_72 : decode prog_9_method_11_code 72 = .ok (.aload 4, 2) := by decide +kernel
theorem dd_Planner_pathTo_74 : decode prog_9_method_11_code 74 = .ok (.getfield 77, 3) := by decide +kernel
theorem dd_Planner_pathTo_77 : decode prog_9_method_11_code 77 = .ok (.iload 5, 2) := by decide +kernel
theorem dd_Planner_pathTo_79 : decode prog_9_method_11_code 79 = .ok (.laload, 1) := by decide +kernel
theorem dd_Planner_pathTo_80 : decode prog_9_method_11_code 80 = .ok (.ldc2_w 201, 3) := by decide +kernel
theorem dd_Planner_pathTo_83 : decode prog_9_method_11_code 83 = .ok (.land, 1) := by decide +kernel
theorem dd_Planner_pathTo_84 : decode prog_9_method_11_code 84 = .ok (.iload_n 2, 1) := by decide +kernel
theorem dd_Planner_pathTo_85 : decode prog_9_method_11_code 85 = .ok (.iconst 1, 1) := by decide +kernel
theorem dd_Planner_pathTo_86 : decode prog_9_method_11_code 86 = .ok (.iadd, 1) := by decide +kernel
theorem dd_Planner_pathTo_87 : decode prog_9_method_11_code 87 = .ok (.i2l, 1) := by decide +kernel
theorem dd_Planner_pathTo_88 : decode prog_9_method_11_code 88 = .ok (.lcmp, 1) := by decide +kernel
theorem dd_Planner_pathTo_89 : decode prog_9_method_11_code 89 = .ok (.ifCond .ne 41, 3) := by decide +kernel
theorem dd_Planner_pathTo_92 : decode prog_9_method_11_code 92 = .ok (.aload 4, 2) := by decide +kernel
theorem dd_Planner_pathTo_94 : decode prog_9_method_11_code 94 = .ok (.getfield 120, 3) := by decide +kernel
theorem dd_Planner_pathTo_97 : decode prog_9_method_11_code 97 = .ok (.iload 5, 2) := by decide +kernel
theorem dd_Planner_pathTo_99 : decode prog_9_method_11_code 99 = .ok (.iaload, 1) := by decide +kernel
theorem dd_Planner_pathTo_100 : decode prog_9_method_11_code 100 = .ok (.istore 6, 2) := by decide +kernel
theorem dd_Planner_pathTo_102 : decode prog_9_method_11_code 102 = .ok (.aload_n 0, 1) := by decide +kernel
theorem dd_Planner_pathTo_103 : decode prog_9_method_11_code 103 = .ok (.getfield 25, 3) := by decide +kernel
theorem dd_Planner_pathTo_106 : decode prog_9_method_11_code 106 = .ok (.aload_n 1, 1) := by decide +kernel
theorem dd_Planner_pathTo_107 : decode prog_9_method_11_code 107 = .ok (.getfield 94, 3) := by decide +kernel
theorem dd_Planner_pathTo_110 : decode prog_9_method_11_code 110 = .ok (.iload 6, 2) := by decide +kernel
theorem dd_Planner_pathTo_112 : decode prog_9_method_11_code 112 = .ok (.i2l, 1) := by decide +kernel
theorem dd_Planner_pathTo_113 : decode prog_9_method_11_code 113 = .ok (.invokevirtual 126, 3) := by decide +kernel
theorem dd_Planner_pathTo_116 : decode prog_9_method_11_code 116 = .ok (.iconst (-1), 1) := by decide +kernel
theorem dd_Planner_pathTo_117 : decode prog_9_method_11_code 117 = .ok (.if_icmp .eq 8, 3) := by decide +kernel
theorem dd_Planner_pathTo_120 : decode prog_9_method_11_code 120 = .ok (.iload 6, 2) := by decide +kernel
theorem dd_Planner_pathTo_122 : decode prog_9_method_11_code 122 = .ok (.goto 4, 3) := by decide +kernel
theorem dd_Planner_pathTo_125 : decode prog_9_method_11_code 125 = .ok (.iload_n 2, 1) := by decide +kernel
theorem dd_Planner_pathTo_126 : decode prog_9_method_11_code 126 = .ok (.i2l, 1) := by decide +kernel
theorem dd_Planner_pathTo_127 : decode prog_9_method_11_code 127 = .ok (.lconst 1, 1) := by decide +kernel
theorem dd_Planner_pathTo_128 : decode prog_9_method_11_code 128 = .ok (.ladd, 1) := by decide +kernel
theorem dd_Planner_pathTo_129 : decode prog_9_method_11_code 129 = .ok (.lreturn, 1) := by decide +kernel
theorem dd_Planner_pathTo_130 : decode prog_9_method_11_code 130 = .ok (.iinc 5 1, 3) := by decide +kernel
theorem dd_Planner_pathTo_133 : decode prog_9_method_11_code 133 = .ok (.goto (-82), 3) := by decide +kernel
theorem dd_Planner_pathTo_136 : decode prog_9_method_11_code 136 = .ok (.iload_n 2, 1) := by decide +kernel
theorem dd_Planner_pathTo_137 : decode prog_9_method_11_code 137 = .ok (.i2l, 1) := by decide +kernel
theorem dd_Planner_pathTo_138 : decode prog_9_method_11_code 138 = .ok (.lconst 1, 1) := by decide +kernel
theorem dd_Planner_pathTo_139 : decode prog_9_method_11_code 139 = .ok (.ladd, 1) := by decide +kernel
theorem dd_Planner_pathTo_140 : decode prog_9_method_11_code 140 = .ok (.lreturn, 1) := by decide +kernel
theorem dd_Planner_planConstant_0 : decode prog_9_method_12_code 0 = .ok (.aload_n 0, 1) := by decide +kernel
theorem dd_Planner_planConstant_1 : decode prog_9_method_12_code 1 = .ok (.aload_n 1, 1) := by decide +kernel
theorem dd_Planner_planConstant_2 : decode prog_9_method_12_code 2 = .ok (.aload_n 0, 1) := by decide +kernel
theorem dd_Planner_planConstant_3 : decode prog_9_method_12_code 3 = .ok (.getfield 25, 3) := by decide +kernel
theorem dd_Planner_planConstant_6 : decode prog_9_method_12_code 6 = .ok (.aload_n 1, 1) := by decide +kernel
theorem dd_Planner_planConstant_7 : decode prog_9_method_12_code 7 = .ok (.getfield 94, 3) := by decide +kernel
theorem dd_Planner_planConstant_10 : decode prog_9_method_12_code 10 = .ok (.iload_n 2, 1) := by decide +kernel
theorem dd_Planner_planConstant_11 : decode prog_9_method_12_code 11 = .ok (.invokevirtual 145, 3) := by decide +kernel
theorem dd_Planner_planConstant_14 : decode prog_9_method_12_code 14 = .ok (.invokevirtual 203, 3) := by decide +kernel
theorem dd_Planner_planConstant_17 : decode prog_9_method_12_code 17 = .ok (.lstore_n 3, 1) := by decide +kernel
theorem dd_Planner_planConstant_18 : decode prog_9_method_12_code 18 = .ok (.lload_n 3, 1) := by decide +kernel
theorem dd_Planner_planConstant_19 : decode prog_9_method_12_code 19 = .ok (.ldc2_w 206, 3) := by decide +kernel
theorem dd_Planner_planConstant_22 : decode prog_9_method_12_code 22 = .ok (.lcmp, 1) := by decide +kernel
theorem dd_Planner_planConstant_23 : decode prog_9_method_12_code 23 = .ok (.ifCond .ne 5, 3) := by decide +kernel
theorem dd_Planner_planConstant_26 : decode prog_9_method_12_code 26 = .ok (.iconst 5, 1) := by decide +kernel
theorem dd_Planner_planConstant_27 : decode prog_9_method_12_code 27 = .ok (.ireturn, 1) := by decide +kernel
theorem dd_Planner_planConstant_28 : decode prog_9_method_12_code 28 = .ok (.aload_n 1, 1) := by decide +kernel
theorem dd_Planner_planConstant_29 : decode prog_9_method_12_code 29 = .ok (.getfield 208, 3) := by decide +kernel
theorem dd_Planner_planConstant_32 : decode prog_9_method_12_code 32 = .ok (.iload_n 2, 1) := by decide +kernel
theorem dd_Planner_planConstant_33 : decode prog_9_method_12_code 33 = .ok (.lload_n 3, 1) := by decide +kernel
theorem dd_Planner_planConstant_34 : decode prog_9_method_12_code 34 = .ok (.lconst 0, 1) := by decide +kernel
theorem dd_Planner_planConstant_35 : decode prog_9_method_12_code 35 = .ok (.lcmp, 1) := by decide +kernel
theorem dd_Planner_planConstant_36 : decode prog_9_method_12_code 36 = .ok (.ifCond .lt 18, 3) := by decide +kernel
theorem dd_Planner_planConstant_39 : decode prog_9_method_12_code 39 = .ok (.aload_n 0, 1) := by decide +kernel
theorem dd_Planner_planConstant_40 : decode prog_9_method_12_code 40 = .ok (.getfield 25, 3) := by decide +kernel
theorem dd_Planner_planConstant_43 : decode prog_9_method_12_code 43 = .ok (.aload_n 1, 1) := by decide +kernel
theorem dd_Planner_planConstant_44 : decode prog_9_method_12_code 44 = .ok (.getfield 85, 3) := by decide +kernel
theorem dd_Planner_planConstant_47 : decode prog_9_method_12_code 47 = .ok (.lload_n 3, 1) := by decide +kernel
theorem dd_Planner_planConstant_48 : decode prog_9_method_12_code 48 = .ok (.invokevirtual 126, 3) := by decide +kernel
theorem dd_Planner_planConstant_51 : decode prog_9_method_12_code 51 = .ok (.goto 5, 3) := by decide +kernel
theorem dd_Planner_planConstant_54 : decode prog_9_method_12_code 54 = .ok (.lload_n 3, 1) := by decide +kernel
theorem dd_Planner_planConstant_55 : decode prog_9_method_12_code 55 = .ok (.l2i, 1) := by decide +kernel
theorem dd_Planner_planConstant_56 : decode prog_9_method_12_code 56 = .ok (.iastore, 1) := by decide +kernel
theorem dd_Planner_planConstant_57 : decode prog_9_method_12_code 57 = .ok (.iconst 0, 1) := by decide +kernel
theorem dd_Planner_planConstant_58 : decode prog_9_method_12_code 58 = .ok (.ireturn, 1) := by decide +kernel
theorem dd_Planner_becoming_0 : decode prog_9_method_13_code 0 = .ok (.aload_n 1, 1) := by decide +kernel
theorem dd_Planner_becoming_1 : decode prog_9_method_13_code 1 = .ok (.iconst 5, 1) := by decide +kernel
theorem dd_Planner_becoming_2 : decode prog_9_method_13_code 2 = .ok (.iload_n 2, 1) := by decide +kernel
theorem dd_Planner_becoming_3 : decode prog_9_method_13_code 3 = .ok (.invokevirtual 152, 3) := by decide +kernel
theorem dd_Planner_becoming_6 : decode prog_9_method_13_code 6 = .ok (.istore_n 3, 1) := by decide +kernel
theorem dd_Planner_becoming_7 : decode prog_9_method_13_code 7 = .ok (.iload_n 3, 1) := by decide +kernel
theorem dd_Planner_becoming_8 : decode prog_9_method_13_code 8 = .ok (.iconst (-1), 1) := by decide +kernel
theorem dd_Planner_becoming_9 : decode prog_9_method_13_code 9 = .ok (.if_icmp .eq 10, 3) := by decide +kernel
theorem dd_Planner_becoming_12 : decode prog_9_method_13_code 12 = .ok (.aload_n 1, 1) := by decide +kernel
theorem dd_Planner_becoming_13 : decode prog_9_method_13_code 13 = .ok (.getfield 77, 3) := by decide +kernel
theorem dd_Planner_becoming_16 : decode prog_9_method_13_code 16 = .ok (.iload_n 3, 1) := by decide +kernel
theorem dd_Planner_becoming_17 : decode prog_9_method_13_code 17 = .ok (.laload, 1) := by decide +kernel
theorem dd_Planner_becoming_18 : decode prog_9_method_13_code 18 = .ok (.lreturn, 1) := by decide +kernel
theorem dd_Planner_becoming_19 : decode prog_9_method_13_code 19 = .ok (.aload_n 0, 1) := by decide +kernel
theorem dd_Planner_becoming_20 : decode prog_9_method_13_code 20 = .ok (.aload_n 1, 1) := by decide +kernel
theorem dd_Planner_becoming_21 : decode prog_9_method_13_code 21 = .ok (.iload_n 2, 1) := by decide +kernel
theorem dd_Planner_becoming_22 : decode prog_9_method_13_code 22 = .ok (.invokevirtual 211, 3) := by decide +kernel
theorem dd_Planner_becoming_25 : decode prog_9_method_13_code 25 = .ok (.istore 4, 2) := by decide +kernel
theorem dd_Planner_becoming_27 : decode prog_9_method_13_code 27 = .ok (.iload 4, 2) := by decide +kernel
theorem dd_Planner_becoming_29 : decode prog_9_method_13_code 29 = .ok (.iconst (-1), 1) := by decide +kernel
theorem dd_Planner_becoming_30 : decode prog_9_method_13_code 30 = .ok (.if_icmp .eq 7, 3) := by decide +kernel
theorem dd_Planner_becoming_33 : decode prog_9_method_13_code 33 = .ok (.iload 4, 2) := by decide +kernel
theorem dd_Planner_becoming_35 : decode prog_9_method_13_code 35 = .ok (.i2l, 1) := by decide +kernel
theorem dd_Planner_becoming_36 : decode prog_9_method_13_code 36 = .ok (.lreturn, 1) := by decide +kernel
theorem dd_Planner_becoming_37 : decode prog_9_method_13_code 37 = .ok (.aload_n 0, 1) := by decide +kernel
theorem dd_Planner_becoming_38 : decode prog_9_method_13_code 38 = .ok (.getfield 25, 3) := by decide +kernel
theorem dd_Planner_becoming_41 : decode prog_9_method_13_code 41 = .ok (.aload_n 1, 1) := by decide +kernel
theorem dd_Planner_becoming_42 : decode prog_9_method_13_code 42 = .ok (.getfield 85, 3) := by decide +kernel
theorem dd_Planner_becoming_45 : decode prog_9_method_13_code 45 = .ok (.iload_n 2, 1) := by decide +kernel
theorem dd_Planner_becoming_46 : decode prog_9_method_13_code 46 = .ok (.i2l, 1) := by decide +kernel
theorem dd_Planner_becoming_47 : decode prog_9_method_13_code 47 = .ok (.invokevirtual 126, 3) := by decide +kernel
theorem dd_Planner_becoming_50 : decode prog_9_method_13_code 50 = .ok (.iconst (-1), 1) := by decide +kernel
theorem dd_Planner_becoming_51 : decode prog_9_method_13_code 51 = .ok (.if_icmp .eq 6, 3) := by decide +kernel
theorem dd_Planner_becoming_54 : decode prog_9_method_13_code 54 = .ok (.iload_n 2, 1) := by decide +kernel
theorem dd_Planner_becoming_55 : decode prog_9_method_13_code 55 = .ok (.i2l, 1) := by decide +kernel
theorem dd_Planner_becoming_56 : decode prog_9_method_13_code 56 = .ok (.lreturn, 1) := by decide +kernel
theorem dd_Planner_becoming_57 : decode prog_9_method_13_code 57 = .ok (.aload_n 1, 1) := by decide +kernel
theorem dd_Planner_becoming_58 : decode prog_9_method_13_code 58 = .ok (.bipush 6, 2) := by decide +kernel
theorem dd_Planner_becoming_60 : decode prog_9_method_13_code 60 = .ok (.invokevirtual 73, 3) := by decide +kernel
theorem dd_Planner_becoming_63 : decode prog_9_method_13_code 63 = .ok (.istore 5, 2) := by decide +kernel
theorem dd_Planner_becoming_65 : decode prog_9_method_13_code 65 = .ok (.iload 5, 2) := by decide +kernel
theorem dd_Planner_becoming_67 : decode prog_9_method_13_code 67 = .ok (.iconst (-1), 1) := by decide +kernel
theorem dd_Planner_becoming_68 : decode prog_9_method_13_code 68 = .ok (.if_icmp .ne 9, 3) := by decide +kernel
theorem dd_Planner_becoming_71 : decode prog_9_method_13_code 71 = .ok (.ldc2_w 206, 3) := by decide +kernel
theorem dd_Planner_becoming_74 : decode prog_9_method_13_code 74 = .ok (.goto 10, 3) := by decide +kernel
theorem dd_Planner_becoming_77 : decode prog_9_method_13_code 77 = .ok (.aload_n 1, 1) := by decide +kernel
theorem dd_Planner_becoming_78 : decode prog_9_method_13_code 78 = .ok (.getfield 77, 3) := by decide +kernel
theorem dd_Planner_becoming_81 : decode prog_9_method_13_code 81 = .ok (.iload 5, 2) := by decide +kernel
theorem dd_Planner_becoming_83 : decode prog_9_method_13_code 83 = .ok (.laload, 1) := by decide +kernel
theorem dd_Planner_becoming_84 : decode prog_9_method_13_code 84 = .ok (.lreturn, 1) := by decide +kernel
theorem dd_Planner_inverseConstant_0 : decode prog_9_method_14_code 0 = .ok (.aload_n 0, 1) := by decide +kernel
theorem dd_Planner_inverseConstant_1 : decode prog_9_method_14_code 1 = .ok (.getfield 29, 3) := by decide +kernel
theorem dd_Planner_inverseConstant_4 : decode prog_9_method_14_code 4 = .ok (.aload_n 1, 1) := by decide +kernel
theorem dd_Planner_inverseConstant_5 : decode prog_9_method_14_code 5 = .ok (.getfield 109, 3) := by decide +kernel
theorem dd_Planner_inverseConstant_8 : decode prog_9_method_14_code 8 = .ok (.i2l, 1) := by decide +kernel
theorem dd_Planner_inverseConstant_9 : decode prog_9_method_14_code 9 = .ok (.invokevirtual 112, 3) := by decide +kernel
theorem dd_Planner_inverseConstant_12 : decode prog_9_method_14_code 12 = .ok (.ifCond .ne 5, 3) := by decide +kernel
theorem dd_Planner_inverseConstant_15 : decode prog_9_method_14_code 15 = .ok (.iconst (-1), 1) := by decide +kernel
theorem dd_Planner_inverseConstant_16 : decode prog_9_method_14_code 16 = .ok (.ireturn, 1) := by decide +kernel
theorem dd_Planner_inverseConstant_17 : decode prog_9_method_14_code 17 = .ok (.aload_n 0, 1) := by decide +kernel
theorem dd_Planner_inverseConstant_18 : decode prog_9_method_14_code 18 = .ok (.getfield 29, 3) := by decide +kernel
theorem dd_Planner_inverseConstant_21 : decode prog_9_method_14_code 21 = .ok (.getfield 48, 3) := by decide +kernel
theorem dd_Planner_inverseConstant_24 : decode prog_9_method_14_code 24 = .ok (.aload_n 1, 1) := by decide +kernel
theorem dd_Planner_inverseConstant_25 : decode prog_9_method_14_code 25 = .ok (.getfield 109, 3) := by decide +kernel
theorem dd_Planner_inverseConstant_28 : decode prog_9_method_14_code 28 = .ok (.aaload, 1) := by decide +kernel
theorem dd_Planner_inverseConstant_29 : decode prog_9_method_14_code 29 = .ok (.astore_n 3, 1) := by decide +kernel
theorem dd_Planner_inverseConstant_30 : decode prog_9_method_14_code 30 = .ok (.iconst 0, 1) := by decide +kernel
theorem dd_Planner_inverseConstant_31 : decode prog_9_method_14_code 31 = .ok (.istore 4, 2) := by decide +kernel
theorem dd_Planner_inverseConstant_33 : decode prog_9_method_14_code 33 = .ok (.iload 4, 2) := by decide +kernel
theorem dd_Planner_inverseConstant_35 : decode prog_9_method_14_code 35 = .ok (.aload_n 3, 1) := by decide +kernel
theorem dd_Planner_inverseConstant_36 : decode prog_9_method_14_code 36 = .ok (.getfield 60, 3) := by decide +kernel
theorem dd_Planner_inverseConstant_39 : decode prog_9_method_14_code 39 = .ok (.if_icmp .ge 67, 3) := by decide +kernel
theorem dd_Planner_inverseConstant_42 : decode prog_9_method_14_code 42 = .ok (.aload_n 3, 1) := by decide +kernel
theorem dd_Planner_inverseConstant_43 : decode prog_9_method_14_code 43 = .ok (.getfield 116, 3) := by decide +kernel
theorem dd_Planner_inverseConstant_46 : decode prog_9_method_14_code 46 = .ok (.iload 4, 2) := by decide +kernel
theorem dd_Planner_inverseConstant_48 : decode prog_9_method_14_code 48 = .ok (.iaload, 1) := by decide +kernel
theorem dd_Planner_inverseConstant_49 : decode prog_9_method_14_code 49 = .ok (.iconst 5, 1) := by decide +kernel
theorem dd_Planner_inverseConstant_50 : decode prog_9_method_14_code 50 = .ok (.if_icmp .ne 50, 3) := by decide +kernel
theorem dd_Planner_inverseConstant_53 : decode prog_9_method_14_code 53 = .ok (.aload_n 3, 1) := by decide +kernel
theorem dd_Planner_inverseConstant_54 : decode prog_9_method_14_code 54 = .ok (.getfield 77, 3) := by decide +kernel
theorem dd_Planner_inverseConstant_57 : decode prog_9_method_14_code 57 = .ok (.iload 4, 2) := by decide +kernel
theorem dd_Planner_inverseConstant_59 : decode prog_9_method_14_code 59 = .ok (.laload, 1) := by decide +kernel
theorem dd_Planner_inverseConstant_60 : decode prog_9_method_14_code 60 = .ok (.iload_n 2, 1) := by decide +kernel
theorem dd_Planner_inverseConstant_61 : decode prog_9_method_14_code 61 = .ok (.i2l, 1) := by decide +kernel
theorem dd_Planner_inverseConstant_62 : decode prog_9_method_14_code 62 = .ok (.lcmp, 1) := by decide +kernel
theorem dd_Planner_inverseConstant_63 : decode prog_9_method_14_code 63 = .ok (.ifCond .ne 37, 3) := by decide +kernel
theorem dd_Planner_inverseConstant_66 : decode prog_9_method_14_code 66 = .ok (.aload_n 3, 1) := by decide +kernel
theorem dd_Planner_inverseConstant_67 : decode prog_9_method_14_code 67 = .ok (.getfield 120, 3) := by decide +kernel
theorem dd_Planner_inverseConstant_70 : decode prog_9_method_14_code 70 = .ok (.iload 4, 2) := by decide +kernel
theorem dd_Planner_inverseConstant_72 : decode prog_9_method_14_code 72 = .ok (.iaload, 1) := by decide +kernel
theorem dd_Planner_inverseConstant_73 : decode prog_9_method_14_code 73 = .ok (.istore 5, 2) := by decide +kernel
theorem dd_Planner_inverseConstant_75 : decode prog_9_method_14_code 75 = .ok (.aload_n 0, 1) := by decide +kernel
theorem dd_Planner_inverseConstant_76 : decode prog_9_method_14_code 76 = .ok (.getfield 25, 3) := by decide +kernel
theorem dd_Planner_inverseConstant_79 : decode prog_9_method_14_code 79 = .ok (.aload_n 1, 1) := by decide +kernel
theorem dd_Planner_inverseConstant_80 : decode prog_9_method_14_code 80 = .ok (.getfield 85, 3) := by decide +kernel
theorem dd_Planner_inverseConstant_83 : decode prog_9_method_14_code 83 = .ok (.iload 5, 2) := by decide +kernel
theorem dd_Planner_inverseConstant_85 : decode prog_9_method_14_code 85 = .ok (.i2l, 1) := by decide +kernel
theorem dd_Planner_inverseConstant_86 : decode prog_9_method_14_code 86 = .ok (.invokevirtual 126, 3) := by decide +kernel
theorem dd_Planner_inverseConstant_89 : decode prog_9_method_14_code 89 = .ok (.iconst (-1), 1) := by decide +kernel
theorem dd_Planner_inverseConstant_90 : decode prog_9_method_14_code 90 = .ok (.if_icmp .eq 8, 3) := by decide +kernel
theorem dd_Planner_inverseConstant_93 : decode prog_9_method_14_code 93 = .ok (.iload 5, 2) := by decide +kernel
theorem dd_Planner_inverseConstant_95 : decode prog_9_method_14_code 95 = .ok (.goto 4, 3) := by decide +kernel
theorem dd_Planner_inverseConstant_98 : decode prog_9_method_14_code 98 = .ok (.iconst (-1), 1) := by decide +kernel
theorem dd_Planner_inverseConstant_99 : decode prog_9_method_14_code 99 = .ok (.ireturn, 1) := by decide +kernel
theorem dd_Planner_inverseConstant_100 : decode prog_9_method_14_code 100 = .ok (.iinc 4 1, 3) := by decide +kernel
theorem dd_Planner_inverseConstant_103 : decode prog_9_method_14_code 103 = .ok (.goto (-70), 3) := by decide +kernel
theorem dd_Planner_inverseConstant_106 : decode prog_9_method_14_code 106 = .ok (.iconst (-1), 1) := by decide +kernel
theorem dd_Planner_inverseConstant_107 : decode prog_9_method_14_code 107 = .ok (.ireturn, 1) := by decide +kernel
theorem dd_Store_init_0 : decode prog_10_method_1_code 0 = .ok (.aload_n 0, 1) := by decide +kernel
theorem dd_Store_init_1 : decode prog_10_method_1_code 1 = .ok (.invokespecial 3, 3) := by decide +kernel
theorem dd_Store_init_4 : decode prog_10_method_1_code 4 = .ok (.aload_n 0, 1) := by decide +kernel
theorem dd_Store_init_5 : decode prog_10_method_1_code 5 = .ok (.sipush 400, 3) := by decide +kernel
theorem dd_Store_init_8 : decode prog_10_method_1_code 8 = .ok (.newarray .int, 2) := by decide +kernel
theorem dd_Store_init_10 : decode prog_10_method_1_code 10 = .ok (.putfield 9, 3) := by decide +kernel
theorem dd_Store_init_13 : decode prog_10_method_1_code 13 = .ok (.aload_n 0, 1) := by decide +kernel
theorem dd_Store_init_14 : decode prog_10_method_1_code 14 = .ok (.sipush 400, 3) := by decide +kernel
theorem dd_Store_init_17 : decode prog_10_method_1_code 17 = .ok (.newarray .int, 2) := by decide +kernel
theorem dd_Store_init_19 : decode prog_10_method_1_code 19 = .ok (.putfield 15, 3) := by decide +kernel
theorem dd_Store_init_22 : decode prog_10_method_1_code 22 = .ok (.aload_n 0, 1) := by decide +kernel
theorem dd_Store_init_23 : decode prog_10_method_1_code 23 = .ok (.sipush 9600, 3) := by decide +kernel
theorem dd_Store_init_26 : decode prog_10_method_1_code 26 = .ok (.newarray .long, 2) := by decide +kernel
theorem dd_Store_init_28 : decode prog_10_method_1_code 28 = .ok (.putfield 18, 3) := by decide +kernel
theorem dd_Store_init_31 : decode prog_10_method_1_code 31 = .ok (.aload_n 0, 1) := by decide +kernel
theorem dd_Store_init_32 : decode prog_10_method_1_code 32 = .ok (.aload_n 1, 1) := by decide +kernel
theorem dd_Store_init_33 : decode prog_10_method_1_code 33 = .ok (.putfield 22, 3) := by decide +kernel
theorem dd_Store_init_36 : decode prog_10_method_1_code 36 = .ok (.return_, 1) := by decide +kernel
theorem dd_Store_size_0 : decode prog_10_method_2_code 0 = .ok (.aload_n 0, 1) := by decide +kernel
theorem dd_Store_size_1 : decode prog_10_method_2_code 1 = .ok (.getfield 26, 3) := by decide +kernel
theorem dd_Store_size_4 : decode prog_10_method_2_code 4 = .ok (.ireturn, 1) := by decide +kernel
theorem dd_Store_isFull_0 : decode prog_10_method_3_code 0 = .ok (.aload_n 0, 1) := by decide +kernel
theorem dd_Store_isFull_1 : decode prog_10_method_3_code 1 = .ok (.getfield 26, 3) := by decide +kernel
theorem dd_Store_isFull_4 : decode prog_10_method_3_code 4 = .ok (.sipush 400, 3) := by decide +kernel
theorem dd_Store_isFull_7 : decode prog_10_method_3_code 7 = .ok (.if_icmp .lt 7, 3) := by decide +kernel
theorem dd_Store_isFull_10 : decode prog_10_method_3_code 10 = .ok (.iconst 1, 1) := by decide +kernel
theorem dd_Store_isFull_11 : decode prog_10_method_3_code 11 = .ok (.goto 4, 3) := by decide +kernel
theorem dd_Store_isFull_14 : decode prog_10_method_3_code 14 = .ok (.iconst 0, 1) := by decide +kernel
theorem dd_Store_isFull_15 : decode prog_10_method_3_code 15 = .ok (.ireturn, 1) := by decide +kernel
theorem dd_Store_forget_0 : decode prog_10_method_4_code 0 = .ok (.aload_n 0, 1) := by decide +kernel
theorem dd_Store_forget_1 : decode prog_10_method_4_code 1 = .ok (.iload_n 1, 1) := by decide +kernel
theorem dd_Store_forget_2 : decode prog_10_method_4_code 2 = .ok (.putfield 26, 3) := by decide +kernel
theorem dd_Store_forget_5 : decode prog_10_method_4_code 5 = .ok (.return_, 1) := by decide +kernel
theorem dd_Store_has_0 : decode prog_10_method_5_code 0 = .ok (.lload_n 1, 1) := by decide +kernel
theorem dd_Store_has_1 : decode prog_10_method_5_code 1 = .ok (.lconst 0, 1) := by decide +kernel
theorem dd_Store_has_2 : decode prog_10_method_5_code 2 = .ok (.lcmp, 1) := by decide +kernel
theorem dd_Store_has_3 : decode prog_10_method_5_code 3 = .ok (.ifCond .lt 17, 3) := by decide +kernel
theorem dd_Store_has_6 : decode prog_10_method_5_code 6 = .ok (.lload_n 1, 1) := by decide +kernel
theorem dd_Store_has_7 : decode prog_10_method_5_code 7 = .ok (.aload_n 0, 1) := by decide +kernel
theorem dd_Store_has_8 : decode prog_10_method_5_code 8 = .ok (.getfield 26, 3) := by decide +kernel
theorem dd_Store_has_11 : decode prog_10_method_5_code 11 = .ok (.i2l, 1) := by decide +kernel
theorem dd_Store_has_12 : decode prog_10_method_5_code 12 = .ok (.lcmp, 1) := by decide +kernel
theorem dd_Store_has_13 : decode prog_10_method_5_code 13 = .ok (.ifCond .ge 7, 3) := by decide +kernel
theorem dd_Store_has_16 : decode prog_10_method_5_code 16 = .ok (.iconst 1, 1) := by decide +kernel
theorem dd_Store_has_17 : decode prog_10_method_5_code 17 = .ok (.goto 4, 3) := by decide +kernel
theorem dd_Store_has_20 : decode prog_10_method_5_code 20 = .ok (.iconst 0, 1) := by decide +kernel
theorem dd_Store_has_21 : decode prog_10_method_5_code 21 = .ok (.ireturn, 1) := by decide +kernel
theorem dd_Store_typeOf_0 : decode prog_10_method_6_code 0 = .ok (.iload_n 1, 1) := by decide +kernel
theorem dd_Store_typeOf_1 : decode prog_10_method_6_code 1 = .ok (.ifCond .lt 20, 3) := by decide +kernel
theorem dd_Store_typeOf_4 : decode prog_10_method_6_code 4 = .ok (.iload_n 1, 1) := by decide +kernel
theorem dd_Store_typeOf_5 : decode prog_10_method_6_code 5 = .ok (.aload_n 0, 1) := by decide +kernel
theorem dd_Store_typeOf_6 : decode prog_10_method_6_code 6 = .ok (.getfield 26, 3) := by decide +kernel
theorem dd_Store_typeOf_9 : decode prog_10_method_6_code 9 = .ok (.if_icmp .ge 12, 3) := by decide +kernel
theorem dd_Store_typeOf_12 : decode prog_10_method_6_code 12 = .ok (.aload_n 0, 1) := by decide +kernel
theorem dd_Store_typeOf_13 : decode prog_10_method_6_code 13 = .ok (.getfield 9, 3) := by decide +kernel
theorem dd_Store_typeOf_16 : decode prog_10_method_6_code 16 = .ok (.iload_n 1, 1) := by decide +kernel
theorem dd_Store_typeOf_17 : decode prog_10_method_6_code 17 = .ok (.iaload, 1) := by decide +kernel
theorem dd_Store_typeOf_18 : decode prog_10_method_6_code 18 = .ok (.goto 4, 3) := by decide +kernel
theorem dd_Store_typeOf_21 : decode prog_10_method_6_code 21 = .ok (.iconst (-1), 1) := by decide +kernel
theorem dd_Store_typeOf_22 : decode prog_10_method_6_code 22 = .ok (.ireturn, 1) := by decide +kernel
theorem dd_Store_length_0 : decode prog_10_method_7_code 0 = .ok (.iload_n 1, 1) := by decide +kernel
theorem dd_Store_length_1 : decode prog_10_method_7_code 1 = .ok (.ifCond .lt 20, 3) := by decide +kernel
theorem dd_Store_length_4 : decode prog_10_method_7_code 4 = .ok (.iload_n 1, 1) := by decide +kernel
theorem dd_Store_length_5 : decode prog_10_method_7_code 5 = .ok (.aload_n 0, 1) := by decide +kernel
theorem dd_Store_length_6 : decode prog_10_method_7_code 6 = .ok (.getfield 26, 3) := by decide +kernel
theorem dd_Store_length_9 : decode prog_10_method_7_code 9 = .ok (.if_icmp .ge 12, 3) := by decide +kernel
theorem dd_Store_length_12 : decode prog_10_method_7_code 12 = .ok (.aload_n 0, 1) := by decide +kernel
theorem dd_Store_length_13 : decode prog_10_method_7_code 13 = .ok (.getfield 15, 3) := by decide +kernel
theorem dd_Store_length_16 : decode prog_10_method_7_code 16 = .ok (.iload_n 1, 1) := by decide +kernel
theorem dd_Store_length_17 : decode prog_10_method_7_code 17 = .ok (.iaload, 1) := by decide +kernel
theorem dd_Store_length_18 : decode prog_10_method_7_code 18 = .ok (.goto 4, 3) := by decide +kernel
theorem dd_Store_length_21 : decode prog_10_method_7_code 21 = .ok (.iconst 0, 1) := by decide +kernel
theorem dd_Store_length_22 : decode prog_10_method_7_code 22 = .ok (.ireturn, 1) := by decide +kernel
theorem dd_Store_hasPlace_0 : decode prog_10_method_8_code 0 = .ok (.iload_n 1, 1) := by decide +kernel
theorem dd_Store_hasPlace_1 : decode prog_10_method_8_code 1 = .ok (.ifCond .lt 29, 3) := by decide +kernel
theorem dd_Store_hasPlace_4 : decode prog_10_method_8_code 4 = .ok (.iload_n 1, 1) := by decide +kernel
theorem dd_Store_hasPlace_5 : decode prog_10_method_8_code 5 = .ok (.aload_n 0, 1) := by decide +kernel
theorem dd_Store_hasPlace_6 : decode prog_10_method_8_code 6 = .ok (.getfield 26, 3) := by decide +kernel
theorem dd_Store_hasPlace_9 : decode prog_10_method_8_code 9 = .ok (.if_icmp .ge 21, 3) := by decide +kernel
theorem dd_Store_hasPlace_12 : decode prog_10_method_8_code 12 = .ok (.iload_n 2, 1) := by decide +kernel
theorem dd_Store_hasPlace_13 : decode prog_10_method_8_code 13 = .ok (.ifCond .lt 17, 3) := by decide +kernel
theorem dd_Store_hasPlace_16 : decode prog_10_method_8_code 16 = .ok (.iload_n 2, 1) := by decide +kernel
theorem dd_Store_hasPlace_17 : decode prog_10_method_8_code 17 = .ok (.aload_n 0, 1) := by decide +kernel
theorem dd_Store_hasPlace_18 : decode prog_10_method_8_code 18 = .ok (.getfield 15, 3) := by decide +kernel
theorem dd_Store_hasPlace_21 : decode prog_10_method_8_code 21 = .ok (.iload_n 1, 1) := by decide +kernel
theorem dd_Store_hasPlace_22 : decode prog_10_method_8_code 22 = .ok (.iaload, 1) := by decide +kernel
theorem dd_Store_hasPlace_23 : decode prog_10_method_8_code 23 = .ok (.if_icmp .ge 7, 3) := by decide +kernel
theorem dd_Store_hasPlace_26 : decode prog_10_method_8_code 26 = .ok (.iconst 1, 1) := by decide +kernel
theorem dd_Store_hasPlace_27 : decode prog_10_method_8_code 27 = .ok (.goto 4, 3) := by decide +kernel
theorem dd_Store_hasPlace_30 : decode prog_10_method_8_code 30 = .ok (.iconst 0, 1) := by decide +kernel
theorem dd_Store_hasPlace_31 : decode prog_10_method_8_code 31 = .ok (.ireturn, 1) := by decide +kernel
theorem dd_Store_cell_0 : decode prog_10_method_9_code 0 = .ok (.iload_n 1, 1) := by decide +kernel
theorem dd_Store_cell_1 : decode prog_10_method_9_code 1 = .ok (.ifCond .lt 29, 3) := by decide +kernel
theorem dd_Store_cell_4 : decode prog_10_method_9_code 4 = .ok (.iload_n 1, 1) := by decide +kernel
theorem dd_Store_cell_5 : decode prog_10_method_9_code 5 = .ok (.aload_n 0, 1) := by decide +kernel
theorem dd_Store_cell_6 : decode prog_10_method_9_code 6 = .ok (.getfield 26, 3) := by decide +kernel
theorem dd_Store_cell_9 : decode prog_10_method_9_code 9 = .ok (.if_icmp .ge 21, 3) := by decide +kernel
theorem dd_Store_cell_12 : decode prog_10_method_9_code 12 = .ok (.iload_n 2, 1) := by decide +kernel
theorem dd_Store_cell_13 : decode prog_10_method_9_code 13 = .ok (.ifCond .lt 17, 3) := by decide +kernel
theorem dd_Store_cell_16 : decode prog_10_method_9_code 16 = .ok (.iload_n 2, 1) := by decide +kernel
theorem dd_Store_cell_17 : decode prog_10_method_9_code 17 = .ok (.aload_n 0, 1) := by decide +kernel
theorem dd_Store_cell_18 : decode prog_10_method_9_code 18 = .ok (.getfield 15, 3) := by decide +kernel
theorem dd_Store_cell_21 : decode prog_10_method_9_code 21 = .ok (.iload_n 1, 1) := by decide +kernel
theorem dd_Store_cell_22 : decode prog_10_method_9_code 22 = .ok (.iaload, 1) := by decide +kernel
theorem dd_Store_cell_23 : decode prog_10_method_9_code 23 = .ok (.if_icmp .ge 7, 3) := by decide +kernel
theorem dd_Store_cell_26 : decode prog_10_method_9_code 26 = .ok (.iconst 1, 1) := by decide +kernel
theorem dd_Store_cell_27 : decode prog_10_method_9_code 27 = .ok (.goto 4, 3) := by decide +kernel
theorem dd_Store_cell_30 : decode prog_10_method_9_code 30 = .ok (.iconst 0, 1) := by decide +kernel
theorem dd_Store_cell_31 : decode prog_10_method_9_code 31 = .ok (.istore_n 3, 1) := by decide +kernel
theorem dd_Store_cell_32 : decode prog_10_method_9_code 32 = .ok (.iload_n 3, 1) := by decide +kernel
theorem dd_Store_cell_33 : decode prog_10_method_9_code 33 = .ok (.ifCond .eq 17, 3) := by decide +kernel
theorem dd_Store_cell_36 : decode prog_10_method_9_code 36 = .ok (.aload_n 0, 1) := by decide +kernel
theorem dd_Store_cell_37 : decode prog_10_method_9_code 37 = .ok (.getfield 18, 3) := by decide +kernel
theorem dd_Store_cell_40 : decode prog_10_method_9_code 40 = .ok (.iload_n 1, 1) := by decide +kernel
theorem dd_Store_cell_41 : decode prog_10_method_9_code 41 = .ok (.bipush 24, 2) := by decide +kernel
theorem dd_Store_cell_43 : decode prog_10_method_9_code 43 = .ok (.imul, 1) := by decide +kernel
theorem dd_Store_cell_44 : decode prog_10_method_9_code 44 = .ok (.iload_n 2, 1) := by decide +kernel
theorem dd_Store_cell_45 : decode prog_10_method_9_code 45 = .ok (.iadd, 1) := by decide +kernel
theorem dd_Store_cell_46 : decode prog_10_method_9_code 46 = .ok (.laload, 1) := by decide +kernel
theorem dd_Store_cell_47 : decode prog_10_method_9_code 47 = .ok (.goto 4, 3) := by decide +kernel
theorem dd_Store_cell_50 : decode prog_10_method_9_code 50 = .ok (.lconst 0, 1) := by decide +kernel
theorem dd_Store_cell_51 : decode prog_10_method_9_code 51 = .ok (.lreturn, 1) := by decide +kernel
theorem dd_Store_set_0 : decode prog_10_method_10_code 0 = .ok (.iload_n 1, 1) := by decide +kernel
theorem dd_Store_set_1 : decode prog_10_method_10_code 1 = .ok (.ifCond .lt 29, 3) := by decide +kernel
theorem dd_Store_set_4 : decode prog_10_method_10_code 4 = .ok (.iload_n 1, 1) := by decide +kernel
theorem dd_Store_set_5 : decode prog_10_method_10_code 5 = .ok (.aload_n 0, 1) := by decide +kernel
theorem dd_Store_set_6 : decode prog_10_method_10_code 6 = .ok (.getfield 26, 3) := by decide +kernel
theorem dd_Store_set_9 : decode prog_10_method_10_code 9 = .ok (.if_icmp .ge 21, 3) := by decide +kernel
theorem dd_Store_set_12 : decode prog_10_method_10_code 12 = .ok (.iload_n 2, 1) := by decide +kernel
theorem dd_Store_set_13 : decode prog_10_method_10_code 13 = .ok (.ifCond .lt 17, 3) := by decide +kernel
theorem dd_Store_set_16 : decode prog_10_method_10_code 16 = .ok (.iload_n 2, 1) := by decide +kernel
theorem dd_Store_set_17 : decode prog_10_method_10_code 17 = .ok (.aload_n 0, 1) := by decide +kernel
theorem dd_Store_set_18 : decode prog_10_method_10_code 18 = .ok (.getfield 15, 3) := by decide +kernel
theorem dd_Store_set_21 : decode prog_10_method_10_code 21 = .ok (.iload_n 1, 1) := by decide +kernel
theorem dd_Store_set_22 : decode prog_10_method_10_code 22 = .ok (.iaload, 1) := by decide +kernel
theorem dd_Store_set_23 : decode prog_10_method_10_code 23 = .ok (.if_icmp .ge 7, 3) := by decide +kernel
theorem dd_Store_set_26 : decode prog_10_method_10_code 26 = .ok (.iconst 1, 1) := by decide +kernel
theorem dd_Store_set_27 : decode prog_10_method_10_code 27 = .ok (.goto 4, 3) := by decide +kernel
theorem dd_Store_set_30 : decode prog_10_method_10_code 30 = .ok (.iconst 0, 1) := by decide +kernel
theorem dd_Store_set_31 : decode prog_10_method_10_code 31 = .ok (.istore 5, 2) := by decide +kernel
theorem dd_Store_set_33 : decode prog_10_method_10_code 33 = .ok (.iload 5, 2) := by decide +kernel
theorem dd_Store_set_35 : decode prog_10_method_10_code 35 = .ok (.ifCond .eq 15, 3) := by decide +kernel
theorem dd_Store_set_38 : decode prog_10_method_10_code 38 = .ok (.aload_n 0, 1) := by decide +kernel
theorem dd_Store_set_39 : decode prog_10_method_10_code 39 = .ok (.getfield 18, 3) := by decide +kernel
theorem dd_Store_set_42 : decode prog_10_method_10_code 42 = .ok (.iload_n 1, 1) := by decide +kernel
theorem dd_Store_set_43 : decode prog_10_method_10_code 43 = .ok (.bipush 24, 2) := by decide +kernel
theorem dd_Store_set_45 : decode prog_10_method_10_code 45 = .ok (.imul, 1) := by decide +kernel
theorem dd_Store_set_46 : decode prog_10_method_10_code 46 = .ok (.iload_n 2, 1) := by decide +kernel
theorem dd_Store_set_47 : decode prog_10_method_10_code 47 = .ok (.iadd, 1) := by decide +kernel
theorem dd_Store_set_48 : decode prog_10_method_10_code 48 = .ok (.lload_n 3, 1) := by decide +kernel
theorem dd_Store_set_49 : decode prog_10_method_10_code 49 = .ok (.lastore, 1) := by decide +kernel
theorem dd_Store_set_50 : decode prog_10_method_10_code 50 = .ok (.iload 5, 2) := by decide +kernel
theorem dd_Store_set_52 : decode prog_10_method_10_code 52 = .ok (.ireturn, 1) := by decide +kernel
theorem dd_Store_append_0 : decode prog_10_method_11_code 0 = .ok (.iload_n 1, 1) := by decide +kernel
theorem dd_Store_append_1 : decode prog_10_method_11_code 1 = .ok (.ifCond .lt 22, 3) := by decide +kernel
theorem dd_Store_append_4 : decode prog_10_method_11_code 4 = .ok (.iload_n 1, 1) := by decide +kernel
theorem dd_Store_append_5 : decode prog_10_method_11_code 5 = .ok (.aload_n 0, 1) := by decide +kernel
theorem dd_Store_append_6 : decode prog_10_method_11_code 6 = .ok (.getfield 26, 3) := by decide +kernel
theorem dd_Store_append_9 : decode prog_10_method_11_code 9 = .ok (.if_icmp .ge 14, 3) := by decide +kernel
theorem dd_Store_append_12 : decode prog_10_method_11_code 12 = .ok (.aload_n 0, 1) := by decide +kernel
theorem dd_Store_append_13 : decode prog_10_method_11_code 13 = .ok (.getfield 15, 3) := by decide +kernel
theorem dd_Store_append_16 : decode prog_10_method_11_code 16 = .ok (.iload_n 1, 1) := by decide +kernel
theorem dd_Store_append_17 : decode prog_10_method_11_code 17 = .ok (.iaload, 1) := by decide +kernel
theorem dd_Store_append_18 : decode prog_10_method_11_code 18 = .ok (.bipush 24, 2) := by decide +kernel
theorem dd_Store_append_20 : decode prog_10_method_11_code 20 = .ok (.if_icmp .lt 5, 3) := by decide +kernel
theorem dd_Store_append_23 : decode prog_10_method_11_code 23 = .ok (.iconst 0, 1) := by decide +kernel
theorem dd_Store_append_24 : decode prog_10_method_11_code 24 = .ok (.ireturn, 1) := by decide +kernel
theorem dd_Store_append_25 : decode prog_10_method_11_code 25 = .ok (.aload_n 0, 1) := by decide +kernel
theorem dd_Store_append_26 : decode prog_10_method_11_code 26 = .ok (.getfield 18, 3) := by decide +kernel
theorem dd_Store_append_29 : decode prog_10_method_11_code 29 = .ok (.iload_n 1, 1) := by decide +kernel
theorem dd_Store_append_30 : decode prog_10_method_11_code 30 = .ok (.bipush 24, 2) := by decide +kernel
theorem dd_Store_append_32 : decode prog_10_method_11_code 32 = .ok (.imul, 1) := by decide +kernel
theorem dd_Store_append_33 : decode prog_10_method_11_code 33 = .ok (.aload_n 0, 1) := by decide +kernel
theorem dd_Store_append_34 : decode prog_10_method_11_code 34 = .ok (.getfield 15, 3) := by decide +kernel
theorem dd_Store_append_37 : decode prog_10_method_11_code 37 = .ok (.iload_n 1, 1) := by decide +kernel
theorem dd_Store_append_38 : decode prog_10_method_11_code 38 = .ok (.iaload, 1) := by decide +kernel
theorem dd_Store_append_39 : decode prog_10_method_11_code 39 = .ok (.iadd, 1) := by decide +kernel
theorem dd_Store_append_40 : decode prog_10_method_11_code 40 = .ok (.lload_n 2, 1) := by decide +kernel
theorem dd_Store_append_41 : decode prog_10_method_11_code 41 = .ok (.lastore, 1) := by decide +kernel
theorem dd_Store_append_42 : decode prog_10_method_11_code 42 = .ok (.aload_n 0, 1) := by decide +kernel
theorem dd_Store_append_43 : decode prog_10_method_11_code 43 = .ok (.getfield 15, 3) := by decide +kernel
theorem dd_Store_append_46 : decode prog_10_method_11_code 46 = .ok (.iload_n 1, 1) := by decide +kernel
theorem dd_Store_append_47 : decode prog_10_method_11_code 47 = .ok (.dup2, 1) := by decide +kernel
theorem dd_Store_append_48 : decode prog_10_method_11_code 48 = .ok (.iaload, 1) := by decide +kernel
theorem dd_Store_append_49 : decode prog_10_method_11_code 49 = .ok (.iconst 1, 1) := by decide +kernel
theorem dd_Store_append_50 : decode prog_10_method_11_code 50 = .ok (.iadd, 1) := by decide +kernel
theorem dd_Store_append_51 : decode prog_10_method_11_code 51 = .ok (.iastore, 1) := by decide +kernel
theorem dd_Store_append_52 : decode prog_10_method_11_code 52 = .ok (.iconst 1, 1) := by decide +kernel
theorem dd_Store_append_53 : decode prog_10_method_11_code 53 = .ok (.ireturn, 1) := by decide +kernel
theorem dd_Store_appendBytes_0 : decode prog_10_method_12_code 0 = .ok (.iconst 0, 1) := by decide +kernel
theorem dd_Store_appendBytes_1 : decode prog_10_method_12_code 1 = .ok (.istore 4, 2) := by decide +kernel
theorem dd_Store_appendBytes_3 : decode prog_10_method_12_code 3 = .ok (.iload 4, 2) := by decide +kernel
theorem dd_Store_appendBytes_5 : decode prog_10_method_12_code 5 = .ok (.bipush 8, 2) := by decide +kernel
theorem dd_Store_appendBytes_7 : decode prog_10_method_12_code 7 = .ok (.if_icmp .ge 38, 3) := by decide +kernel
theorem dd_Store_appendBytes_10 : decode prog_10_method_12_code 10 = .ok (.lload_n 2, 1) := by decide +kernel
theorem dd_Store_appendBytes_11 : decode prog_10_method_12_code 11 = .ok (.bipush 8, 2) := by decide +kernel
theorem dd_Store_appendBytes_13 : decode prog_10_method_12_code 13 = .ok (.iload 4, 2) := by decide +kernel
theorem dd_Store_appendBytes_15 : decode prog_10_method_12_code 15 = .ok (.imul, 1) := by decide +kernel
theorem dd_Store_appendBytes_16 : decode prog_10_method_12_code 16 = .ok (.lushr, 1) := by decide +kernel
theorem dd_Store_appendBytes_17 : decode prog_10_method_12_code 17 = .ok (.ldc2_w 30, 3) := by decide +kernel
theorem dd_Store_appendBytes_20 : decode prog_10_method_12_code 20 = .ok (.land, 1) := by decide +kernel
theorem dd_Store_appendBytes_21 : decode prog_10_method_12_code 21 = .ok (.lstore 5, 2) := by decide +kernel
theorem dd_Store_appendBytes_23 : decode prog_10_method_12_code 23 = .ok (.lload 5, 2) := by decide +kernel
theorem dd_Store_appendBytes_25 : decode prog_10_method_12_code 25 = .ok (.lconst 0, 1) := by decide +kernel
theorem dd_Store_appendBytes_26 : decode prog_10_method_12_code 26 = .ok (.lcmp, 1) := by decide +kernel
theorem dd_Store_appendBytes_27 : decode prog_10_method_12_code 27 = .ok (.ifCond .ne 4, 3) := by decide +kernel
theorem dd_Store_appendBytes_30 : decode prog_10_method_12_code 30 = .ok (.return_, 1) := by decide +kernel
theorem dd_Store_appendBytes_31 : decode prog_10_method_12_code 31 = .ok (.aload_n 0, 1) := by decide +kernel
theorem dd_Store_appendBytes_32 : decode prog_10_method_12_code 32 = .ok (.iload_n 1, 1) := by decide +kernel
theorem dd_Store_appendBytes_33 : decode prog_10_method_12_code 33 = .ok (.lload 5, 2) := by decide +kernel
theorem dd_Store_appendBytes_35 : decode prog_10_method_12_code 35 = .ok (.invokevirtual 32, 3) := by decide +kernel
theorem dd_Store_appendBytes_38 : decode prog_10_method_12_code 38 = .ok (.pop, 1) := by decide +kernel
theorem dd_Store_appendBytes_39 : decode prog_10_method_12_code 39 = .ok (.iinc 4 1, 3) := by decide +kernel
theorem dd_Store_appendBytes_42 : decode prog_10_method_12_code 42 = .ok (.goto (-39), 3) := by decide +kernel
theorem dd_Store_appendBytes_45 : decode prog_10_method_12_code 45 = .ok (.return_, 1) := by decide +kernel
theorem dd_Store_create_0 : decode prog_10_method_13_code 0 = .ok (.aload_n 0, 1) := by decide +kernel
theorem dd_Store_create_1 : decode prog_10_method_13_code 1 = .ok (.getfield 26, 3) := by decide +kernel
theorem dd_Store_create_4 : decode prog_10_method_13_code 4 = .ok (.sipush 400, 3) := by decide +kernel
theorem dd_Store_create_7 : decode prog_10_method_13_code 7 = .ok (.if_icmp .lt 5, 3) := by decide +kernel
theorem dd_Store_create_10 : decode prog_10_method_13_code 10 = .ok (.iconst (-1), 1) := by decide +kernel
theorem dd_Store_create_11 : decode prog_10_method_13_code 11 = .ok (.ireturn, 1) := by decide +kernel
theorem dd_Store_create_12 : decode prog_10_method_13_code 12 = .ok (.aload_n 0, 1) := by decide +kernel
theorem dd_Store_create_13 : decode prog_10_method_13_code 13 = .ok (.getfield 26, 3) := by decide +kernel
theorem dd_Store_create_16 : decode prog_10_method_13_code 16 = .ok (.istore_n 2, 1) := by decide +kernel
theorem dd_Store_create_17 : decode prog_10_method_13_code 17 = .ok (.aload_n 0, 1) := by decide +kernel
theorem dd_Store_create_18 : decode prog_10_method_13_code 18 = .ok (.dup, 1) := by decide +kernel
theorem dd_Store_create_19 : decode prog_10_method_13_code 19 = .ok (.getfield 26, 3) := by decide +kernel
theorem dd_Store_create_22 : decode prog_10_method_13_code 22 = .ok (.iconst 1, 1) := by decide +kernel
theorem dd_Store_create_23 : decode prog_10_method_13_code 23 = .ok (.iadd, 1) := by decide +kernel
theorem dd_Store_create_24 : decode prog_10_method_13_code 24 = .ok (.putfield 26, 3) := by decide +kernel
theorem dd_Store_create_27 : decode prog_10_method_13_code 27 = .ok (.aload_n 0, 1) := by decide +kernel
theorem dd_Store_create_28 : decode prog_10_method_13_code 28 = .ok (.getfield 9, 3) := by decide +kernel
theorem dd_Store_create_31 : decode prog_10_method_13_code 31 = .ok (.iload_n 2, 1) := by decide +kernel
theorem dd_Store_create_32 : decode prog_10_method_13_code 32 = .ok (.iload_n 1, 1) := by decide +kernel
theorem dd_Store_create_33 : decode prog_10_method_13_code 33 = .ok (.iastore, 1) := by decide +kernel
theorem dd_Store_create_34 : decode prog_10_method_13_code 34 = .ok (.aload_n 0, 1) := by decide +kernel
theorem dd_Store_create_35 : decode prog_10_method_13_code 35 = .ok (.getfield 15, 3) := by decide +kernel
theorem dd_Store_create_38 : decode prog_10_method_13_code 38 = .ok (.iload_n 2, 1) := by decide +kernel
theorem dd_Store_create_39 : decode prog_10_method_13_code 39 = .ok (.iconst 0, 1) := by decide +kernel
theorem dd_Store_create_40 : decode prog_10_method_13_code 40 = .ok (.iastore, 1) := by decide +kernel
theorem dd_Store_create_41 : decode prog_10_method_13_code 41 = .ok (.iload_n 2, 1) := by decide +kernel
theorem dd_Store_create_42 : decode prog_10_method_13_code 42 = .ok (.ireturn, 1) := by decide +kernel
theorem dd_Store_createBean_0 : decode prog_10_method_14_code 0 = .ok (.aload_n 0, 1) := by decide +kernel
theorem dd_Store_createBean_1 : decode prog_10_method_14_code 1 = .ok (.iload_n 1, 1) := by decide +kernel
theorem dd_Store_createBean_2 : decode prog_10_method_14_code 2 = .ok (.invokevirtual 36, 3) := by decide +kernel
theorem dd_Store_createBean_5 : decode prog_10_method_14_code 5 = .ok (.istore_n 2, 1) := by decide +kernel
theorem dd_Store_createBean_6 : decode prog_10_method_14_code 6 = .ok (.aload_n 0, 1) := by decide +kernel
theorem dd_Store_createBean_7 : decode prog_10_method_14_code 7 = .ok (.getfield 22, 3) := by decide +kernel
theorem dd_Store_createBean_10 : decode prog_10_method_14_code 10 = .ok (.iload_n 1, 1) := by decide +kernel
theorem dd_Store_createBean_11 : decode prog_10_method_14_code 11 = .ok (.invokevirtual 40, 3) := by decide +kernel
theorem dd_Store_createBean_14 : decode prog_10_method_14_code 14 = .ok (.istore_n 3, 1) := by decide +kernel
theorem dd_Store_createBean_15 : decode prog_10_method_14_code 15 = .ok (.iconst 0, 1) := by decide +kernel
theorem dd_Store_createBean_16 : decode prog_10_method_14_code 16 = .ok (.istore 4, 2) := by decide +kernel
theorem dd_Store_createBean_18 : decode prog_10_method_14_code 18 = .ok (.iload 4, 2) := by decide +kernel
theorem dd_Store_createBean_20 : decode prog_10_method_14_code 20 = .ok (.iload_n 3, 1) := by decide +kernel
theorem dd_Store_createBean_21 : decode prog_10_method_14_code 21 = .ok (.if_icmp .ge 28, 3) := by decide +kernel
theorem dd_Store_createBean_24 : decode prog_10_method_14_code 24 = .ok (.aload_n 0, 1) := by decide +kernel
theorem dd_Store_createBean_25 : decode prog_10_method_14_code 25 = .ok (.iload_n 2, 1) := by decide +kernel
theorem dd_Store_createBean_26 : decode prog_10_method_14_code 26 = .ok (.aload_n 0, 1) := by decide +kernel
theorem dd_Store_createBean_27 : decode prog_10_method_14_code 27 = .ok (.getfield 22, 3) := by decide +kernel
theorem dd_Store_createBean_30 : decode prog_10_method_14_code 30 = .ok (.iload_n 1, 1) := by decide +kernel
theorem dd_Store_createBean_31 : decode prog_10_method_14_code 31 = .ok (.iload 4, 2) := by decide +kernel
theorem dd_Store_createBean_33 : decode prog_10_method_14_code 33 = .ok (.invokevirtual 45, 3) := by decide +kernel
theorem dd_Store_createBean_36 : decode prog_10_method_14_code 36 = .ok (.invokestatic 49, 3) := by decide +kernel
theorem dd_Store_createBean_39 : decode prog_10_method_14_code 39 = .ok (.invokevirtual 32, 3) := by decide +kernel
theorem dd_Store_createBean_42 : decode prog_10_method_14_code 42 = .ok (.pop, 1) := by decide +kernel
theorem dd_Store_createBean_43 : decode prog_10_method_14_code 43 = .ok (.iinc 4 1, 3) := by decide +kernel
theorem dd_Store_createBean_46 : decode prog_10_method_14_code 46 = .ok (.goto (-28), 3) := by decide +kernel
theorem dd_Store_createBean_49 : decode prog_10_method_14_code 49 = .ok (.iload_n 2, 1) := by decide +kernel
theorem dd_Store_createBean_50 : decode prog_10_method_14_code 50 = .ok (.ireturn, 1) := by decide +kernel
theorem dd_Store_isValue_0 : decode prog_10_method_15_code 0 = .ok (.iload_n 1, 1) := by decide +kernel
theorem dd_Store_isValue_1 : decode prog_10_method_15_code 1 = .ok (.invokestatic 55, 3) := by decide +kernel
theorem dd_Store_isValue_4 : decode prog_10_method_15_code 4 = .ok (.ifCond .eq 9, 3) := by decide +kernel
theorem dd_Store_isValue_7 : decode prog_10_method_15_code 7 = .ok (.iload_n 1, 1) := by decide +kernel
theorem dd_Store_isValue_8 : decode prog_10_method_15_code 8 = .ok (.lload_n 2, 1) := by decide +kernel
theorem dd_Store_isValue_9 : decode prog_10_method_15_code 9 = .ok (.invokestatic 59, 3) := by decide +kernel
theorem dd_Store_isValue_12 : decode prog_10_method_15_code 12 = .ok (.ireturn, 1) := by decide +kernel
theorem dd_Store_isValue_13 : decode prog_10_method_15_code 13 = .ok (.lload_n 2, 1) := by decide +kernel
theorem dd_Store_isValue_14 : decode prog_10_method_15_code 14 = .ok (.ldc2_w 62, 3) := by decide +kernel
theorem dd_Store_isValue_17 : decode prog_10_method_15_code 17 = .ok (.lcmp, 1) := by decide +kernel
theorem dd_Store_isValue_18 : decode prog_10_method_15_code 18 = .ok (.ifCond .ne 5, 3) := by decide +kernel
theorem dd_Store_isValue_21 : decode prog_10_method_15_code 21 = .ok (.iconst 1, 1) := by decide +kernel
theorem dd_Store_isValue_22 : decode prog_10_method_15_code 22 = .ok (.ireturn, 1) := by decide +kernel
theorem dd_Store_isValue_23 : decode prog_10_method_15_code 23 = .ok (.aload_n 0, 1) := by decide +kernel
theorem dd_Store_isValue_24 : decode prog_10_method_15_code 24 = .ok (.getfield 22, 3) := by decide +kernel
theorem dd_Store_isValue_27 : decode prog_10_method_15_code 27 = .ok (.iload_n 1, 1) := by decide +kernel
theorem dd_Store_isValue_28 : decode prog_10_method_15_code 28 = .ok (.invokevirtual 64, 3) := by decide +kernel
theorem dd_Store_isValue_31 : decode prog_10_method_15_code 31 = .ok (.ifCond .eq 29, 3) := by decide +kernel
theorem dd_Store_isValue_34 : decode prog_10_method_15_code 34 = .ok (.lload_n 2, 1) := by decide +kernel
theorem dd_Store_isValue_35 : decode prog_10_method_15_code 35 = .ok (.lconst 0, 1) := by decide +kernel
theorem dd_Store_isValue_36 : decode prog_10_method_15_code 36 = .ok (.lcmp, 1) := by decide +kernel
theorem dd_Store_isValue_37 : decode prog_10_method_15_code 37 = .ok (.ifCond .lt 21, 3) := by decide +kernel
theorem dd_Store_isValue_40 : decode prog_10_method_15_code 40 = .ok (.lload_n 2, 1) := by decide +kernel
theorem dd_Store_isValue_41 : decode prog_10_method_15_code 41 = .ok (.aload_n 0, 1) := by decide +kernel
theorem dd_Store_isValue_42 : decode prog_10_method_15_code 42 = .ok (.getfield 22, 3) := by decide +kernel
theorem dd_Store_isValue_45 : decode prog_10_method_15_code 45 = .ok (.iload_n 1, 1) := by decide +kernel
theorem dd_Store_isValue_46 : decode prog_10_method_15_code 46 = .ok (.invokevirtual 40, 3) := by decide +kernel
theorem dd_Store_isValue_49 : decode prog_10_method_15_code 49 = .ok (.i2l, 1) := by decide +kernel
theorem dd_Store_isValue_50 : decode prog_10_method_15_code 50 = .ok (.lcmp, 1) := by decide +kernel
theorem dd_Store_isValue_51 : decode prog_10_method_15_code 51 = .ok (.ifCond .ge 7, 3) := by decide +kernel
theorem dd_Store_isValue_54 : decode prog_10_method_15_code 54 = .ok (.iconst 1, 1) := by decide +kernel
theorem dd_Store_isValue_55 : decode prog_10_method_15_code 55 = .ok (.goto 4, 3) := by decide +kernel
theorem dd_Store_isValue_58 : decode prog_10_method_15_code 58 = .ok (.iconst 0, 1) := by decide +kernel
theorem dd_Store_isValue_59 : decode prog_10_method_15_code 59 = .ok (.ireturn, 1) := by decide +kernel
theorem dd_Store_isValue_60 : decode prog_10_method_15_code 60 = .ok (.aload_n 0, 1) := by decide +kernel
theorem dd_Store_isValue_61 : decode prog_10_method_15_code 61 = .ok (.lload_n 2, 1) := by decide +kernel
theorem dd_Store_isValue_62 : decode prog_10_method_15_code 62 = .ok (.invokevirtual 67, 3) := by decide +kernel
theorem dd_Store_isValue_65 : decode prog_10_method_15_code 65 = .ok (.ifCond .eq 18, 3) := by decide +kernel
theorem dd_Store_isValue_68 : decode prog_10_method_15_code 68 = .ok (.aload_n 0, 1) := by decide +kernel
theorem dd_Store_isValue_69 : decode prog_10_method_15_code 69 = .ok (.getfield 9, 3) := by decide +kernel
theorem dd_Store_isValue_72 : decode prog_10_method_15_code 72 = .ok (.lload_n 2, 1) := by decide +kernel
theorem dd_Store_isValue_73 : decode prog_10_method_15_code 73 = .ok (.l2i, 1) := by decide +kernel
theorem dd_Store_isValue_74 : decode prog_10_method_15_code 74 = .ok (.iaload, 1) := by decide +kernel
theorem dd_Store_isValue_75 : decode prog_10_method_15_code 75 = .ok (.iload_n 1, 1) := by decide +kernel
theorem dd_Store_isValue_76 : decode prog_10_method_15_code 76 = .ok (.if_icmp .ne 7, 3) := by decide +kernel
theorem dd_Store_isValue_79 : decode prog_10_method_15_code 79 = .ok (.iconst 1, 1) := by decide +kernel
theorem dd_Store_isValue_80 : decode prog_10_method_15_code 80 = .ok (.goto 4, 3) := by decide +kernel
theorem dd_Store_isValue_83 : decode prog_10_method_15_code 83 = .ok (.iconst 0, 1) := by decide +kernel
theorem dd_Store_isValue_84 : decode prog_10_method_15_code 84 = .ok (.ireturn, 1) := by decide +kernel
theorem dd_Types_init_0 : decode prog_11_method_1_code 0 = .ok (.aload_n 0, 1) := by decide +kernel
theorem dd_Types_init_1 : decode prog_11_method_1_code 1 = .ok (.invokespecial 3, 3) := by decide +kernel
theorem dd_Types_init_4 : decode prog_11_method_1_code 4 = .ok (.aload_n 0, 1) := by decide +kernel
theorem dd_Types_init_5 : decode prog_11_method_1_code 5 = .ok (.bipush 40, 2) := by decide +kernel
theorem dd_Types_init_7 : decode prog_11_method_1_code 7 = .ok (.newarray .int, 2) := by decide +kernel
theorem dd_Types_init_9 : decode prog_11_method_1_code 9 = .ok (.putfield 9, 3) := by decide +kernel
theorem dd_Types_init_12 : decode prog_11_method_1_code 12 = .ok (.aload_n 0, 1) := by decide +kernel
theorem dd_Types_init_13 : decode prog_11_method_1_code 13 = .ok (.bipush 40, 2) := by decide +kernel
theorem dd_Types_init_15 : decode prog_11_method_1_code 15 = .ok (.newarray .int, 2) := by decide +kernel
theorem dd_Types_init_17 : decode prog_11_method_1_code 17 = .ok (.putfield 15, 3) := by decide +kernel
theorem dd_Types_init_20 : decode prog_11_method_1_code 20 = .ok (.aload_n 0, 1) := by decide +kernel
theorem dd_Types_init_21 : decode prog_11_method_1_code 21 = .ok (.bipush 40, 2) := by decide +kernel
theorem dd_Types_init_23 : decode prog_11_method_1_code 23 = .ok (.newarray .int, 2) := by decide +kernel
theorem dd_Types_init_25 : decode prog_11_method_1_code 25 = .ok (.putfield 18, 3) := by decide +kernel
theorem dd_Types_init_28 : decode prog_11_method_1_code 28 = .ok (.aload_n 0, 1) := by decide +kernel
theorem dd_Types_init_29 : decode prog_11_method_1_code 29 = .ok (.sipush 320, 3) := by decide +kernel
theorem dd_Types_init_32 : decode prog_11_method_1_code 32 = .ok (.newarray .int, 2) := by decide +kernel
theorem dd_Types_init_34 : decode prog_11_method_1_code 34 = .ok (.putfield 21, 3) := by decide +kernel
theorem dd_Types_init_37 : decode prog_11_method_1_code 37 = .ok (.aload_n 0, 1) := by decide +kernel
theorem dd_Types_init_38 : decode prog_11_method_1_code 38 = .ok (.sipush 320, 3) := by decide +kernel
theorem dd_Types_init_41 : decode prog_11_method_1_code 41 = .ok (.newarray .int, 2) := by decide +kernel
theorem dd_Types_init_43 : decode prog_11_method_1_code 43 = .ok (.putfield 24, 3) := by decide +kernel
theorem dd_Types_init_46 : decode prog_11_method_1_code 46 = .ok (.aload_n 0, 1) := by decide +kernel
theorem dd_Types_init_47 : decode prog_11_method_1_code 47 = .ok (.bipush 15, 2) := by decide +kernel
theorem dd_Types_init_49 : decode prog_11_method_1_code 49 = .ok (.putfield 27, 3) := by decide +kernel
theorem dd_Types_init_52 : decode prog_11_method_1_code 52 = .ok (.return_, 1) := by decide +kernel
theorem dd_Types_nameIn_0 : decode prog_11_method_2_code 0 = .ok (.lload_n 0, 1) := by decide +kernel
theorem dd_Types_nameIn_1 : decode prog_11_method_2_code 1 = .ok (.bipush 8, 2) := by decide +kernel
theorem dd_Types_nameIn_3 : decode prog_11_method_2_code 3 = .ok (.iload_n 2, 1) := by decide +kernel
theorem dd_Types_nameIn_4 : decode prog_11_method_2_code 4 = .ok (.imul, 1) := by decide +kernel
theorem dd_Types_nameIn_5 : decode prog_11_method_2_code 5 = .ok (.lushr, 1) := by decide +kernel
theorem dd_Types_nameIn_6 : decode prog_11_method_2_code 6 = .ok (.l2i, 1) := by decide +kernel
theorem dd_Types_nameIn_7 : decode prog_11_method_2_code 7 = .ok (.sipush 255, 3) := by decide +kernel
theorem dd_Types_nameIn_10 : decode prog_11_method_2_code 10 = .ok (.iand, 1) := by decide +kernel
theorem dd_Types_nameIn_11 : decode prog_11_method_2_code 11 = .ok (.ireturn, 1) := by decide +kernel
theorem dd_Types_areNames_0 : decode prog_11_method_3_code 0 = .ok (.iconst 0, 1) := by decide +kernel
theorem dd_Types_areNames_1 : decode prog_11_method_3_code 1 = .ok (.istore_n 3, 1) := by decide +kernel
theorem dd_Types_areNames_2 : decode prog_11_method_3_code 2 = .ok (.iload_n 3, 1) := by decide +kernel
theorem dd_Types_areNames_3 : decode prog_11_method_3_code 3 = .ok (.iload_n 2, 1) := by decide +kernel
theorem dd_Types_areNames_4 : decode prog_11_method_3_code 4 = .ok (.if_icmp .ge 53, 3) := by decide +kernel
theorem dd_Types_areNames_7 : decode prog_11_method_3_code 7 = .ok (.lload_n 0, 1) := by decide +kernel
theorem dd_Types_areNames_8 : decode prog_11_method_3_code 8 = .ok (.iload_n 3, 1) := by decide +kernel
theorem dd_Types_areNames_9 : decode prog_11_method_3_code 9 = .ok (.invokestatic 31, 3) := by decide +kernel
theorem dd_Types_areNames_12 : decode prog_11_method_3_code 12 = .ok (.istore 4, 2) := by decide +kernel
theorem dd_Types_areNames_14 : decode prog_11_method_3_code 14 = .ok (.iload 4, 2) := by decide +kernel
theorem dd_Types_areNames_16 : decode prog_11_method_3_code 16 = .ok (.bipush 63, 2) := by decide +kernel
theorem dd_Types_areNames_18 : decode prog_11_method_3_code 18 = .ok (.if_icmp .le 5, 3) := by decide +kernel
theorem dd_Types_areNames_21 : decode prog_11_method_3_code 21 = .ok (.iconst 0, 1) := by decide +kernel
theorem dd_Types_areNames_22 : decode prog_11_method_3_code 22 = .ok (.ireturn, 1) := by decide +kernel
theorem dd_Types_areNames_23 : decode prog_11_method_3_code 23 = .ok (.iconst 0, 1) := by decide +kernel
theorem dd_Types_areNames_24 : decode prog_11_method_3_code 24 = .ok (.istore 5, 2) := by decide +kernel
theorem dd_Types_areNames_26 : decode prog_11_method_3_code 26 = .ok (.iload 5, 2) := by decide +kernel
theorem dd_Types_areNames_28 : decode prog_11_method_3_code 28 = .ok (.iload_n 3, 1) := by decide +kernel
theorem dd_Types_areNames_29 : decode prog_11_method_3_code 29 = .ok (.if_icmp .ge 22, 3) := by decide +kernel
theorem dd_Types_areNames_32 : decode prog_11_method_3_code 32 = .ok (.lload_n 0, 1) := by decide +kernel
theorem dd_Types_areNames_33 : decode prog_11_method_3_code 33 = .ok (.iload 5, 2) := by decide +kernel
theorem dd_Types_areNames_35 : decode prog_11_method_3_code 35 = .ok (.invokestatic 31, 3) := by decide +kernel
theorem dd_Types_areNames_38 : decode prog_11_method_3_code 38 = .ok (.iload 4, 2) := by decide +kernel
theorem dd_Types_areNames_40 : decode prog_11_method_3_code 40 = .ok (.if_icmp .ne 5, 3) := by decide +kernel
theorem dd_Types_areNames_43 : decode prog_11_method_3_code 43 = .ok (.iconst 0, 1) := by decide +kernel
theorem dd_Types_areNames_44 : decode prog_11_method_3_code 44 = .ok (.ireturn, 1) := by decide +kernel
theorem dd_Types_areNames_45 : decode prog_11_method_3_code 45 = .ok (.iinc 5 1, 3) := by decide +kernel
theorem dd_Types_areNames_48 : decode prog_11_method_3_code 48 = .ok (.goto (-22), 3) := by decide +kernel
theorem dd_Types_areNames_51 : decode prog_11_method_3_code 51 = .ok (.iinc 3 1, 3) := by decide +kernel
theorem dd_Types_areNames_54 : decode prog_11_method_3_code 54 = .ok (.goto (-52), 3) := by decide +kernel
theorem dd_Types_areNames_57 : decode prog_11_method_3_code 57 = .ok (.iconst 1, 1) := by decide +kernel
theorem dd_Types_areNames_58 : decode prog_11_method_3_code 58 = .ok (.ireturn, 1) := by decide +kernel
theorem dd_Types_size_0 : decode prog_11_method_4_code 0 = .ok (.aload_n 0, 1) := by decide +kernel
theorem dd_Types_size_1 : decode prog_11_method_4_code 1 = .ok (.getfield 27, 3) := by decide +kernel
theorem dd_Types_size_4 : decode prog_11_method_4_code 4 = .ok (.ireturn, 1) := by decide +kernel
theorem dd_Types_isFull_0 : decode prog_11_method_5_code 0 = .ok (.aload_n 0, 1) := by decide +kernel
theorem dd_Types_isFull_1 : decode prog_11_method_5_code 1 = .ok (.getfield 27, 3) := by decide +kernel
theorem dd_Types_isFull_4 : decode prog_11_method_5_code 4 = .ok (.bipush 40, 2) := by decide +kernel
theorem dd_Types_isFull_6 : decode prog_11_method_5_code 6 = .ok (.if_icmp .lt 7, 3) := by decide +kernel
theorem dd_Types_isFull_9 : decode prog_11_method_5_code 9 = .ok (.iconst 1, 1) := by decide +kernel
theorem dd_Types_isFull_10 : decode prog_11_method_5_code 10 = .ok (.goto 4, 3) := by decide +kernel
theorem dd_Types_isFull_13 : decode prog_11_method_5_code 13 = .ok (.iconst 0, 1) := by decide +kernel
theorem dd_Types_isFull_14 : decode prog_11_method_5_code 14 = .ok (.ireturn, 1) := by decide +kernel
theorem dd_Types_exists_0 : decode prog_11_method_6_code 0 = .ok (.iload_n 1, 1) := by decide +kernel
theorem dd_Types_exists_1 : decode prog_11_method_6_code 1 = .ok (.ifCond .lt 15, 3) := by decide +kernel
theorem dd_Types_exists_4 : decode prog_11_method_6_code 4 = .ok (.iload_n 1, 1) := by decide +kernel
theorem dd_Types_exists_5 : decode prog_11_method_6_code 5 = .ok (.aload_n 0, 1) := by decide +kernel
theorem dd_Types_exists_6 : decode prog_11_method_6_code 6 = .ok (.getfield 27, 3) := by decide +kernel
theorem dd_Types_exists_9 : decode prog_11_method_6_code 9 = .ok (.if_icmp .ge 7, 3) := by decide +kernel
theorem dd_Types_exists_12 : decode prog_11_method_6_code 12 = .ok (.iconst 1, 1) := by decide +kernel
theorem dd_Types_exists_13 : decode prog_11_method_6_code 13 = .ok (.goto 4, 3) := by decide +kernel
theorem dd_Types_exists_16 : decode prog_11_method_6_code 16 = .ok (.iconst 0, 1) := by decide +kernel
theorem dd_Types_exists_17 : decode prog_11_method_6_code 17 = .ok (.ireturn, 1) := by decide +kernel
theorem dd_Types_isEnum_0 : decode prog_11_method_7_code 0 = .ok (.iload_n 1, 1) := by decide +kernel
theorem dd_Types_isEnum_1 : decode prog_11_method_7_code 1 = .ok (.bipush 15, 2) := by decide +kernel
theorem dd_Types_isEnum_3 : decode prog_11_method_7_code 3 = .ok (.if_icmp .lt 25, 3) := by decide +kernel
theorem dd_Types_isEnum_6 : decode prog_11_method_7_code 6 = .ok (.iload_n 1, 1) := by decide +kernel
theorem dd_Types_isEnum_7 : decode prog_11_method_7_code 7 = .ok (.aload_n 0, 1) := by decide +kernel
theorem dd_Types_isEnum_8 : decode prog_11_method_7_code 8 = .ok (.getfield 27, 3) := by decide +kernel
theorem dd_Types_isEnum_11 : decode prog_11_method_7_code 11 = .ok (.if_icmp .ge 17, 3) := by decide +kernel
theorem dd_Types_isEnum_14 : decode prog_11_method_7_code 14 = .ok (.aload_n 0, 1) := by decide +kernel
theorem dd_Types_isEnum_15 : decode prog_11_method_7_code 15 = .ok (.getfield 9, 3) := by decide +kernel
theorem dd_Types_isEnum_18 : decode prog_11_method_7_code 18 = .ok (.iload_n 1, 1) := by decide +kernel
theorem dd_Types_isEnum_19 : decode prog_11_method_7_code 19 = .ok (.iaload, 1) := by decide +kernel
theorem dd_Types_isEnum_20 : decode prog_11_method_7_code 20 = .ok (.iconst 1, 1) := by decide +kernel
theorem dd_Types_isEnum_21 : decode prog_11_method_7_code 21 = .ok (.if_icmp .ne 7, 3) := by decide +kernel
theorem dd_Types_isEnum_24 : decode prog_11_method_7_code 24 = .ok (.iconst 1, 1) := by decide +kernel
theorem dd_Types_isEnum_25 : decode prog_11_method_7_code 25 = .ok (.goto 4, 3) := by decide +kernel
theorem dd_Types_isEnum_28 : decode prog_11_method_7_code 28 = .ok (.iconst 0, 1) := by decide +kernel
theorem dd_Types_isEnum_29 : decode prog_11_method_7_code 29 = .ok (.ireturn, 1) := by decide +kernel
theorem dd_Types_isBean_0 : decode prog_11_method_8_code 0 = .ok (.iload_n 1, 1) := by decide +kernel
theorem dd_Types_isBean_1 : decode prog_11_method_8_code 1 = .ok (.bipush 15, 2) := by decide +kernel
theorem dd_Types_isBean_3 : decode prog_11_method_8_code 3 = .ok (.if_icmp .lt 25, 3) := by decide +kernel
theorem dd_Types_isBean_6 : decode prog_11_method_8_code 6 = .ok (.iload_n 1, 1) := by decide +kernel
theorem dd_Types_isBean_7 : decode prog_11_method_8_code 7 = .ok (.aload_n 0, 1) := by decide +kernel
theorem dd_Types_isBean_8 : decode prog_11_method_8_code 8 = .ok (.getfield 27, 3) := by decide +kernel
theorem dd_Types_isBean_11 : decode prog_11_method_8_code 11 = .ok (.if_icmp .ge 17, 3) := by decide +kernel
theorem dd_Types_isBean_14 : decode prog_11_method_8_code 14 = .ok (.aload_n 0, 1) := by decide +kernel
theorem dd_Types_isBean_15 : decode prog_11_method_8_code 15 = .ok (.getfield 9, 3) := by decide +kernel
theorem dd_Types_isBean_18 : decode prog_11_method_8_code 18 = .ok (.iload_n 1, 1) := by decide +kernel
theorem dd_Types_isBean_19 : decode prog_11_method_8_code 19 = .ok (.iaload, 1) := by decide +kernel
theorem dd_Types_isBean_20 : decode prog_11_method_8_code 20 = .ok (.iconst 2, 1) := by decide +kernel
theorem dd_Types_isBean_21 : decode prog_11_method_8_code 21 = .ok (.if_icmp .ne 7, 3) := by decide +kernel
theorem dd_Types_isBean_24 : decode prog_11_method_8_code 24 = .ok (.iconst 1, 1) := by decide +kernel
theorem dd_Types_isBean_25 : decode prog_11_method_8_code 25 = .ok (.goto 4, 3) := by decide +kernel
theorem dd_Types_isBean_28 : decode prog_11_method_8_code 28 = .ok (.iconst 0, 1) := by decide +kernel
theorem dd_Types_isBean_29 : decode prog_11_method_8_code 29 = .ok (.ireturn, 1) := by decide +kernel
theorem dd_Types_isList_0 : decode prog_11_method_9_code 0 = .ok (.iload_n 1, 1) := by decide +kernel
theorem dd_Types_isList_1 : decode prog_11_method_9_code 1 = .ok (.bipush 15, 2) := by decide +kernel
theorem dd_Types_isList_3 : decode prog_11_method_9_code 3 = .ok (.if_icmp .lt 25, 3) := by decide +kernel
theorem dd_Types_isList_6 : decode prog_11_method_9_code 6 = .ok (.iload_n 1, 1) := by decide +kernel
theorem dd_Types_isList_7 : decode prog_11_method_9_code 7 = .ok (.aload_n 0, 1) := by decide +kernel
theorem dd_Types_isList_8 : decode prog_11_method_9_code 8 = .ok (.getfield 27, 3) := by decide +kernel
theorem dd_Types_isList_11 : decode prog_11_method_9_code 11 = .ok (.if_icmp .ge 17, 3) := by decide +kernel
theorem dd_Types_isList_14 : decode prog_11_method_9_code 14 = .ok (.aload_n 0, 1) := by decide +kernel
theorem dd_Types_isList_15 : decode prog_11_method_9_code 15 = .ok (.getfield 9, 3) := by decide +kernel
theorem dd_Types_isList_18 : decode prog_11_method_9_code 18 = .ok (.iload_n 1, 1) := by decide +kernel
theorem dd_Types_isList_19 : decode prog_11_method_9_code 19 = .ok (.iaload, 1) := by decide +kernel
theorem dd_Types_isList_20 : decode prog_11_method_9_code 20 = .ok (.iconst 3, 1) := by decide +kernel
theorem dd_Types_isList_21 : decode prog_11_method_9_code 21 = .ok (.if_icmp .ne 7, 3) := by decide +kernel
theorem dd_Types_isList_24 : decode prog_11_method_9_code 24 = .ok (.iconst 1, 1) := by decide +kernel
theorem dd_Types_isList_25 : decode prog_11_method_9_code 25 = .ok (.goto 4, 3) := by decide +kernel
theorem dd_Types_isList_28 : decode prog_11_method_9_code 28 = .ok (.iconst 0, 1) := by decide +kernel
theorem dd_Types_isList_29 : decode prog_11_method_9_code 29 = .ok (.ireturn, 1) := by decide +kernel
theorem dd_Types_add_0 : decode prog_11_method_10_code 0 = .ok (.aload_n 0, 1) := by decide +kernel
theorem dd_Types_add_1 : decode prog_11_method_10_code 1 = .ok (.getfield 27, 3) := by decide +kernel
theorem dd_Types_add_4 : decode prog_11_method_10_code 4 = .ok (.bipush 40, 2) := by decide +kernel
theorem dd_Types_add_6 : decode prog_11_method_10_code 6 = .ok (.if_icmp .lt 5, 3) := by decide +kernel
theorem dd_Types_add_9 : decode prog_11_method_10_code 9 = .ok (.iconst (-1), 1) := by decide +kernel
theorem dd_Types_add_10 : decode prog_11_method_10_code 10 = .ok (.ireturn, 1) := by decide +kernel
theorem dd_Types_add_11 : decode prog_11_method_10_code 11 = .ok (.aload_n 0, 1) := by decide +kernel
theorem dd_Types_add_12 : decode prog_11_method_10_code 12 = .ok (.getfield 27, 3) := by decide +kernel
theorem dd_Types_add_15 : decode prog_11_method_10_code 15 = .ok (.istore_n 3, 1) := by decide +kernel
theorem dd_Types_add_16 : decode prog_11_method_10_code 16 = .ok (.aload_n 0, 1) := by decide +kernel
theorem dd_Types_add_17 : decode prog_11_method_10_code 17 = .ok (.dup, 1) := by decide +kernel
theorem dd_Types_add_18 : decode prog_11_method_10_code 18 = .ok (.getfield 27, 3) := by decide +kernel
theorem dd_Types_add_21 : decode prog_11_method_10_code 21 = .ok (.iconst 1, 1) := by decide +kernel
theorem dd_Types_add_22 : decode prog_11_method_10_code 22 = .ok (.iadd, 1) := by decide +kernel
theorem dd_Types_add_23 : decode prog_11_method_10_code 23 = .ok (.putfield 27, 3) := by decide +kernel
theorem dd_Types_add_26 : decode prog_11_method_10_code 26 = .ok (.aload_n 0, 1) := by decide +kernel
theorem dd_Types_add_27 : decode prog_11_method_10_code 27 = .ok (.getfield 9, 3) := by decide +kernel
theorem dd_Types_add_30 : decode prog_11_method_10_code 30 = .ok (.iload_n 3, 1) := by decide +kernel
theorem dd_Types_add_31 : decode prog_11_method_10_code 31 = .ok (.iload_n 1, 1) := by decide +kernel
theorem dd_Types_add_32 : decode prog_11_method_10_code 32 = .ok (.iastore, 1) := by decide +kernel
theorem dd_Types_add_33 : decode prog_11_method_10_code 33 = .ok (.aload_n 0, 1) := by decide +kernel
theorem dd_Types_add_34 : decode prog_11_method_10_code 34 = .ok (.getfield 15, 3) := by decide +kernel
theorem dd_Types_add_37 : decode prog_11_method_10_code 37 = .ok (.iload_n 3, 1) := by decide +kernel
theorem dd_Types_add_38 : decode prog_11_method_10_code 38 = .ok (.iload_n 2, 1) := by decide +kernel
theorem dd_Types_add_39 : decode prog_11_method_10_code 39 = .ok (.iastore, 1) := by decide +kernel
theorem dd_Types_add_40 : decode prog_11_method_10_code 40 = .ok (.iload_n 3, 1) := by decide +kernel
theorem dd_Types_add_41 : decode prog_11_method_10_code 41 = .ok (.ireturn, 1) := by decide +kernel
theorem dd_Types_addMember_0 : decode prog_11_method_11_code 0 = .ok (.iload_n 1, 1) := by decide +kernel
theorem dd_Types_addMember_1 : decode prog_11_method_11_code 1 = .ok (.ifCond .lt 22, 3) := by decide +kernel
theorem dd_Types_addMember_4 : decode prog_11_method_11_code 4 = .ok (.iload_n 1, 1) := by decide +kernel
theorem dd_Types_addMember_5 : decode prog_11_method_11_code 5 = .ok (.aload_n 0, 1) := by decide +kernel
theorem dd_Types_addMember_6 : decode prog_11_method_11_code 6 = .ok (.getfield 27, 3) := by decide +kernel
theorem dd_Types_addMember_9 : decode prog_11_method_11_code 9 = .ok (.if_icmp .ge 14, 3) := by decide +kernel
theorem dd_Types_addMember_12 : decode prog_11_method_11_code 12 = .ok (.aload_n 0, 1) := by decide +kernel
theorem dd_Types_addMember_13 : decode prog_11_method_11_code 13 = .ok (.getfield 18, 3) := by decide +kernel
theorem dd_Types_addMember_16 : decode prog_11_method_11_code 16 = .ok (.iload_n 1, 1) := by decide +kernel
theorem dd_Types_addMember_17 : decode prog_11_method_11_code 17 = .ok (.iaload, 1) := by decide +kernel
theorem dd_Types_addMember_18 : decode prog_11_method_11_code 18 = .ok (.bipush 8, 2) := by decide +kernel
theorem dd_Types_addMember_20 : decode prog_11_method_11_code 20 = .ok (.if_icmp .lt 5, 3) := by decide +kernel
theorem dd_Types_addMember_23 : decode prog_11_method_11_code 23 = .ok (.iconst (-1), 1) := by decide +kernel
theorem dd_Types_addMember_24 : decode prog_11_method_11_code 24 = .ok (.ireturn, 1) := by decide +kernel
theorem dd_Types_addMember_25 : decode prog_11_method_11_code 25 = .ok (.aload_n 0, 1) := by decide +kernel
theorem dd_Types_addMember_26 : decode prog_11_method_11_code 26 = .ok (.getfield 18, 3) := by decide +kernel
theorem dd_Types_addMember_29 : decode prog_11_method_11_code 29 = .ok (.iload_n 1, 1) := by decide +kernel
theorem dd_Types_addMember_30 : decode prog_11_method_11_code 30 = .ok (.iaload, 1) := by decide +kernel
theorem dd_Types_addMember_31 : decode prog_11_method_11_code 31 = .ok (.istore 4, 2) := by decide +kernel
theorem dd_Types_addMember_33 : decode prog_11_method_11_code 33 = .ok (.aload_n 0, 1) := by decide +kernel
theorem dd_Types_addMember_34 : decode prog_11_method_11_code 34 = .ok (.getfield 18, 3) := by decide +kernel
theorem dd_Types_addMember_37 : decode prog_11_method_11_code 37 = .ok (.iload_n 1, 1) := by decide +kernel
theorem dd_Types_addMember_38 : decode prog_11_method_11_code 38 = .ok (.dup2, 1) := by decide +kernel
theorem dd_Types_addMember_39 : decode prog_11_method_11_code 39 = .ok (.iaload, 1) := by decide +kernel
theorem dd_Types_addMember_40 : decode prog_11_method_11_code 40 = .ok (.iconst 1, 1) := by decide +kernel
theorem dd_Types_addMember_41 : decode prog_11_method_11_code 41 = .ok (.iadd, 1) := by decide +kernel
theorem dd_Types_addMember_42 : decode prog_11_method_11_code 42 = .ok (.iastore, 1) := by decide +kernel
theorem dd_Types_addMember_43 : decode prog_11_method_11_code 43 = .ok (.aload_n 0, 1) := by decide +kernel
theorem dd_Types_addMember_44 : decode prog_11_method_11_code 44 = .ok (.getfield 21, 3) := by decide +kernel
theorem dd_Types_addMember_47 : decode prog_11_method_11_code 47 = .ok (.iload_n 1, 1) := by decide +kernel
theorem dd_Types_addMember_48 : decode prog_11_method_11_code 48 = .ok (.bipush 8, 2) := by decide +kernel
theorem dd_Types_addMember_50 : decode prog_11_method_11_code 50 = .ok (.imul, 1) := by decide +kernel
theorem dd_Types_addMember_51 : decode prog_11_method_11_code 51 = .ok (.iload 4, 2) := by decide +kernel
theorem dd_Types_addMember_53 : decode prog_11_method_11_code 53 = .ok (.iadd, 1) := by decide +kernel
theorem dd_Types_addMember_54 : decode prog_11_method_11_code 54 = .ok (.iload_n 2, 1) := by decide +kernel
theorem dd_Types_addMember_55 : decode prog_11_method_11_code 55 = .ok (.iastore, 1) := by decide +kernel
theorem dd_Types_addMember_56 : decode prog_11_method_11_code 56 = .ok (.aload_n 0, 1) := by decide +kernel
theorem dd_Types_addMember_57 : decode prog_11_method_11_code 57 = .ok (.getfield 24, 3) := by decide +kernel
theorem dd_Types_addMember_60 : decode prog_11_method_11_code 60 = .ok (.iload_n 1, 1) := by decide +kernel
theorem dd_Types_addMember_61 : decode prog_11_method_11_code 61 = .ok (.bipush 8, 2) := by decide +kernel
theorem dd_Types_addMember_63 : decode prog_11_method_11_code 63 = .ok (.imul, 1) := by decide +kernel
theorem dd_Types_addMember_64 : decode prog_11_method_11_code 64 = .ok (.iload 4, 2) := by decide +kernel
theorem dd_Types_addMember_66 : decode prog_11_method_11_code 66 = .ok (.iadd, 1) := by decide +kernel
theorem dd_Types_addMember_67 : decode prog_11_method_11_code 67 = .ok (.iload_n 3, 1) := by decide +kernel
theorem dd_Types_addMember_68 : decode prog_11_method_11_code 68 = .ok (.iastore, 1) := by decide +kernel
theorem dd_Types_addMember_69 : decode prog_11_method_11_code 69 = .ok (.iload 4, 2) := by decide +kernel
theorem dd_Types_addMember_71 : decode prog_11_method_11_code 71 = .ok (.ireturn, 1) := by decide +kernel
theorem dd_Types_listOf_0 : decode prog_11_method_12_code 0 = .ok (.bipush 15, 2) := by decide +kernel
theorem dd_Types_listOf_2 : decode prog_11_method_12_code 2 = .ok (.istore_n 2, 1) := by decide +kernel
theorem dd_Types_listOf_3 : decode prog_11_method_12_code 3 = .ok (.iload_n 2, 1) := by decide +kernel
theorem dd_Types_listOf_4 : decode prog_11_method_12_code 4 = .ok (.aload_n 0, 1) := by decide +kernel
theorem dd_Types_listOf_5 : decode prog_11_method_12_code 5 = .ok (.getfield 27, 3) := by decide +kernel
theorem dd_Types_listOf_8 : decode prog_11_method_12_code 8 = .ok (.if_icmp .ge 31, 3) := by decide +kernel
theorem dd_Types_listOf_11 : decode prog_11_method_12_code 11 = .ok (.aload_n 0, 1) := by decide +kernel
theorem dd_Types_listOf_12 : decode prog_11_method_12_code 12 = .ok (.getfield 9, 3) := by decide +kernel
theorem dd_Types_listOf_15 : decode prog_11_method_12_code 15 = .ok (.iload_n 2, 1) := by decide +kernel
theorem dd_Types_listOf_16 : decode prog_11_method_12_code 16 = .ok (.iaload, 1) := by decide +kernel
theorem dd_Types_listOf_17 : decode prog_11_method_12_code 17 = .ok (.iconst 3, 1) := by decide +kernel
theorem dd_Types_listOf_18 : decode prog_11_method_12_code 18 = .ok (.if_icmp .ne 15, 3) := by decide +kernel
theorem dd_Types_listOf_21 : decode prog_11_method_12_code 21 = .ok (.aload_n 0, 1) := by decide +kernel
theorem dd_Types_listOf_22 : decode prog_11_method_12_code 22 = .ok (.getfield 15, 3) := by decide +kernel
theorem dd_Types_listOf_25 : decode prog_11_method_12_code 25 = .ok (.iload_n 2, 1) := by decide +kernel
theorem dd_Types_listOf_26 : decode prog_11_method_12_code 26 = .ok (.iaload, 1) := by decide +kernel
theorem dd_Types_listOf_27 : decode prog_11_method_12_code 27 = .ok (.iload_n 1, 1) := by decide +kernel
theorem dd_Types_listOf_28 : decode prog_11_method_12_code 28 = .ok (.if_icmp .ne 5, 3) := by decide +kernel
theorem dd_Types_listOf_31 : decode prog_11_method_12_code 31 = .ok (.iload_n 2, 1) := by decide +kernel
theorem dd_Types_listOf_32 : decode prog_11_method_12_code 32 = .ok (.ireturn, 1) := by decide +kernel
theorem dd_Types_listOf_33 : decode prog_11_method_12_code 33 = .ok (.iinc 2 1, 3) := by decide +kernel
theorem dd_Types_listOf_36 : decode prog_11_method_12_code 36 = .ok (.goto (-33), 3) := by decide +kernel
theorem dd_Types_listOf_39 : decode prog_11_method_12_code 39 = .ok (.iconst (-1), 1) := by decide +kernel
theorem dd_Types_listOf_40 : decode prog_11_method_12_code 40 = .ok (.ireturn, 1) := by decide +kernel
theorem dd_Types_element_0 : decode prog_11_method_13_code 0 = .ok (.iload_n 1, 1) := by decide +kernel
theorem dd_Types_element_1 : decode prog_11_method_13_code 1 = .ok (.ifCond .lt 20, 3) := by decide +kernel
theorem dd_Types_element_4 : decode prog_11_method_13_code 4 = .ok (.iload_n 1, 1) := by decide +kernel
theorem dd_Types_element_5 : decode prog_11_method_13_code 5 = .ok (.aload_n 0, 1) := by decide +kernel
theorem dd_Types_element_6 : decode prog_11_method_13_code 6 = .ok (.getfield 27, 3) := by decide +kernel
theorem dd_Types_element_9 : decode prog_11_method_13_code 9 = .ok (.if_icmp .ge 12, 3) := by decide +kernel
theorem dd_Types_element_12 : decode prog_11_method_13_code 12 = .ok (.aload_n 0, 1) := by decide +kernel
theorem dd_Types_element_13 : decode prog_11_method_13_code 13 = .ok (.getfield 15, 3) := by decide +kernel
theorem dd_Types_element_16 : decode prog_11_method_13_code 16 = .ok (.iload_n 1, 1) := by decide +kernel
theorem dd_Types_element_17 : decode prog_11_method_13_code 17 = .ok (.iaload, 1) := by decide +kernel
theorem dd_Types_element_18 : decode prog_11_method_13_code 18 = .ok (.goto 4, 3) := by decide +kernel
theorem dd_Types_element_21 : decode prog_11_method_13_code 21 = .ok (.iconst (-1), 1) := by decide +kernel
theorem dd_Types_element_22 : decode prog_11_method_13_code 22 = .ok (.ireturn, 1) := by decide +kernel
theorem dd_Types_memberCount_0 : decode prog_11_method_14_code 0 = .ok (.iload_n 1, 1) := by decide +kernel
theorem dd_Types_memberCount_1 : decode prog_11_method_14_code 1 = .ok (.ifCond .lt 20, 3) := by decide +kernel
theorem dd_Types_memberCount_4 : decode prog_11_method_14_code 4 = .ok (.iload_n 1, 1) := by decide +kernel
theorem dd_Types_memberCount_5 : decode prog_11_method_14_code 5 = .ok (.aload_n 0, 1) := by decide +kernel
theorem dd_Types_memberCount_6 : decode prog_11_method_14_code 6 = .ok (.getfield 27, 3) := by decide +kernel
theorem dd_Types_memberCount_9 : decode prog_11_method_14_code 9 = .ok (.if_icmp .ge 12, 3) := by decide +kernel
theorem dd_Types_memberCount_12 : decode prog_11_method_14_code 12 = .ok (.aload_n 0, 1) := by decide +kernel
theorem dd_Types_memberCount_13 : decode prog_11_method_14_code 13 = .ok (.getfield 18, 3) := by decide +kernel
theorem dd_Types_memberCount_16 : decode prog_11_method_14_code 16 = .ok (.iload_n 1, 1) := by decide +kernel
theorem dd_Types_memberCount_17 : decode prog_11_method_14_code 17 = .ok (.iaload, 1) := by decide +kernel
theorem dd_Types_memberCount_18 : decode prog_11_method_14_code 18 = .ok (.goto 4, 3) := by decide +kernel
theorem dd_Types_memberCount_21 : decode prog_11_method_14_code 21 = .ok (.iconst 0, 1) := by decide +kernel
theorem dd_Types_memberCount_22 : decode prog_11_method_14_code 22 = .ok (.ireturn, 1) := by decide +kernel
theorem dd_Types_nameAt_0 : decode prog_11_method_15_code 0 = .ok (.iload_n 1, 1) := by decide +kernel
theorem dd_Types_nameAt_1 : decode prog_11_method_15_code 1 = .ok (.ifCond .lt 29, 3) := by decide +kernel
theorem dd_Types_nameAt_4 : decode prog_11_method_15_code 4 = .ok (.iload_n 1, 1) := by decide +kernel
theorem dd_Types_nameAt_5 : decode prog_11_method_15_code 5 = .ok (.aload_n 0, 1) := by decide +kernel
theorem dd_Types_nameAt_6 : decode prog_11_method_15_code 6 = .ok (.getfield 27, 3) := by decide +kernel
theorem dd_Types_nameAt_9 : decode prog_11_method_15_code 9 = .ok (.if_icmp .ge 21, 3) := by decide +kernel
theorem dd_Types_nameAt_12 : decode prog_11_method_15_code 12 = .ok (.iload_n 2, 1) := by decide +kernel
theorem dd_Types_nameAt_13 : decode prog_11_method_15_code 13 = .ok (.ifCond .lt 17, 3) := by decide +kernel
theorem dd_Types_nameAt_16 : decode prog_11_method_15_code 16 = .ok (.iload_n 2, 1) := by decide +kernel
theorem dd_Types_nameAt_17 : decode prog_11_method_15_code 17 = .ok (.aload_n 0, 1) := by decide +kernel
theorem dd_Types_nameAt_18 : decode prog_11_method_15_code 18 = .ok (.getfield 18, 3) := by decide +kernel
theorem dd_Types_nameAt_21 : decode prog_11_method_15_code 21 = .ok (.iload_n 1, 1) := by decide +kernel
theorem dd_Types_nameAt_22 : decode prog_11_method_15_code 22 = .ok (.iaload, 1) := by decide +kernel
theorem dd_Types_nameAt_23 : decode prog_11_method_15_code 23 = .ok (.if_icmp .ge 7, 3) := by decide +kernel
theorem dd_Types_nameAt_26 : decode prog_11_method_15_code 26 = .ok (.iconst 1, 1) := by decide +kernel
theorem dd_Types_nameAt_27 : decode prog_11_method_15_code 27 = .ok (.goto 4, 3) := by decide +kernel
theorem dd_Types_nameAt_30 : decode prog_11_method_15_code 30 = .ok (.iconst 0, 1) := by decide +kernel
theorem dd_Types_nameAt_31 : decode prog_11_method_15_code 31 = .ok (.istore_n 3, 1) := by decide +kernel
theorem dd_Types_nameAt_32 : decode prog_11_method_15_code 32 = .ok (.iload_n 3, 1) := by decide +kernel
theorem dd_Types_nameAt_33 : decode prog_11_method_15_code 33 = .ok (.ifCond .eq 17, 3) := by decide +kernel
theorem dd_Types_nameAt_36 : decode prog_11_method_15_code 36 = .ok (.aload_n 0, 1) := by decide +kernel
theorem dd_Types_nameAt_37 : decode prog_11_method_15_code 37 = .ok (.getfield 21, 3) := by decide +kernel
theorem dd_Types_nameAt_40 : decode prog_11_method_15_code 40 = .ok (.iload_n 1, 1) := by decide +kernel
theorem dd_Types_nameAt_41 : decode prog_11_method_15_code 41 = .ok (.bipush 8, 2) := by decide +kernel
theorem dd_Types_nameAt_43 : decode prog_11_method_15_code 43 = .ok (.imul, 1) := by decide +kernel
theorem dd_Types_nameAt_44 : decode prog_11_method_15_code 44 = .ok (.iload_n 2, 1) := by decide +kernel
theorem dd_Types_nameAt_45 : decode prog_11_method_15_code 45 = .ok (.iadd, 1) := by decide +kernel
theorem dd_Types_nameAt_46 : decode prog_11_method_15_code 46 = .ok (.iaload, 1) := by decide +kernel
theorem dd_Types_nameAt_47 : decode prog_11_method_15_code 47 = .ok (.goto 4, 3) := by decide +kernel
theorem dd_Types_nameAt_50 : decode prog_11_method_15_code 50 = .ok (.iconst (-1), 1) := by decide +kernel
theorem dd_Types_nameAt_51 : decode prog_11_method_15_code 51 = .ok (.ireturn, 1) := by decide +kernel
theorem dd_Types_typeAt_0 : decode prog_11_method_16_code 0 = .ok (.iload_n 1, 1) := by decide +kernel
theorem dd_Types_typeAt_1 : decode prog_11_method_16_code 1 = .ok (.ifCond .lt 29, 3) := by decide +kernel
theorem dd_Types_typeAt_4 : decode prog_11_method_16_code 4 = .ok (.iload_n 1, 1) := by decide +kernel
theorem dd_Types_typeAt_5 : decode prog_11_method_16_code 5 = .ok (.aload_n 0, 1) := by decide +kernel
theorem dd_Types_typeAt_6 : decode prog_11_method_16_code 6 = .ok (.getfield 27, 3) := by decide +kernel
theorem dd_Types_typeAt_9 : decode prog_11_method_16_code 9 = .ok (.if_icmp .ge 21, 3) := by decide +kernel
theorem dd_Types_typeAt_12 : decode prog_11_method_16_code 12 = .ok (.iload_n 2, 1) := by decide +kernel
theorem dd_Types_typeAt_13 : decode prog_11_method_16_code 13 = .ok (.ifCond .lt 17, 3) := by decide +kernel
theorem dd_Types_typeAt_16 : decode prog_11_method_16_code 16 = .ok (.iload_n 2, 1) := by decide +kernel
theorem dd_Types_typeAt_17 : decode prog_11_method_16_code 17 = .ok (.aload_n 0, 1) := by decide +kernel
theorem dd_Types_typeAt_18 : decode prog_11_method_16_code 18 = .ok (.getfield 18, 3) := by decide +kernel
theorem dd_Types_typeAt_21 : decode prog_11_method_16_code 21 = .ok (.iload_n 1, 1) := by decide +kernel
theorem dd_Types_typeAt_22 : decode prog_11_method_16_code 22 = .ok (.iaload, 1) := by decide +kernel
theorem dd_Types_typeAt_23 : decode prog_11_method_16_code 23 = .ok (.if_icmp .ge 7, 3) := by decide +kernel
theorem dd_Types_typeAt_26 : decode prog_11_method_16_code 26 = .ok (.iconst 1, 1) := by decide +kernel
theorem dd_Types_typeAt_27 : decode prog_11_method_16_code 27 = .ok (.goto 4, 3) := by decide +kernel
theorem dd_Types_typeAt_30 : decode prog_11_method_16_code 30 = .ok (.iconst 0, 1) := by decide +kernel
theorem dd_Types_typeAt_31 : decode prog_11_method_16_code 31 = .ok (.istore_n 3, 1) := by decide +kernel
theorem dd_Types_typeAt_32 : decode prog_11_method_16_code 32 = .ok (.iload_n 3, 1) := by decide +kernel
theorem dd_Types_typeAt_33 : decode prog_11_method_16_code 33 = .ok (.ifCond .eq 17, 3) := by decide +kernel
theorem dd_Types_typeAt_36 : decode prog_11_method_16_code 36 = .ok (.aload_n 0, 1) := by decide +kernel
theorem dd_Types_typeAt_37 : decode prog_11_method_16_code 37 = .ok (.getfield 24, 3) := by decide +kernel
theorem dd_Types_typeAt_40 : decode prog_11_method_16_code 40 = .ok (.iload_n 1, 1) := by decide +kernel
theorem dd_Types_typeAt_41 : decode prog_11_method_16_code 41 = .ok (.bipush 8, 2) := by decide +kernel
theorem dd_Types_typeAt_43 : decode prog_11_method_16_code 43 = .ok (.imul, 1) := by decide +kernel
theorem dd_Types_typeAt_44 : decode prog_11_method_16_code 44 = .ok (.iload_n 2, 1) := by decide +kernel
theorem dd_Types_typeAt_45 : decode prog_11_method_16_code 45 = .ok (.iadd, 1) := by decide +kernel
theorem dd_Types_typeAt_46 : decode prog_11_method_16_code 46 = .ok (.iaload, 1) := by decide +kernel
theorem dd_Types_typeAt_47 : decode prog_11_method_16_code 47 = .ok (.goto 4, 3) := by decide +kernel
theorem dd_Types_typeAt_50 : decode prog_11_method_16_code 50 = .ok (.iconst (-1), 1) := by decide +kernel
theorem dd_Types_typeAt_51 : decode prog_11_method_16_code 51 = .ok (.ireturn, 1) := by decide +kernel
theorem dd_Types_placeOf_0 : decode prog_11_method_17_code 0 = .ok (.iload_n 1, 1) := by decide +kernel
theorem dd_Types_placeOf_1 : decode prog_11_method_17_code 1 = .ok (.ifCond .lt 20, 3) := by decide +kernel
theorem dd_Types_placeOf_4 : decode prog_11_method_17_code 4 = .ok (.iload_n 1, 1) := by decide +kernel
theorem dd_Types_placeOf_5 : decode prog_11_method_17_code 5 = .ok (.aload_n 0, 1) := by decide +kernel
theorem dd_Types_placeOf_6 : decode prog_11_method_17_code 6 = .ok (.getfield 27, 3) := by decide +kernel
theorem dd_Types_placeOf_9 : decode prog_11_method_17_code 9 = .ok (.if_icmp .ge 12, 3) := by decide +kernel
theorem dd_Types_placeOf_12 : decode prog_11_method_17_code 12 = .ok (.aload_n 0, 1) := by decide +kernel
theorem dd_Types_placeOf_13 : decode prog_11_method_17_code 13 = .ok (.getfield 18, 3) := by decide +kernel
theorem dd_Types_placeOf_16 : decode prog_11_method_17_code 16 = .ok (.iload_n 1, 1) := by decide +kernel
theorem dd_Types_placeOf_17 : decode prog_11_method_17_code 17 = .ok (.iaload, 1) := by decide +kernel
theorem dd_Types_placeOf_18 : decode prog_11_method_17_code 18 = .ok (.goto 4, 3) := by decide +kernel
theorem dd_Types_placeOf_21 : decode prog_11_method_17_code 21 = .ok (.iconst 0, 1) := by decide +kernel
theorem dd_Types_placeOf_22 : decode prog_11_method_17_code 22 = .ok (.istore 4, 2) := by decide +kernel
theorem dd_Types_placeOf_24 : decode prog_11_method_17_code 24 = .ok (.iconst 0, 1) := by decide +kernel
theorem dd_Types_placeOf_25 : decode prog_11_method_17_code 25 = .ok (.istore 5, 2) := by decide +kernel
theorem dd_Types_placeOf_27 : decode prog_11_method_17_code 27 = .ok (.iload 5, 2) := by decide +kernel
theorem dd_Types_placeOf_29 : decode prog_11_method_17_code 29 = .ok (.iload 4, 2) := by decide +kernel
theorem dd_Types_placeOf_31 : decode prog_11_method_17_code 31 = .ok (.if_icmp .ge 30, 3) := by decide +kernel
theorem dd_Types_placeOf_34 : decode prog_11_method_17_code 34 = .ok (.aload_n 0, 1) := by decide +kernel
theorem dd_Types_placeOf_35 : decode prog_11_method_17_code 35 = .ok (.getfield 21, 3) := by decide +kernel
theorem dd_Types_placeOf_38 : decode prog_11_method_17_code 38 = .ok (.iload_n 1, 1) := by decide +kernel
theorem dd_Types_placeOf_39 : decode prog_11_method_17_code 39 = .ok (.bipush 8, 2) := by decide +kernel
theorem dd_Types_placeOf_41 : decode prog_11_method_17_code 41 = .ok (.imul, 1) := by decide +kernel
theorem dd_Types_placeOf_42 : decode prog_11_method_17_code 42 = .ok (.iload 5, 2) := by decide +kernel
theorem dd_Types_placeOf_44 : decode prog_11_method_17_code 44 = .ok (.iadd, 1) := by decide +kernel
theorem dd_Types_placeOf_45 : decode prog_11_method_17_code 45 = .ok (.iaload, 1) := by decide +kernel
theorem dd_Types_placeOf_46 : decode prog_11_method_17_code 46 = .ok (.i2l, 1) := by decide +kernel
theorem dd_Types_placeOf_47 : decode prog_11_method_17_code 47 = .ok (.lload_n 2, 1) := by decide +kernel
theorem dd_Types_placeOf_48 : decode prog_11_method_17_code 48 = .ok (.lcmp, 1) := by decide +kernel
theorem dd_Types_placeOf_49 : decode prog_11_method_17_code 49 = .ok (.ifCond .ne 6, 3) := by decide +kernel
theorem dd_Types_placeOf_52 : decode prog_11_method_17_code 52 = .ok (.iload 5, 2) := by decide +kernel
theorem dd_Types_placeOf_54 : decode prog_11_method_17_code 54 = .ok (.ireturn, 1) := by decide +kernel
theorem dd_Types_placeOf_55 : decode prog_11_method_17_code 55 = .ok (.iinc 5 1, 3) := by decide +kernel
theorem dd_Types_placeOf_58 : decode prog_11_method_17_code 58 = .ok (.goto (-31), 3) := by decide +kernel
theorem dd_Types_placeOf_61 : decode prog_11_method_17_code 61 = .ok (.iconst (-1), 1) := by decide +kernel
theorem dd_Types_placeOf_62 : decode prog_11_method_17_code 62 = .ok (.ireturn, 1) := by decide +kernel
theorem dd_Ways_init_0 : decode prog_12_method_1_code 0 = .ok (.aload_n 0, 1) := by decide +kernel
theorem dd_Ways_init_1 : decode prog_12_method_1_code 1 = .ok (.invokespecial 3, 3) := by decide +kernel
theorem dd_Ways_init_4 : decode prog_12_method_1_code 4 = .ok (.aload_n 0, 1) := by decide +kernel
theorem dd_Ways_init_5 : decode prog_12_method_1_code 5 = .ok (.sipush 1600, 3) := by decide +kernel
theorem dd_Ways_init_8 : decode prog_12_method_1_code 8 = .ok (.newarray .int, 2) := by decide +kernel
theorem dd_Ways_init_10 : decode prog_12_method_1_code 10 = .ok (.putfield 9, 3) := by decide +kernel
theorem dd_Ways_init_13 : decode prog_12_method_1_code 13 = .ok (.aload_n 0, 1) := by decide +kernel
theorem dd_Ways_init_14 : decode prog_12_method_1_code 14 = .ok (.aload_n 1, 1) := by decide +kernel
theorem dd_Ways_init_15 : decode prog_12_method_1_code 15 = .ok (.putfield 15, 3) := by decide +kernel
theorem dd_Ways_init_18 : decode prog_12_method_1_code 18 = .ok (.aload_n 0, 1) := by decide +kernel
theorem dd_Ways_init_19 : decode prog_12_method_1_code 19 = .ok (.aload_n 2, 1) := by decide +kernel
theorem dd_Ways_init_20 : decode prog_12_method_1_code 20 = .ok (.putfield 19, 3) := by decide +kernel
theorem dd_Ways_init_23 : decode prog_12_method_1_code 23 = .ok (.return_, 1) := by decide +kernel
theorem dd_Ways_known_0 : decode prog_12_method_2_code 0 = .ok (.aload_n 0, 1) := by decide +kernel
theorem dd_Ways_known_1 : decode prog_12_method_2_code 1 = .ok (.getfield 15, 3) := by decide +kernel
theorem dd_Ways_known_4 : decode prog_12_method_2_code 4 = .ok (.iload_n 1, 1) := by decide +kernel
theorem dd_Ways_known_5 : decode prog_12_method_2_code 5 = .ok (.invokevirtual 23, 3) := by decide +kernel
theorem dd_Ways_known_8 : decode prog_12_method_2_code 8 = .ok (.ifCond .eq 28, 3) := by decide +kernel
theorem dd_Ways_known_11 : decode prog_12_method_2_code 11 = .ok (.aload_n 0, 1) := by decide +kernel
theorem dd_Ways_known_12 : decode prog_12_method_2_code 12 = .ok (.getfield 15, 3) := by decide +kernel
theorem dd_Ways_known_15 : decode prog_12_method_2_code 15 = .ok (.iload_n 2, 1) := by decide +kernel
theorem dd_Ways_known_16 : decode prog_12_method_2_code 16 = .ok (.invokevirtual 23, 3) := by decide +kernel
theorem dd_Ways_known_19 : decode prog_12_method_2_code 19 = .ok (.ifCond .eq 17, 3) := by decide +kernel
theorem dd_Ways_known_22 : decode prog_12_method_2_code 22 = .ok (.aload_n 0, 1) := by decide +kernel
theorem dd_Ways_known_23 : decode prog_12_method_2_code 23 = .ok (.getfield 9, 3) := by decide +kernel
theorem dd_Ways_known_26 : decode prog_12_method_2_code 26 = .ok (.iload_n 1, 1) := by decide +kernel
theorem dd_Ways_known_27 : decode prog_12_method_2_code 27 = .ok (.bipush 40, 2) := by decide +kernel
theorem dd_Ways_known_29 : decode prog_12_method_2_code 29 = .ok (.imul, 1) := by decide +kernel
theorem dd_Ways_known_30 : decode prog_12_method_2_code 30 = .ok (.iload_n 2, 1) := by decide +kernel
theorem dd_Ways_known_31 : decode prog_12_method_2_code 31 = .ok (.iadd, 1) := by decide +kernel
theorem dd_Ways_known_32 : decode prog_12_method_2_code 32 = .ok (.iaload, 1) := by decide +kernel
theorem dd_Ways_known_33 : decode prog_12_method_2_code 33 = .ok (.goto 4, 3) := by decide +kernel
theorem dd_Ways_known_36 : decode prog_12_method_2_code 36 = .ok (.iconst (-1), 1) := by decide +kernel
theorem dd_Ways_known_37 : decode prog_12_method_2_code 37 = .ok (.ireturn, 1) := by decide +kernel
theorem dd_Ways_find_0 : decode prog_12_method_3_code 0 = .ok (.iload_n 1, 1) := by decide +kernel
theorem dd_Ways_find_1 : decode prog_12_method_3_code 1 = .ok (.istore_n 3, 1) := by decide +kernel
theorem dd_Ways_find_2 : decode prog_12_method_3_code 2 = .ok (.iload_n 2, 1) := by decide +kernel
theorem dd_Ways_find_3 : decode prog_12_method_3_code 3 = .ok (.istore 4, 2) := by decide +kernel
theorem dd_Ways_find_5 : decode prog_12_method_3_code 5 = .ok (.iconst 0, 1) := by decide +kernel
theorem dd_Ways_find_6 : decode prog_12_method_3_code 6 = .ok (.istore 5, 2) := by decide +kernel
theorem dd_Ways_find_8 : decode prog_12_method_3_code 8 = .ok (.iload 5, 2) := by decide +kernel
theorem dd_Ways_find_10 : decode prog_12_method_3_code 10 = .ok (.bipush 40, 2) := by decide +kernel
theorem dd_Ways_find_12 : decode prog_12_method_3_code 12 = .ok (.if_icmp .ge 221, 3) := by decide +kernel
theorem dd_Ways_find_15 : decode prog_12_method_3_code 15 = .ok (.iload_n 3, 1) := by decide +kernel
theorem dd_Ways_find_16 : decode prog_12_method_3_code 16 = .ok (.iload 4, 2) := by decide +kernel
theorem dd_Ways_find_18 : decode prog_12_method_3_code 18 = .ok (.if_icmp .ne 7, 3) := by decide +kernel
theorem dd_Ways_find_21 : decode prog_12_method_3_code 21 = .ok (.iconst 0, 1) := by decide +kernel
theorem dd_Ways_find_22 : decode prog_12_method_3_code 22 = .ok (.goto 11, 3) := by decide +kernel
theorem dd_Ways_find_25 : decode prog_12_method_3_code 25 = .ok (.aload_n 0, 1) := by decide +kernel
theorem dd_Ways_find_26 : decode prog_12_method_3_code 26 = .ok (.iload_n 3, 1) := by decide +kernel
theorem dd_Ways_find_27 : decode prog_12_method_3_code 27 = .ok (.iload 4, 2) := by decide +kernel
theorem dd_Ways_find_29 : decode prog_12_method_3_code 29 = .ok (.iconst 0, 1) := by decide +kernel
theorem dd_Ways_find_30 : decode prog_12_method_3_code 30 = .ok (.invokevirtual 29, 3) := by decide +kernel
theorem dd_Ways_find_33 : decode prog_12_method_3_code 33 = .ok (.istore 6, 2) := by decide +kernel
theorem dd_Ways_find_35 : decode prog_12_method_3_code 35 = .ok (.iload 6, 2) := by decide +kernel
theorem dd_Ways_find_37 : decode prog_12_method_3_code 37 = .ok (.iconst (-1), 1) := by decide +kernel
theorem dd_Ways_find_38 : decode prog_12_method_3_code 38 = .ok (.if_icmp .ne 13, 3) := by decide +kernel
theorem dd_Ways_find_41 : decode prog_12_method_3_code 41 = .ok (.aload_n 0, 1) := by decide +kernel
theorem dd_Ways_find_42 : decode prog_12_method_3_code 42 = .ok (.iload_n 3, 1) := by decide +kernel
theorem dd_Ways_find_43 : decode prog_12_method_3_code 43 = .ok (.iload 4, 2) := by decide +kernel
theorem dd_Ways_find_45 : decode prog_12_method_3_code 45 = .ok (.invokevirtual 33, 3) := by decide +kernel
theorem dd_Ways_find_48 : decode prog_12_method_3_code 48 = .ok (.goto 5, 3) := by decide +kernel
theorem dd_Ways_find_51 : decode prog_12_method_3_code 51 = .ok (.iload 6, 2) := by decide +kernel
theorem dd_Ways_find_53 : decode prog_12_method_3_code 53 = .ok (.istore 6, 2) := by decide +kernel
theorem dd_Ways_find_55 : decode prog_12_method_3_code 55 = .ok (.iload 6, 2) := by decide +kernel
theorem dd_Ways_find_57 : decode prog_12_method_3_code 57 = .ok (.iconst (-1), 1) := by decide +kernel
theorem dd_Ways_find_58 : decode prog_12_method_3_code 58 = .ok (.if_icmp .ne 18, 3) := by decide +kernel
theorem dd_Ways_find_61 : decode prog_12_method_3_code 61 = .ok (.aload_n 0, 1) := by decide +kernel
theorem dd_Ways_find_62 : decode prog_12_method_3_code 62 = .ok (.iload_n 3, 1) := by decide +kernel
theorem dd_Ways_find_63 : decode prog_12_method_3_code 63 = .ok (.iload 4, 2) := by decide +kernel
theorem dd_Ways_find_65 : decode prog_12_method_3_code 65 = .ok (.invokevirtual 37, 3) := by decide +kernel
theorem dd_Ways_find_68 : decode prog_12_method_3_code 68 = .ok (.ifCond .eq 8, 3) := by decide +kernel
theorem dd_Ways_find_71 : decode prog_12_method_3_code 71 = .ok (.bipush 48, 2) := by decide +kernel
theorem dd_Ways_find_73 : decode prog_12_method_3_code 73 = .ok (.goto 5, 3) := by decide +kernel
theorem dd_Ways_find_76 : decode prog_12_method_3_code 76 = .ok (.iload 6, 2) := by decide +kernel
theorem dd_Ways_find_78 : decode prog_12_method_3_code 78 = .ok (.istore 6, 2) := by decide +kernel
theorem dd_Ways_find_80 : decode prog_12_method_3_code 80 = .ok (.iload 6, 2) := by decide +kernel
theorem dd_Ways_find_82 : decode prog_12_method_3_code 82 = .ok (.iconst (-1), 1) := by decide +kernel
theorem dd_Ways_find_83 : decode prog_12_method_3_code 83 = .ok (.if_icmp .ne 14, 3) := by decide +kernel
theorem dd_Ways_find_86 : decode prog_12_method_3_code 86 = .ok (.aload_n 0, 1) := by decide +kernel
theorem dd_Ways_find_87 : decode prog_12_method_3_code 87 = .ok (.iload_n 3, 1) := by decide +kernel
theorem dd_Ways_find_88 : decode prog_12_method_3_code 88 = .ok (.iload 4, 2) := by decide +kernel
theorem dd_Ways_find_90 : decode prog_12_method_3_code 90 = .ok (.iconst 1, 1) := by decide +kernel
theorem dd_Ways_find_91 : decode prog_12_method_3_code 91 = .ok (.invokevirtual 29, 3) := by decide +kernel
theorem dd_Ways_find_94 : decode prog_12_method_3_code 94 = .ok (.goto 5, 3) := by decide +kernel
theorem dd_Ways_find_97 : decode prog_12_method_3_code 97 = .ok (.iload 6, 2) := by decide +kernel
theorem dd_Ways_find_99 : decode prog_12_method_3_code 99 = .ok (.istore 6, 2) := by decide +kernel
theorem dd_Ways_find_101 : decode prog_12_method_3_code 101 = .ok (.iload 6, 2) := by decide +kernel
theorem dd_Ways_find_103 : decode prog_12_method_3_code 103 = .ok (.iconst (-1), 1) := by decide +kernel
theorem dd_Ways_find_104 : decode prog_12_method_3_code 104 = .ok (.if_icmp .ne 30, 3) := by decide +kernel
theorem dd_Ways_find_107 : decode prog_12_method_3_code 107 = .ok (.aload_n 0, 1) := by decide +kernel
theorem dd_Ways_find_108 : decode prog_12_method_3_code 108 = .ok (.getfield 15, 3) := by decide +kernel
theorem dd_Ways_find_111 : decode prog_12_method_3_code 111 = .ok (.iload_n 3, 1) := by decide +kernel
theorem dd_Ways_find_112 : decode prog_12_method_3_code 112 = .ok (.invokevirtual 41, 3) := by decide +kernel
theorem dd_Ways_find_115 : decode prog_12_method_3_code 115 = .ok (.ifCond .eq 19, 3) := by decide +kernel
theorem dd_Ways_find_118 : decode prog_12_method_3_code 118 = .ok (.aload_n 0, 1) := by decide +kernel
theorem dd_Ways_find_119 : decode prog_12_method_3_code 119 = .ok (.getfield 15, 3) := by decide +kernel
theorem dd_Ways_find_122 : decode prog_12_method_3_code 122 = .ok (.iload 4, 2) := by decide +kernel
theorem dd_Ways_find_124 : decode prog_12_method_3_code 124 = .ok (.invokevirtual 41, 3) := by decide +kernel
theorem dd_Ways_find_127 : decode prog_12_method_3_code 127 = .ok (.ifCond .eq 7, 3) := by decide +kernel
theorem dd_Ways_find_130 : decode prog_12_method_3_code 130 = .ok (.iconst 1, 1) := by decide +kernel
theorem dd_Ways_find_131 : decode prog_12_method_3_code 131 = .ok (.goto 4, 3) := by decide +kernel
theorem dd_Ways_find_134 : decode prog_12_method_3_code 134 = .ok (.iconst 0, 1) := by decide +kernel
theorem dd_Ways_find_135 : decode prog_12_method_3_code 135 = .ok (.istore 7, 2) := by decide +kernel
theorem dd_Ways_find_137 : decode prog_12_method_3_code 137 = .ok (.aload_n 0, 1) := by decide +kernel
theorem dd_Ways_find_138 : decode prog_12_method_3_code 138 = .ok (.getfield 15, 3) := by decide +kernel
theorem dd_Ways_find_141 : decode prog_12_method_3_code 141 = .ok (.iload_n 3, 1) := by decide +kernel
theorem dd_Ways_find_142 : decode prog_12_method_3_code 142 = .ok (.invokevirtual 23, 3) := by decide +kernel
theorem dd_Ways_find_145 : decode prog_12_method_3_code 145 = .ok (.ifCond .eq 39, 3) := by decide +kernel
theorem dd_Ways_find_148 : decode prog_12_method_3_code 148 = .ok (.aload_n 0, 1) := by decide +kernel
theorem dd_Ways_find_149 : decode prog_12_method_3_code 149 = .ok (.getfield 15, 3) := by decide +kernel
theorem dd_Ways_find_152 : decode prog_12_method_3_code 152 = .ok (.iload 4, 2) := by decide +kernel
theorem dd_Ways_find_154 : decode prog_12_method_3_code 154 = .ok (.invokevirtual 23, 3) := by decide +kernel
theorem dd_Ways_find_157 : decode prog_12_method_3_code 157 = .ok (.ifCond .eq 27, 3) := by decide +kernel
theorem dd_Ways_find_160 : decode prog_12_method_3_code 160 = .ok (.aload_n 0, 1) := by decide +kernel
theorem dd_Ways_find_161 : decode prog_12_method_3_code 161 = .ok (.getfield 9, 3) := by decide +kernel
theorem dd_Ways_find_164 : decode prog_12_method_3_code 164 = .ok (.iload_n 3, 1) := by decide +kernel
theorem dd_Ways_find_165 : decode prog_12_method_3_code 165 = .ok (.bipush 40, 2) := by decide +kernel
theorem dd_Ways_find_167 : decode prog_12_method_3_code 167 = .ok (.imul, 1) := by decide +kernel
theorem dd_Ways_find_168 : decode prog_12_method_3_code 168 = .ok (.iload 4, 2) := by decide +kernel
theorem dd_Ways_find_170 : decode prog_12_method_3_code 170 = .ok (.iadd, 1) := by decide +kernel
theorem dd_Ways_find_171 : decode prog_12_method_3_code 171 = .ok (.iload 7, 2) := by decide +kernel
theorem dd_Ways_find_173 : decode prog_12_method_3_code 173 = .ok (.ifCond .eq 8, 3) := by decide +kernel
theorem dd_Ways_find_176 : decode prog_12_method_3_code 176 = .ok (.bipush 64, 2) := by decide +kernel
theorem dd_Ways_find_178 : decode prog_12_method_3_code 178 = .ok (.goto 5, 3) := by decide +kernel
theorem dd_Ways_find_181 : decode prog_12_method_3_code 181 = .ok (.iload 6, 2) := by decide +kernel
theorem dd_Ways_find_183 : decode prog_12_method_3_code 183 = .ok (.iastore, 1) := by decide +kernel
theorem dd_Ways_find_184 : decode prog_12_method_3_code 184 = .ok (.iload 7, 2) := by decide +kernel
theorem dd_Ways_find_186 : decode prog_12_method_3_code 186 = .ok (.ifCond .ne 21, 3) := by decide +kernel
theorem dd_Ways_find_189 : decode prog_12_method_3_code 189 = .ok (.iload 5, 2) := by decide +kernel
theorem dd_Ways_find_191 : decode prog_12_method_3_code 191 = .ok (.ifCond .eq 8, 3) := by decide +kernel
theorem dd_Ways_find_194 : decode prog_12_method_3_code 194 = .ok (.iload 6, 2) := by decide +kernel
theorem dd_Ways_find_196 : decode prog_12_method_3_code 196 = .ok (.ifCond .ge 8, 3) := by decide +kernel
theorem dd_Ways_find_199 : decode prog_12_method_3_code 199 = .ok (.iload 6, 2) := by decide +kernel
theorem dd_Ways_find_201 : decode prog_12_method_3_code 201 = .ok (.goto 5, 3) := by decide +kernel
theorem dd_Ways_find_204 : decode prog_12_method_3_code 204 = .ok (.bipush 64, 2) := by decide +kernel
theorem dd_Ways_find_206 : decode prog_12_method_3_code 206 = .ok (.ireturn, 1) := by decide +kernel
theorem dd_Ways_find_207 : decode prog_12_method_3_code 207 = .ok (.aload_n 0, 1) := by decide +kernel
theorem dd_Ways_find_208 : decode prog_12_method_3_code 208 = .ok (.getfield 15, 3) := by decide +kernel
theorem dd_Ways_find_211 : decode prog_12_method_3_code 211 = .ok (.iload_n 3, 1) := by decide +kernel
theorem dd_Ways_find_212 : decode prog_12_method_3_code 212 = .ok (.invokevirtual 44, 3) := by decide +kernel
theorem dd_Ways_find_215 : decode prog_12_method_3_code 215 = .ok (.istore_n 3, 1) := by decide +kernel
theorem dd_Ways_find_216 : decode prog_12_method_3_code 216 = .ok (.aload_n 0, 1) := by decide +kernel
theorem dd_Ways_find_217 : decode prog_12_method_3_code 217 = .ok (.getfield 15, 3) := by decide +kernel
theorem dd_Ways_find_220 : decode prog_12_method_3_code 220 = .ok (.iload 4, 2) := by decide +kernel
theorem dd_Ways_find_222 : decode prog_12_method_3_code 222 = .ok (.invokevirtual 44, 3) := by decide +kernel
theorem dd_Ways_find_225 : decode prog_12_method_3_code 225 = .ok (.istore 4, 2) := by decide +kernel
theorem dd_Ways_find_227 : decode prog_12_method_3_code 227 = .ok (.iinc 5 1, 3) := by decide +kernel
theorem dd_Ways_find_230 : decode prog_12_method_3_code 230 = .ok (.goto (-222), 3) := by decide +kernel
theorem dd_Ways_find_233 : decode prog_12_method_3_code 233 = .ok (.iconst (-1), 1) := by decide +kernel
theorem dd_Ways_find_234 : decode prog_12_method_3_code 234 = .ok (.ireturn, 1) := by decide +kernel
theorem dd_Ways_functionWay_0 : decode prog_12_method_4_code 0 = .ok (.iconst (-1), 1) := by decide +kernel
theorem dd_Ways_functionWay_1 : decode prog_12_method_4_code 1 = .ok (.istore 4, 2) := by decide +kernel
theorem dd_Ways_functionWay_3 : decode prog_12_method_4_code 3 = .ok (.iconst 0, 1) := by decide +kernel
theorem dd_Ways_functionWay_4 : decode prog_12_method_4_code 4 = .ok (.istore 5, 2) := by decide +kernel
theorem dd_Ways_functionWay_6 : decode prog_12_method_4_code 6 = .ok (.iload 5, 2) := by decide +kernel
theorem dd_Ways_functionWay_8 : decode prog_12_method_4_code 8 = .ok (.aload_n 0, 1) := by decide +kernel
theorem dd_Ways_functionWay_9 : decode prog_12_method_4_code 9 = .ok (.getfield 19, 3) := by decide +kernel
theorem dd_Ways_functionWay_12 : decode prog_12_method_4_code 12 = .ok (.getfield 48, 3) := by decide +kernel
theorem dd_Ways_functionWay_15 : decode prog_12_method_4_code 15 = .ok (.if_icmp .ge 92, 3) := by decide +kernel
theorem dd_Ways_functionWay_18 : decode prog_12_method_4_code 18 = .ok (.aload_n 0, 1) := by decide +kernel
theorem dd_Ways_functionWay_19 : decode prog_12_method_4_code 19 = .ok (.getfield 19, 3) := by decide +kernel
theorem dd_Ways_functionWay_22 : decode prog_12_method_4_code 22 = .ok (.getfield 54, 3) := by decide +kernel
theorem dd_Ways_functionWay_25 : decode prog_12_method_4_code 25 = .ok (.iload 5, 2) := by decide +kernel
theorem dd_Ways_functionWay_27 : decode prog_12_method_4_code 27 = .ok (.aaload, 1) := by decide +kernel
theorem dd_Ways_functionWay_28 : decode prog_12_method_4_code 28 = .ok (.astore 6, 2) := by decide +kernel
theorem dd_Ways_functionWay_30 : decode prog_12_method_4_code 30 = .ok (.iload_n 3, 1) := by decide +kernel
theorem dd_Ways_functionWay_31 : decode prog_12_method_4_code 31 = .ok (.ifCond .eq 16, 3) := by decide +kernel
theorem dd_Ways_functionWay_34 : decode prog_12_method_4_code 34 = .ok (.aload_n 0, 1) := by decide +kernel
theorem dd_Ways_functionWay_35 : decode prog_12_method_4_code 35 = .ok (.iload_n 1, 1) := by decide +kernel
theorem dd_Ways_functionWay_36 : decode prog_12_method_4_code 36 = .ok (.aload 6, 2) := by decide +kernel
theorem dd_Ways_functionWay_38 : decode prog_12_method_4_code 38 = .ok (.getfield 58, 3) := by decide +kernel
theorem dd_Ways_functionWay_41 : decode prog_12_method_4_code 41 = .ok (.invokevirtual 37, 3) := by decide +kernel
theorem dd_Ways_functionWay_44 : decode prog_12_method_4_code 44 = .ok (.goto 17, 3) := by decide +kernel
theorem dd_Ways_functionWay_47 : decode prog_12_method_4_code 47 = .ok (.iload_n 1, 1) := by decide +kernel
theorem dd_Ways_functionWay_48 : decode prog_12_method_4_code 48 = .ok (.aload 6, 2) := by decide +kernel
theorem dd_Ways_functionWay_50 : decode prog_12_method_4_code 50 = .ok (.getfield 58, 3) := by decide +kernel
theorem dd_Ways_functionWay_53 : decode prog_12_method_4_code 53 = .ok (.if_icmp .ne 7, 3) := by decide +kernel
theorem dd_Ways_functionWay_56 : decode prog_12_method_4_code 56 = .ok (.iconst 1, 1) := by decide +kernel
theorem dd_Ways_functionWay_57 : decode prog_12_method_4_code 57 = .ok (.goto 4, 3) := by decide +kernel
theorem dd_Ways_functionWay_60 : decode prog_12_method_4_code 60 = .ok (.iconst 0, 1) := by decide +kernel
theorem dd_Ways_functionWay_61 : decode prog_12_method_4_code 61 = .ok (.istore 7, 2) := by decide +kernel
theorem dd_Ways_functionWay_63 : decode prog_12_method_4_code 63 = .ok (.aload 6, 2) := by decide +kernel
theorem dd_Ways_functionWay_65 : decode prog_12_method_4_code 65 = .ok (.getfield 63, 3) := by decide +kernel
theorem dd_Ways_functionWay_68 : decode prog_12_method_4_code 68 = .ok (.ifCond .ne 33, 3) := by decide +kernel
theorem dd_Ways_functionWay_71 : decode prog_12_method_4_code 71 = .ok (.aload 6, 2) := by decide +kernel
theorem dd_Ways_functionWay_73 : decode prog_12_method_4_code 73 = .ok (.getfield 67, 3) := by decide +kernel
theorem dd_Ways_functionWay_76 : decode prog_12_method_4_code 76 = .ok (.iload_n 2, 1) := by decide +kernel
theorem dd_Ways_functionWay_77 : decode prog_12_method_4_code 77 = .ok (.if_icmp .ne 24, 3) := by decide +kernel
theorem dd_Ways_functionWay_80 : decode prog_12_method_4_code 80 = .ok (.iload 7, 2) := by decide +kernel
theorem dd_Ways_functionWay_82 : decode prog_12_method_4_code 82 = .ok (.ifCond .eq 19, 3) := by decide +kernel
theorem dd_Ways_functionWay_85 : decode prog_12_method_4_code 85 = .ok (.iload 4, 2) := by decide +kernel
theorem dd_Ways_functionWay_87 : decode prog_12_method_4_code 87 = .ok (.iconst (-1), 1) := by decide +kernel
theorem dd_Ways_functionWay_88 : decode prog_12_method_4_code 88 = .ok (.if_icmp .eq 6, 3) := by decide +kernel
theorem dd_Ways_functionWay_91 : decode prog_12_method_4_code 91 = .ok (.bipush (-2), 2) := by decide +kernel
theorem dd_Ways_functionWay_93 : decode prog_12_method_4_code 93 = .ok (.ireturn, 1) := by decide +kernel
theorem dd_Ways_functionWay_94 : decode prog_12_method_4_code 94 = .ok (.bipush 16, 2) := by decide +kernel
theorem dd_Ways_functionWay_96 : decode prog_12_method_4_code 96 = .ok (.iload 5, 2) := by decide +kernel
theorem dd_Ways_functionWay_98 : decode prog_12_method_4_code 98 = .ok (.iadd, 1) := by decide +kernel
theorem dd_Ways_functionWay_99 : decode prog_12_method_4_code 99 = .ok (.istore 4, 2) := by decide +kernel
theorem dd_Ways_functionWay_101 : decode prog_12_method_4_code 101 = .ok (.iinc 5 1, 3) := by decide +kernel
theorem dd_Ways_functionWay_104 : decode prog_12_method_4_code 104 = .ok (.goto (-98), 3) := by decide +kernel
theorem dd_Ways_functionWay_107 : decode prog_12_method_4_code 107 = .ok (.iload 4, 2) := by decide +kernel
theorem dd_Ways_functionWay_109 : decode prog_12_method_4_code 109 = .ok (.ireturn, 1) := by decide +kernel
theorem dd_Ways_methodWay_0 : decode prog_12_method_5_code 0 = .ok (.iconst (-1), 1) := by decide +kernel
theorem dd_Ways_methodWay_1 : decode prog_12_method_5_code 1 = .ok (.istore_n 3, 1) := by decide +kernel
theorem dd_Ways_methodWay_2 : decode prog_12_method_5_code 2 = .ok (.iconst 0, 1) := by decide +kernel
theorem dd_Ways_methodWay_3 : decode prog_12_method_5_code 3 = .ok (.istore 4, 2) := by decide +kernel
theorem dd_Ways_methodWay_5 : decode prog_12_method_5_code 5 = .ok (.iload 4, 2) := by decide +kernel
theorem dd_Ways_methodWay_7 : decode prog_12_method_5_code 7 = .ok (.aload_n 0, 1) := by decide +kernel
theorem dd_Ways_methodWay_8 : decode prog_12_method_5_code 8 = .ok (.getfield 19, 3) := by decide +kernel
theorem dd_Ways_methodWay_11 : decode prog_12_method_5_code 11 = .ok (.getfield 70, 3) := by decide +kernel
theorem dd_Ways_methodWay_14 : decode prog_12_method_5_code 14 = .ok (.if_icmp .ge 57, 3) := by decide +kernel
theorem dd_Ways_methodWay_17 : decode prog_12_method_5_code 17 = .ok (.aload_n 0, 1) := by decide +kernel
theorem dd_Ways_methodWay_18 : decode prog_12_method_5_code 18 = .ok (.getfield 19, 3) := by decide +kernel
theorem dd_Ways_methodWay_21 : decode prog_12_method_5_code 21 = .ok (.getfield 73, 3) := by decide +kernel
theorem dd_Ways_methodWay_24 : decode prog_12_method_5_code 24 = .ok (.iload 4, 2) := by decide +kernel
theorem dd_Ways_methodWay_26 : decode prog_12_method_5_code 26 = .ok (.aaload, 1) := by decide +kernel
theorem dd_Ways_methodWay_27 : decode prog_12_method_5_code 27 = .ok (.getfield 77, 3) := by decide +kernel
theorem dd_Ways_methodWay_30 : decode prog_12_method_5_code 30 = .ok (.iload_n 1, 1) := by decide +kernel
theorem dd_Ways_methodWay_31 : decode prog_12_method_5_code 31 = .ok (.if_icmp .ne 34, 3) := by decide +kernel
theorem dd_Ways_methodWay_34 : decode prog_12_method_5_code 34 = .ok (.aload_n 0, 1) := by decide +kernel
theorem dd_Ways_methodWay_35 : decode prog_12_method_5_code 35 = .ok (.getfield 19, 3) := by decide +kernel
theorem dd_Ways_methodWay_38 : decode prog_12_method_5_code 38 = .ok (.getfield 73, 3) := by decide +kernel
theorem dd_Ways_methodWay_41 : decode prog_12_method_5_code 41 = .ok (.iload 4, 2) := by decide +kernel
theorem dd_Ways_methodWay_43 : decode prog_12_method_5_code 43 = .ok (.aaload, 1) := by decide +kernel
theorem dd_Ways_methodWay_44 : decode prog_12_method_5_code 44 = .ok (.getfield 80, 3) := by decide +kernel
theorem dd_Ways_methodWay_47 : decode prog_12_method_5_code 47 = .ok (.iload_n 2, 1) := by decide +kernel
theorem dd_Ways_methodWay_48 : decode prog_12_method_5_code 48 = .ok (.if_icmp .ne 17, 3) := by decide +kernel
theorem dd_Ways_methodWay_51 : decode prog_12_method_5_code 51 = .ok (.iload_n 3, 1) := by decide +kernel
theorem dd_Ways_methodWay_52 : decode prog_12_method_5_code 52 = .ok (.iconst (-1), 1) := by decide +kernel
theorem dd_Ways_methodWay_53 : decode prog_12_method_5_code 53 = .ok (.if_icmp .eq 6, 3) := by decide +kernel
theorem dd_Ways_methodWay_56 : decode prog_12_method_5_code 56 = .ok (.bipush (-2), 2) := by decide +kernel
theorem dd_Ways_methodWay_58 : decode prog_12_method_5_code 58 = .ok (.ireturn, 1) := by decide +kernel
theorem dd_Ways_methodWay_59 : decode prog_12_method_5_code 59 = .ok (.bipush 32, 2) := by decide +kernel
theorem dd_Ways_methodWay_61 : decode prog_12_method_5_code 61 = .ok (.iload 4, 2) := by decide +kernel
theorem dd_Ways_methodWay_63 : decode prog_12_method_5_code 63 = .ok (.iadd, 1) := by decide +kernel
theorem dd_Ways_methodWay_64 : decode prog_12_method_5_code 64 = .ok (.istore_n 3, 1) := by decide +kernel
theorem dd_Ways_methodWay_65 : decode prog_12_method_5_code 65 = .ok (.iinc 4 1, 3) := by decide +kernel
theorem dd_Ways_methodWay_68 : decode prog_12_method_5_code 68 = .ok (.goto (-63), 3) := by decide +kernel
theorem dd_Ways_methodWay_71 : decode prog_12_method_5_code 71 = .ok (.iload_n 3, 1) := by decide +kernel
theorem dd_Ways_methodWay_72 : decode prog_12_method_5_code 72 = .ok (.ireturn, 1) := by decide +kernel
theorem dd_Ways_converts_0 : decode prog_12_method_6_code 0 = .ok (.iload_n 1, 1) := by decide +kernel
theorem dd_Ways_converts_1 : decode prog_12_method_6_code 1 = .ok (.invokestatic 81, 3) := by decide +kernel
theorem dd_Ways_converts_4 : decode prog_12_method_6_code 4 = .ok (.ifCond .eq 44, 3) := by decide +kernel
theorem dd_Ways_converts_7 : decode prog_12_method_6_code 7 = .ok (.iload_n 2, 1) := by decide +kernel
theorem dd_Ways_converts_8 : decode prog_12_method_6_code 8 = .ok (.invokestatic 81, 3) := by decide +kernel
theorem dd_Ways_converts_11 : decode prog_12_method_6_code 11 = .ok (.ifCond .eq 37, 3) := by decide +kernel
theorem dd_Ways_converts_14 : decode prog_12_method_6_code 14 = .ok (.iload_n 1, 1) := by decide +kernel
theorem dd_Ways_converts_15 : decode prog_12_method_6_code 15 = .ok (.invokestatic 86, 3) := by decide +kernel
theorem dd_Ways_converts_18 : decode prog_12_method_6_code 18 = .ok (.istore_n 3, 1) := by decide +kernel
theorem dd_Ways_converts_19 : decode prog_12_method_6_code 19 = .ok (.iload_n 2, 1) := by decide +kernel
theorem dd_Ways_converts_20 : decode prog_12_method_6_code 20 = .ok (.invokestatic 86, 3) := by decide +kernel
theorem dd_Ways_converts_23 : decode prog_12_method_6_code 23 = .ok (.istore 4, 2) := by decide +kernel
theorem dd_Ways_converts_25 : decode prog_12_method_6_code 25 = .ok (.iload_n 3, 1) := by decide +kernel
theorem dd_Ways_converts_26 : decode prog_12_method_6_code 26 = .ok (.iload 4, 2) := by decide +kernel
theorem dd_Ways_converts_28 : decode prog_12_method_6_code 28 = .ok (.if_icmp .eq 14, 3) := by decide +kernel
theorem dd_Ways_converts_31 : decode prog_12_method_6_code 31 = .ok (.iload_n 3, 1) := by decide +kernel
theorem dd_Ways_converts_32 : decode prog_12_method_6_code 32 = .ok (.iconst 5, 1) := by decide +kernel
theorem dd_Ways_converts_33 : decode prog_12_method_6_code 33 = .ok (.if_icmp .eq 13, 3) := by decide +kernel
theorem dd_Ways_converts_36 : decode prog_12_method_6_code 36 = .ok (.iload 4, 2) := by decide +kernel
theorem dd_Ways_converts_38 : decode prog_12_method_6_code 38 = .ok (.iconst 5, 1) := by decide +kernel
theorem dd_Ways_converts_39 : decode prog_12_method_6_code 39 = .ok (.if_icmp .eq 7, 3) := by decide +kernel
theorem dd_Ways_converts_42 : decode prog_12_method_6_code 42 = .ok (.iconst 1, 1) := by decide +kernel
theorem dd_Ways_converts_43 : decode prog_12_method_6_code 43 = .ok (.goto 4, 3) := by decide +kernel
theorem dd_Ways_converts_46 : decode prog_12_method_6_code 46 = .ok (.iconst 0, 1) := by decide +kernel
theorem dd_Ways_converts_47 : decode prog_12_method_6_code 47 = .ok (.ireturn, 1) := by decide +kernel
theorem dd_Ways_converts_48 : decode prog_12_method_6_code 48 = .ok (.iload_n 2, 1) := by decide +kernel
theorem dd_Ways_converts_49 : decode prog_12_method_6_code 49 = .ok (.bipush 14, 2) := by decide +kernel
theorem dd_Ways_converts_51 : decode prog_12_method_6_code 51 = .ok (.if_icmp .ne 27, 3) := by decide +kernel
theorem dd_Ways_converts_54 : decode prog_12_method_6_code 54 = .ok (.iload_n 1, 1) := by decide +kernel
theorem dd_Ways_converts_55 : decode prog_12_method_6_code 55 = .ok (.invokestatic 89, 3) := by decide +kernel
theorem dd_Ways_converts_58 : decode prog_12_method_6_code 58 = .ok (.ifCond .ne 14, 3) := by decide +kernel
theorem dd_Ways_converts_61 : decode prog_12_method_6_code 61 = .ok (.aload_n 0, 1) := by decide +kernel
theorem dd_Ways_converts_62 : decode prog_12_method_6_code 62 = .ok (.getfield 15, 3) := by decide +kernel
theorem dd_Ways_converts_65 : decode prog_12_method_6_code 65 = .ok (.iload_n 1, 1) := by decide +kernel
theorem dd_Ways_converts_66 : decode prog_12_method_6_code 66 = .ok (.invokevirtual 92, 3) := by decide +kernel
theorem dd_Ways_converts_69 : decode prog_12_method_6_code 69 = .ok (.ifCond .eq 7, 3) := by decide +kernel
theorem dd_Ways_converts_72 : decode prog_12_method_6_code 72 = .ok (.iconst 1, 1) := by decide +kernel
theorem dd_Ways_converts_73 : decode prog_12_method_6_code 73 = .ok (.goto 4, 3) := by decide +kernel
theorem dd_Ways_converts_76 : decode prog_12_method_6_code 76 = .ok (.iconst 0, 1) := by decide +kernel
theorem dd_Ways_converts_77 : decode prog_12_method_6_code 77 = .ok (.ireturn, 1) := by decide +kernel
theorem dd_Ways_converts_78 : decode prog_12_method_6_code 78 = .ok (.iload_n 1, 1) := by decide +kernel
theorem dd_Ways_converts_79 : decode prog_12_method_6_code 79 = .ok (.bipush 14, 2) := by decide +kernel
theorem dd_Ways_converts_81 : decode prog_12_method_6_code 81 = .ok (.if_icmp .ne 25, 3) := by decide +kernel
theorem dd_Ways_converts_84 : decode prog_12_method_6_code 84 = .ok (.iload_n 2, 1) := by decide +kernel
theorem dd_Ways_converts_85 : decode prog_12_method_6_code 85 = .ok (.invokestatic 89, 3) := by decide +kernel
theorem dd_Ways_converts_88 : decode prog_12_method_6_code 88 = .ok (.ifCond .ne 14, 3) := by decide +kernel
theorem dd_Ways_converts_91 : decode prog_12_method_6_code 91 = .ok (.aload_n 0, 1) := by decide +kernel
theorem dd_Ways_converts_92 : decode prog_12_method_6_code 92 = .ok (.getfield 15, 3) := by decide +kernel
theorem dd_Ways_converts_95 : decode prog_12_method_6_code 95 = .ok (.iload_n 2, 1) := by decide +kernel
theorem dd_Ways_converts_96 : decode prog_12_method_6_code 96 = .ok (.invokevirtual 92, 3) := by decide +kernel
theorem dd_Ways_converts_99 : decode prog_12_method_6_code 99 = .ok (.ifCond .eq 7, 3) := by decide +kernel
theorem dd_Ways_converts_102 : decode prog_12_method_6_code 102 = .ok (.iconst 1, 1) := by decide +kernel
theorem dd_Ways_converts_103 : decode prog_12_method_6_code 103 = .ok (.goto 4, 3) := by decide +kernel
theorem dd_Ways_converts_106 : decode prog_12_method_6_code 106 = .ok (.iconst 0, 1) := by decide +kernel
theorem dd_Ways_converts_107 : decode prog_12_method_6_code 107 = .ok (.ireturn, 1) := by decide +kernel
theorem dd_Loom_init_0 : decode prog_1_method_1_code 0 = .ok (.aload_n 0, 1) := by decide +kernel
theorem dd_Loom_init_1 : decode prog_1_method_1_code 1 = .ok (.invokespecial 1, 3) := by decide +kernel
theorem dd_Loom_init_4 : decode prog_1_method_1_code 4 = .ok (.aload_n 0, 1) := by decide +kernel
theorem dd_Loom_init_5 : decode prog_1_method_1_code 5 = .ok (.new 7, 3) := by decide +kernel
theorem dd_Loom_init_8 : decode prog_1_method_1_code 8 = .ok (.dup, 1) := by decide +kernel
theorem dd_Loom_init_9 : decode prog_1_method_1_code 9 = .ok (.invokespecial 9, 3) := by decide +kernel
theorem dd_Loom_init_12 : decode prog_1_method_1_code 12 = .ok (.putfield 10, 3) := by decide +kernel
theorem dd_Loom_init_15 : decode prog_1_method_1_code 15 = .ok (.aload_n 0, 1) := by decide +kernel
theorem dd_Loom_init_16 : decode prog_1_method_1_code 16 = .ok (.new 16, 3) := by decide +kernel
theorem dd_Loom_init_19 : decode prog_1_method_1_code 19 = .ok (.dup, 1) := by decide +kernel
theorem dd_Loom_init_20 : decode prog_1_method_1_code 20 = .ok (.invokespecial 18, 3) := by decide +kernel
theorem dd_Loom_init_23 : decode prog_1_method_1_code 23 = .ok (.putfield 19, 3) := by decide +kernel
theorem dd_Loom_init_26 : decode prog_1_method_1_code 26 = .ok (.aload_n 0, 1) := by decide +kernel
theorem dd_Loom_init_27 : decode prog_1_method_1_code 27 = .ok (.new 23, 3) := by decide +kernel
theorem dd_Loom_init_30 : decode prog_1_method_1_code 30 = .ok (.dup, 1) := by decide +kernel
theorem dd_Loom_init_31 : decode prog_1_method_1_code 31 = .ok (.aload_n 0, 1) := by decide +kernel
theorem dd_Loom_init_32 : decode prog_1_method_1_code 32 = .ok (.getfield 10, 3) := by decide +kernel
theorem dd_Loom_init_35 : decode prog_1_method_1_code 35 = .ok (.invokespecial 25, 3) := by decide +kernel
theorem dd_Loom_init_38 : decode prog_1_method_1_code 38 = .ok (.putfield 28, 3) := by decide +kernel
theorem dd_Loom_init_41 : decode prog_1_method_1_code 41 = .ok (.new 32, 3) := by decide +kernel
theorem dd_Loom_init_44 : decode prog_1_method_1_code 44 = .ok (.dup, 1) := by decide +kernel
theorem dd_Loom_init_45 : decode prog_1_method_1_code 45 = .ok (.aload_n 0, 1) := by decide +kernel
theorem dd_Loom_init_46 : decode prog_1_method_1_code 46 = .ok (.getfield 10, 3) := by decide +kernel
theorem dd_Loom_init_49 : decode prog_1_method_1_code 49 = .ok (.aload_n 0, 1) := by decide +kernel
theorem dd_Loom_init_50 : decode prog_1_method_1_code 50 = .ok (.getfield 19, 3) := by decide +kernel
theorem dd_Loom_init_53 : decode prog_1_method_1_code 53 = .ok (.invokespecial 34, 3) := by decide +kernel
theorem dd_Loom_init_56 : decode prog_1_method_1_code 56 = .ok (.astore_n 1, 1) := by decide +kernel
theorem dd_Loom_init_57 : decode prog_1_method_1_code 57 = .ok (.aload_n 0, 1) := by decide +kernel
theorem dd_Loom_init_58 : decode prog_1_method_1_code 58 = .ok (.new 37, 3) := by decide +kernel
theorem dd_Loom_init_61 : decode prog_1_method_1_code 61 = .ok (.dup, 1) := by decide +kernel
theorem dd_Loom_init_62 : decode prog_1_method_1_code 62 = .ok (.aload_n 0, 1) := by decide +kernel
theorem dd_Loom_init_63 : decode prog_1_method_1_code 63 = .ok (.getfield 10, 3) := by decide +kernel
theorem dd_Loom_init_66 : decode prog_1_method_1_code 66 = .ok (.aload_n 0, 1) := by decide +kernel
theorem dd_Loom_init_67 : decode prog_1_method_1_code 67 = .ok (.getfield 19, 3) := by decide +kernel
theorem dd_Loom_init_70 : decode prog_1_method_1_code 70 = .ok (.aload_n 1, 1) := by decide +kernel
theorem dd_Loom_init_71 : decode prog_1_method_1_code 71 = .ok (.invokespecial 39, 3) := by decide +kernel
theorem dd_Loom_init_74 : decode prog_1_method_1_code 74 = .ok (.putfield 42, 3) := by decide +kernel
theorem dd_Loom_init_77 : decode prog_1_method_1_code 77 = .ok (.aload_n 0, 1) := by decide +kernel
theorem dd_Loom_init_78 : decode prog_1_method_1_code 78 = .ok (.new 46, 3) := by decide +kernel
theorem dd_Loom_init_81 : decode prog_1_method_1_code 81 = .ok (.dup, 1) := by decide +kernel
theorem dd_Loom_init_82 : decode prog_1_method_1_code 82 = .ok (.aload_n 0, 1) := by decide +kernel
theorem dd_Loom_init_83 : decode prog_1_method_1_code 83 = .ok (.getfield 10, 3) := by decide +kernel
theorem dd_Loom_init_86 : decode prog_1_method_1_code 86 = .ok (.aload_n 0, 1) := by decide +kernel
theorem dd_Loom_init_87 : decode prog_1_method_1_code 87 = .ok (.getfield 19, 3) := by decide +kernel
theorem dd_Loom_init_90 : decode prog_1_method_1_code 90 = .ok (.aload_n 0, 1) := by decide +kernel
theorem dd_Loom_init_91 : decode prog_1_method_1_code 91 = .ok (.getfield 28, 3) := by decide +kernel
theorem dd_Loom_init_94 : decode prog_1_method_1_code 94 = .ok (.aload_n 1, 1) := by decide +kernel
theorem dd_Loom_init_95 : decode prog_1_method_1_code 95 = .ok (.invokespecial 48, 3) := by decide +kernel
theorem dd_Loom_init_98 : decode prog_1_method_1_code 98 = .ok (.putfield 51, 3) := by decide +kernel
theorem dd_Loom_init_101 : decode prog_1_method_1_code 101 = .ok (.aload_n 0, 1) := by decide +kernel
theorem dd_Loom_init_102 : decode prog_1_method_1_code 102 = .ok (.iconst 0, 1) := by decide +kernel
theorem dd_Loom_init_103 : decode prog_1_method_1_code 103 = .ok (.putfield 55, 3) := by decide +kernel
theorem dd_Loom_init_106 : decode prog_1_method_1_code 106 = .ok (.return_, 1) := by decide +kernel
theorem dd_Loom_enumeration_0 : decode prog_1_method_2_code 0 = .ok (.iload_n 3, 1) := by decide +kernel
theorem dd_Loom_enumeration_1 : decode prog_1_method_2_code 1 = .ok (.iconst 1, 1) := by decide +kernel
theorem dd_Loom_enumeration_2 : decode prog_1_method_2_code 2 = .ok (.if_icmp .lt 17, 3) := by decide +kernel
theorem dd_Loom_enumeration_5 : decode prog_1_method_2_code 5 = .ok (.iload_n 3, 1) := by decide +kernel
theorem dd_Loom_enumeration_6 : decode prog_1_method_2_code 6 = .ok (.bipush 8, 2) := by decide +kernel
theorem dd_Loom_enumeration_8 : decode prog_1_method_2_code 8 = .ok (.if_icmp .gt 11, 3) := by decide +kernel
theorem dd_Loom_enumeration_11 : decode prog_1_method_2_code 11 = .ok (.lload_n 1, 1) := by decide +kernel
theorem dd_Loom_enumeration_12 : decode prog_1_method_2_code 12 = .ok (.iload_n 3, 1) := by decide +kernel
theorem dd_Loom_enumeration_13 : decode prog_1_method_2_code 13 = .ok (.invokestatic 59, 3) := by decide +kernel
theorem dd_Loom_enumeration_16 : decode prog_1_method_2_code 16 = .ok (.ifCond .ne 13, 3) := by decide +kernel
theorem dd_Loom_enumeration_19 : decode prog_1_method_2_code 19 = .ok (.new 63, 3) := by decide +kernel
theorem dd_Loom_enumeration_22 : decode prog_1_method_2_code 22 = .ok (.dup, 1) := by decide +kernel
theorem dd_Loom_enumeration_23 : decode prog_1_method_2_code 23 = .ok (.ldc 65, 2) := by decide +kernel
theorem dd_Loom_enumeration_25 : decode prog_1_method_2_code 25 = .ok (.invokespecial 67, 3) := by decide +kernel
theorem dd_Loom_enumeration_28 : decode prog_1_method_2_code 28 = .ok (.athrow, 1) := by decide +kernel
theorem dd_Loom_enumeration_29 : decode prog_1_method_2_code 29 = .ok (.aload_n 0, 1) := by decide +kernel
theorem dd_Loom_enumeration_30 : decode prog_1_method_2_code 30 = .ok (.getfield 55, 3) := by decide +kernel
theorem dd_Loom_enumeration_33 : decode prog_1_method_2_code 33 = .ok (.ifCond .ne 13, 3) := by decide +kernel
theorem dd_Loom_enumeration_36 : decode prog_1_method_2_code 36 = .ok (.aload_n 0, 1) := by decide +kernel
theorem dd_Loom_enumeration_37 : decode prog_1_method_2_code 37 = .ok (.getfield 10, 3) := by decide +kernel
theorem dd_Loom_enumeration_40 : decode prog_1_method_2_code 40 = .ok (.invokevirtual 70, 3) := by decide +kernel
theorem dd_Loom_enumeration_43 : decode prog_1_method_2_code 43 = .ok (.ifCond .eq 13, 3) := by decide +kernel
theorem dd_Loom_enumeration_46 : decode prog_1_method_2_code 46 = .ok (.new 74, 3) := by decide +kernel
theorem dd_Loom_enumeration_49 : decode prog_1_method_2_code 49 = .ok (.dup, 1) := by decide +kernel
theorem dd_Loom_enumeration_50 : decode prog_1_method_2_code 50 = .ok (.ldc 76, 2) := by decide +kernel
theorem dd_Loom_enumeration_52 : decode prog_1_method_2_code 52 = .ok (.invokespecial 78, 3) := by decide +kernel
theorem dd_Loom_enumeration_55 : decode prog_1_method_2_code 55 = .ok (.athrow, 1) := by decide +kernel
theorem dd_Loom_enumeration_56 : decode prog_1_method_2_code 56 = .ok (.aload_n 0, 1) := by decide +kernel
theorem dd_Loom_enumeration_57 : decode prog_1_method_2_code 57 = .ok (.getfield 10, 3) := by decide +kernel
theorem dd_Loom_enumeration_60 : decode prog_1_method_2_code 60 = .ok (.iconst 1, 1) := by decide +kernel
theorem dd_Loom_enumeration_61 : decode prog_1_method_2_code 61 = .ok (.iconst (-1), 1) := by decide +kernel
theorem dd_Loom_enumeration_62 : decode prog_1_method_2_code 62 = .ok (.invokevirtual 79, 3) := by decide +kernel
theorem dd_Loom_enumeration_65 : decode prog_1_method_2_code 65 = .ok (.istore 4, 2) := by decide +kernel
theorem dd_Loom_enumeration_67 : decode prog_1_method_2_code 67 = .ok (.iconst 0, 1) := by decide +kernel
theorem dd_Loom_enumeration_68 : decode prog_1_method_2_code 68 = .ok (.istore 5, 2) := by decide +kernel
theorem dd_Loom_enumeration_70 : decode prog_1_method_2_code 70 = .ok (.iload 5, 2) := by decide +kernel
theorem dd_Loom_enumeration_72 : decode prog_1_method_2_code 72 = .ok (.iload_n 3, 1) := by decide +kernel
theorem dd_Loom_enumeration_73 : decode prog_1_method_2_code 73 = .ok (.if_icmp .ge 26, 3) := by decide +kernel
theorem dd_Loom_enumeration_76 : decode prog_1_method_2_code 76 = .ok (.aload_n 0, 1) := by decide +kernel
theorem dd_Loom_enumeration_77 : decode prog_1_method_2_code 77 = .ok (.getfield 10, 3) := by decide +kernel
theorem dd_Loom_enumeration_80 : decode prog_1_method_2_code 80 = .ok (.iload 4, 2) := by decide +kernel
theorem dd_Loom_enumeration_82 : decode prog_1_method_2_code 82 = .ok (.lload_n 1, 1) := by decide +kernel
theorem dd_Loom_enumeration_83 : decode prog_1_method_2_code 83 = .ok (.iload 5, 2) := by decide +kernel
theorem dd_Loom_enumeration_85 : decode prog_1_method_2_code 85 = .ok (.invokestatic 83, 3) := by decide +kernel
theorem dd_Loom_enumeration_88 : decode prog_1_method_2_code 88 = .ok (.iconst (-1), 1) := by decide +kernel
theorem dd_Loom_enumeration_89 : decode prog_1_method_2_code 89 = .ok (.invokevirtual 87, 3) := by decide +kernel
theorem dd_Loom_enumeration_92 : decode prog_1_method_2_code 92 = .ok (.pop, 1) := by decide +kernel
theorem dd_Loom_enumeration_93 : decode prog_1_method_2_code 93 = .ok (.iinc 5 1, 3) := by decide +kernel
theorem dd_Loom_enumeration_96 : decode prog_1_method_2_code 96 = .ok (.goto (-26), 3) := by decide +kernel
theorem dd_Loom_enumeration_99 : decode prog_1_method_2_code 99 = .ok (.iload 4, 2) := by decide +kernel
theorem dd_Loom_enumeration_101 : decode prog_1_method_2_code 101 = .ok (.ireturn, 1) := by decide +kernel
theorem dd_Loom_bean_0 : decode prog_1_method_3_code 0 = .ok (.aload_n 0, 1) := by decide +kernel
theorem dd_Loom_bean_1 : decode prog_1_method_3_code 1 = .ok (.getfield 55, 3) := by decide +kernel
theorem dd_Loom_bean_4 : decode prog_1_method_3_code 4 = .ok (.ifCond .ne 13, 3) := by decide +kernel
theorem dd_Loom_bean_7 : decode prog_1_method_3_code 7 = .ok (.aload_n 0, 1) := by decide +kernel
theorem dd_Loom_bean_8 : decode prog_1_method_3_code 8 = .ok (.getfield 10, 3) := by decide +kernel
theorem dd_Loom_bean_11 : decode prog_1_method_3_code 11 = .ok (.invokevirtual 70, 3) := by decide +kernel
theorem dd_Loom_bean_14 : decode prog_1_method_3_code 14 = .ok (.ifCond .eq 13, 3) := by decide +kernel
theorem dd_Loom_bean_17 : decode prog_1_method_3_code 17 = .ok (.new 74, 3) := by decide +kernel
theorem dd_Loom_bean_20 : decode prog_1_method_3_code 20 = .ok (.dup, 1) := by decide +kernel
theorem dd_Loom_bean_21 : decode prog_1_method_3_code 21 = .ok (.ldc 76, 2) := by decide +kernel
theorem dd_Loom_bean_23 : decode prog_1_method_3_code 23 = .ok (.invokespecial 78, 3) := by decide +kernel
theorem dd_Loom_bean_26 : decode prog_1_method_3_code 26 = .ok (.athrow, 1) := by decide +kernel
theorem dd_Loom_bean_27 : decode prog_1_method_3_code 27 = .ok (.aload_n 0, 1) := by decide +kernel
theorem dd_Loom_bean_28 : decode prog_1_method_3_code 28 = .ok (.getfield 10, 3) := by decide +kernel
theorem dd_Loom_bean_31 : decode prog_1_method_3_code 31 = .ok (.iconst 2, 1) := by decide +kernel
theorem dd_Loom_bean_32 : decode prog_1_method_3_code 32 = .ok (.iconst (-1), 1) := by decide +kernel
theorem dd_Loom_bean_33 : decode prog_1_method_3_code 33 = .ok (.invokevirtual 79, 3) := by decide +kernel
theorem dd_Loom_bean_36 : decode prog_1_method_3_code 36 = .ok (.ireturn, 1) := by decide +kernel
theorem dd_Loom_property_0 : decode prog_1_method_4_code 0 = .ok (.aload_n 0, 1) := by decide +kernel
theorem dd_Loom_property_1 : decode prog_1_method_4_code 1 = .ok (.getfield 10, 3) := by decide +kernel
theorem dd_Loom_property_4 : decode prog_1_method_4_code 4 = .ok (.iload_n 1, 1) := by decide +kernel
theorem dd_Loom_property_5 : decode prog_1_method_4_code 5 = .ok (.invokevirtual 91, 3) := by decide +kernel
theorem dd_Loom_property_8 : decode prog_1_method_4_code 8 = .ok (.ifCond .eq 38, 3) := by decide +kernel
theorem dd_Loom_property_11 : decode prog_1_method_4_code 11 = .ok (.iload_n 2, 1) := by decide +kernel
theorem dd_Loom_property_12 : decode prog_1_method_4_code 12 = .ok (.ifCond .lt 34, 3) := by decide +kernel
theorem dd_Loom_property_15 : decode prog_1_method_4_code 15 = .ok (.iload_n 2, 1) := by decide +kernel
theorem dd_Loom_property_16 : decode prog_1_method_4_code 16 = .ok (.bipush 63, 2) := by decide +kernel
theorem dd_Loom_property_18 : decode prog_1_method_4_code 18 = .ok (.if_icmp .gt 28, 3) := by decide +kernel
theorem dd_Loom_property_21 : decode prog_1_method_4_code 21 = .ok (.aload_n 0, 1) := by decide +kernel
theorem dd_Loom_property_22 : decode prog_1_method_4_code 22 = .ok (.getfield 10, 3) := by decide +kernel
theorem dd_Loom_property_25 : decode prog_1_method_4_code 25 = .ok (.iload_n 3, 1) := by decide +kernel
theorem dd_Loom_property_26 : decode prog_1_method_4_code 26 = .ok (.invokevirtual 95, 3) := by decide +kernel
theorem dd_Loom_property_29 : decode prog_1_method_4_code 29 = .ok (.ifCond .eq 17, 3) := by decide +kernel
theorem dd_Loom_property_32 : decode prog_1_method_4_code 32 = .ok (.aload_n 0, 1) := by decide +kernel
theorem dd_Loom_property_33 : decode prog_1_method_4_code 33 = .ok (.getfield 10, 3) := by decide +kernel
theorem dd_Loom_property_36 : decode prog_1_method_4_code 36 = .ok (.iload_n 1, 1) := by decide +kernel
theorem dd_Loom_property_37 : decode prog_1_method_4_code 37 = .ok (.iload_n 2, 1) := by decide +kernel
theorem dd_Loom_property_38 : decode prog_1_method_4_code 38 = .ok (.i2l, 1) := by decide +kernel
theorem dd_Loom_property_39 : decode prog_1_method_4_code 39 = .ok (.invokevirtual 98, 3) := by decide +kernel
theorem dd_Loom_property_42 : decode prog_1_method_4_code 42 = .ok (.iconst (-1), 1) := by decide +kernel
theorem dd_Loom_property_43 : decode prog_1_method_4_code 43 = .ok (.if_icmp .eq 13, 3) := by decide +kernel
theorem dd_Loom_property_46 : decode prog_1_method_4_code 46 = .ok (.new 63, 3) := by decide +kernel
theorem dd_Loom_property_49 : decode prog_1_method_4_code 49 = .ok (.dup, 1) := by decide +kernel
theorem dd_Loom_property_50 : decode prog_1_method_4_code 50 = .ok (.ldc 102, 2) := by decide +kernel
theorem dd_Loom_property_52 : decode prog_1_method_4_code 52 = .ok (.invokespecial 67, 3) := by decide +kernel
theorem dd_Loom_property_55 : decode prog_1_method_4_code 55 = .ok (.athrow, 1) := by decide +kernel
theorem dd_Loom_property_56 : decode prog_1_method_4_code 56 = .ok (.aload_n 0, 1) := by decide +kernel
theorem dd_Loom_property_57 : decode prog_1_method_4_code 57 = .ok (.getfield 55, 3) := by decide +kernel
theorem dd_Loom_property_60 : decode prog_1_method_4_code 60 = .ok (.ifCond .ne 26, 3) := by decide +kernel
theorem dd_Loom_property_63 : decode prog_1_method_4_code 63 = .ok (.aload_n 0, 1) := by decide +kernel
theorem dd_Loom_property_64 : decode prog_1_method_4_code 64 = .ok (.getfield 10, 3) := by decide +kernel
theorem dd_Loom_property_67 : decode prog_1_method_4_code 67 = .ok (.iload_n 1, 1) := by decide +kernel
theorem dd_Loom_property_68 : decode prog_1_method_4_code 68 = .ok (.invokevirtual 104, 3) := by decide +kernel
theorem dd_Loom_property_71 : decode prog_1_method_4_code 71 = .ok (.bipush 8, 2) := by decide +kernel
theorem dd_Loom_property_73 : decode prog_1_method_4_code 73 = .ok (.if_icmp .ge 13, 3) := by decide +kernel
theorem dd_Loom_property_76 : decode prog_1_method_4_code 76 = .ok (.aload_n 0, 1) := by decide +kernel
theorem dd_Loom_property_77 : decode prog_1_method_4_code 77 = .ok (.getfield 28, 3) := by decide +kernel
theorem dd_Loom_property_80 : decode prog_1_method_4_code 80 = .ok (.invokevirtual 108, 3) := by decide +kernel
theorem dd_Loom_property_83 : decode prog_1_method_4_code 83 = .ok (.ifCond .le 13, 3) := by decide +kernel
theorem dd_Loom_property_86 : decode prog_1_method_4_code 86 = .ok (.new 74, 3) := by decide +kernel
theorem dd_Loom_property_89 : decode prog_1_method_4_code 89 = .ok (.dup, 1) := by decide +kernel
theorem dd_Loom_property_90 : decode prog_1_method_4_code 90 = .ok (.ldc 112, 2) := by decide +kernel
theorem dd_Loom_property_92 : decode prog_1_method_4_code 92 = .ok (.invokespecial 78, 3) := by decide +kernel
theorem dd_Loom_property_95 : decode prog_1_method_4_code 95 = .ok (.athrow, 1) := by decide +kernel
theorem dd_Loom_property_96 : decode prog_1_method_4_code 96 = .ok (.aload_n 0, 1) := by decide +kernel
theorem dd_Loom_property_97 : decode prog_1_method_4_code 97 = .ok (.getfield 10, 3) := by decide +kernel
theorem dd_Loom_property_100 : decode prog_1_method_4_code 100 = .ok (.iload_n 1, 1) := by decide +kernel
theorem dd_Loom_property_101 : decode prog_1_method_4_code 101 = .ok (.iload_n 2, 1) := by decide +kernel
theorem dd_Loom_property_102 : decode prog_1_method_4_code 102 = .ok (.iload_n 3, 1) := by decide +kernel
theorem dd_Loom_property_103 : decode prog_1_method_4_code 103 = .ok (.invokevirtual 87, 3) := by decide +kernel
theorem dd_Loom_property_106 : decode prog_1_method_4_code 106 = .ok (.ireturn, 1) := by decide +kernel
theorem dd_Loom_list_0 : decode prog_1_method_5_code 0 = .ok (.aload_n 0, 1) := by decide +kernel
theorem dd_Loom_list_1 : decode prog_1_method_5_code 1 = .ok (.getfield 10, 3) := by decide +kernel
theorem dd_Loom_list_4 : decode prog_1_method_5_code 4 = .ok (.iload_n 1, 1) := by decide +kernel
theorem dd_Loom_list_5 : decode prog_1_method_5_code 5 = .ok (.invokevirtual 95, 3) := by decide +kernel
theorem dd_Loom_list_8 : decode prog_1_method_5_code 8 = .ok (.ifCond .eq 10, 3) := by decide +kernel
theorem dd_Loom_list_11 : decode prog_1_method_5_code 11 = .ok (.iload_n 1, 1) := by decide +kernel
theorem dd_Loom_list_12 : decode prog_1_method_5_code 12 = .ok (.invokestatic 114, 3) := by decide +kernel
theorem dd_Loom_list_15 : decode prog_1_method_5_code 15 = .ok (.ifCond .eq 13, 3) := by decide +kernel
theorem dd_Loom_list_18 : decode prog_1_method_5_code 18 = .ok (.new 63, 3) := by decide +kernel
theorem dd_Loom_list_21 : decode prog_1_method_5_code 21 = .ok (.dup, 1) := by decide +kernel
theorem dd_Loom_list_22 : decode prog_1_method_5_code 22 = .ok (.ldc 119, 2) := by decide +kernel
theorem dd_Loom_list_24 : decode prog_1_method_5_code 24 = .ok (.invokespecial 67, 3) := by decide +kernel
theorem dd_Loom_list_27 : decode prog_1_method_5_code 27 = .ok (.athrow, 1) := by decide +kernel
theorem dd_Loom_list_28 : decode prog_1_method_5_code 28 = .ok (.aload_n 0, 1) := by decide +kernel
theorem dd_Loom_list_29 : decode prog_1_method_5_code 29 = .ok (.getfield 10, 3) := by decide +kernel
theorem dd_Loom_list_32 : decode prog_1_method_5_code 32 = .ok (.iload_n 1, 1) := by decide +kernel
theorem dd_Loom_list_33 : decode prog_1_method_5_code 33 = .ok (.invokevirtual 121, 3) := by decide +kernel
theorem dd_Loom_list_36 : decode prog_1_method_5_code 36 = .ok (.istore_n 2, 1) := by decide +kernel
theorem dd_Loom_list_37 : decode prog_1_method_5_code 37 = .ok (.iload_n 2, 1) := by decide +kernel
theorem dd_Loom_list_38 : decode prog_1_method_5_code 38 = .ok (.iconst (-1), 1) := by decide +kernel
theorem dd_Loom_list_39 : decode prog_1_method_5_code 39 = .ok (.if_icmp .eq 5, 3) := by decide +kernel
theorem dd_Loom_list_42 : decode prog_1_method_5_code 42 = .ok (.iload_n 2, 1) := by decide +kernel
theorem dd_Loom_list_43 : decode prog_1_method_5_code 43 = .ok (.ireturn, 1) := by decide +kernel
theorem dd_Loom_list_44 : decode prog_1_method_5_code 44 = .ok (.aload_n 0, 1) := by decide +kernel
theorem dd_Loom_list_45 : decode prog_1_method_5_code 45 = .ok (.getfield 55, 3) := by decide +kernel
theorem dd_Loom_list_48 : decode prog_1_method_5_code 48 = .ok (.ifCond .ne 13, 3) := by decide +kernel
theorem dd_Loom_list_51 : decode prog_1_method_5_code 51 = .ok (.aload_n 0, 1) := by decide +kernel
theorem dd_Loom_list_52 : decode prog_1_method_5_code 52 = .ok (.getfield 10, 3) := by decide +kernel
theorem dd_Loom_list_55 : decode prog_1_method_5_code 55 = .ok (.invokevirtual 70, 3) := by decide +kernel
theorem dd_Loom_list_58 : decode prog_1_method_5_code 58 = .ok (.ifCond .eq 13, 3) := by decide +kernel
theorem dd_Loom_list_61 : decode prog_1_method_5_code 61 = .ok (.new 74, 3) := by decide +kernel
theorem dd_Loom_list_64 : decode prog_1_method_5_code 64 = .ok (.dup, 1) := by decide +kernel
theorem dd_Loom_list_65 : decode prog_1_method_5_code 65 = .ok (.ldc 76, 2) := by decide +kernel
theorem dd_Loom_list_67 : decode prog_1_method_5_code 67 = .ok (.invokespecial 78, 3) := by decide +kernel
theorem dd_Loom_list_70 : decode prog_1_method_5_code 70 = .ok (.athrow, 1) := by decide +kernel
theorem dd_Loom_list_71 : decode prog_1_method_5_code 71 = .ok (.aload_n 0, 1) := by decide +kernel
theorem dd_Loom_list_72 : decode prog_1_method_5_code 72 = .ok (.getfield 10, 3) := by decide +kernel
theorem dd_Loom_list_75 : decode prog_1_method_5_code 75 = .ok (.iconst 3, 1) := by decide +kernel
theorem dd_Loom_list_76 : decode prog_1_method_5_code 76 = .ok (.iload_n 1, 1) := by decide +kernel
theorem dd_Loom_list_77 : decode prog_1_method_5_code 77 = .ok (.invokevirtual 79, 3) := by decide +kernel
theorem dd_Loom_list_80 : decode prog_1_method_5_code 80 = .ok (.ireturn, 1) := by decide +kernel
theorem dd_Loom_method_0 : decode prog_1_method_6_code 0 = .ok (.aload_n 0, 1) := by decide +kernel
theorem dd_Loom_method_1 : decode prog_1_method_6_code 1 = .ok (.getfield 10, 3) := by decide +kernel
theorem dd_Loom_method_4 : decode prog_1_method_6_code 4 = .ok (.iload_n 1, 1) := by decide +kernel
theorem dd_Loom_method_5 : decode prog_1_method_6_code 5 = .ok (.invokevirtual 91, 3) := by decide +kernel
theorem dd_Loom_method_8 : decode prog_1_method_6_code 8 = .ok (.ifCond .eq 18, 3) := by decide +kernel
theorem dd_Loom_method_11 : decode prog_1_method_6_code 11 = .ok (.aload_n 0, 1) := by decide +kernel
theorem dd_Loom_method_12 : decode prog_1_method_6_code 12 = .ok (.getfield 10, 3) := by decide +kernel
theorem dd_Loom_method_15 : decode prog_1_method_6_code 15 = .ok (.iload_n 2, 1) := by decide +kernel
theorem dd_Loom_method_16 : decode prog_1_method_6_code 16 = .ok (.invokevirtual 91, 3) := by decide +kernel
theorem dd_Loom_method_19 : decode prog_1_method_6_code 19 = .ok (.ifCond .eq 7, 3) := by decide +kernel
theorem dd_Loom_method_22 : decode prog_1_method_6_code 22 = .ok (.iconst 1, 1) := by decide +kernel
theorem dd_Loom_method_23 : decode prog_1_method_6_code 23 = .ok (.goto 4, 3) := by decide +kernel
theorem dd_Loom_method_26 : decode prog_1_method_6_code 26 = .ok (.iconst 0, 1) := by decide +kernel
theorem dd_Loom_method_27 : decode prog_1_method_6_code 27 = .ok (.istore_n 3, 1) := by decide +kernel
theorem dd_Loom_method_28 : decode prog_1_method_6_code 28 = .ok (.aload_n 0, 1) := by decide +kernel
theorem dd_Loom_method_29 : decode prog_1_method_6_code 29 = .ok (.getfield 10, 3) := by decide +kernel
theorem dd_Loom_method_32 : decode prog_1_method_6_code 32 = .ok (.iload_n 1, 1) := by decide +kernel
theorem dd_Loom_method_33 : decode prog_1_method_6_code 33 = .ok (.invokevirtual 124, 3) := by decide +kernel
theorem dd_Loom_method_36 : decode prog_1_method_6_code 36 = .ok (.ifCond .eq 18, 3) := by decide +kernel
theorem dd_Loom_method_39 : decode prog_1_method_6_code 39 = .ok (.aload_n 0, 1) := by decide +kernel
theorem dd_Loom_method_40 : decode prog_1_method_6_code 40 = .ok (.getfield 10, 3) := by decide +kernel
theorem dd_Loom_method_43 : decode prog_1_method_6_code 43 = .ok (.iload_n 2, 1) := by decide +kernel
theorem dd_Loom_method_44 : decode prog_1_method_6_code 44 = .ok (.invokevirtual 124, 3) := by decide +kernel
theorem dd_Loom_method_47 : decode prog_1_method_6_code 47 = .ok (.ifCond .eq 7, 3) := by decide +kernel
theorem dd_Loom_method_50 : decode prog_1_method_6_code 50 = .ok (.iconst 1, 1) := by decide +kernel
theorem dd_Loom_method_51 : decode prog_1_method_6_code 51 = .ok (.goto 4, 3) := by decide +kernel
theorem dd_Loom_method_54 : decode prog_1_method_6_code 54 = .ok (.iconst 0, 1) := by decide +kernel
theorem dd_Loom_method_55 : decode prog_1_method_6_code 55 = .ok (.istore 4, 2) := by decide +kernel
theorem dd_Loom_method_57 : decode prog_1_method_6_code 57 = .ok (.iload_n 3, 1) := by decide +kernel
theorem dd_Loom_method_58 : decode prog_1_method_6_code 58 = .ok (.ifCond .ne 18, 3) := by decide +kernel
theorem dd_Loom_method_61 : decode prog_1_method_6_code 61 = .ok (.iload 4, 2) := by decide +kernel
theorem dd_Loom_method_63 : decode prog_1_method_6_code 63 = .ok (.ifCond .ne 13, 3) := by decide +kernel
theorem dd_Loom_method_66 : decode prog_1_method_6_code 66 = .ok (.new 63, 3) := by decide +kernel
theorem dd_Loom_method_69 : decode prog_1_method_6_code 69 = .ok (.dup, 1) := by decide +kernel
theorem dd_Loom_method_70 : decode prog_1_method_6_code 70 = .ok (.ldc 127, 2) := by decide +kernel
theorem dd_Loom_method_72 : decode prog_1_method_6_code 72 = .ok (.invokespecial 67, 3) := by decide +kernel
theorem dd_Loom_method_75 : decode prog_1_method_6_code 75 = .ok (.athrow, 1) := by decide +kernel
theorem dd_Loom_method_76 : decode prog_1_method_6_code 76 = .ok (.aload_n 0, 1) := by decide +kernel
theorem dd_Loom_method_77 : decode prog_1_method_6_code 77 = .ok (.getfield 55, 3) := by decide +kernel
theorem dd_Loom_method_80 : decode prog_1_method_6_code 80 = .ok (.ifCond .ne 15, 3) := by decide +kernel
theorem dd_Loom_method_83 : decode prog_1_method_6_code 83 = .ok (.aload_n 0, 1) := by decide +kernel
theorem dd_Loom_method_84 : decode prog_1_method_6_code 84 = .ok (.getfield 19, 3) := by decide +kernel
theorem dd_Loom_method_87 : decode prog_1_method_6_code 87 = .ok (.getfield 129, 3) := by decide +kernel
theorem dd_Loom_method_90 : decode prog_1_method_6_code 90 = .ok (.bipush 16, 2) := by decide +kernel
theorem dd_Loom_method_92 : decode prog_1_method_6_code 92 = .ok (.if_icmp .lt 13, 3) := by decide +kernel
theorem dd_Loom_method_95 : decode prog_1_method_6_code 95 = .ok (.new 74, 3) := by decide +kernel
theorem dd_Loom_method_98 : decode prog_1_method_6_code 98 = .ok (.dup, 1) := by decide +kernel
theorem dd_Loom_method_99 : decode prog_1_method_6_code 99 = .ok (.ldc 133, 2) := by decide +kernel
theorem dd_Loom_method_101 : decode prog_1_method_6_code 101 = .ok (.invokespecial 78, 3) := by decide +kernel
theorem dd_Loom_method_104 : decode prog_1_method_6_code 104 = .ok (.athrow, 1) := by decide +kernel
theorem dd_Loom_method_105 : decode prog_1_method_6_code 105 = .ok (.aload_n 0, 1) := by decide +kernel
theorem dd_Loom_method_106 : decode prog_1_method_6_code 106 = .ok (.getfield 19, 3) := by decide +kernel
theorem dd_Loom_method_109 : decode prog_1_method_6_code 109 = .ok (.iload_n 1, 1) := by decide +kernel
theorem dd_Loom_method_110 : decode prog_1_method_6_code 110 = .ok (.iload_n 2, 1) := by decide +kernel
theorem dd_Loom_method_111 : decode prog_1_method_6_code 111 = .ok (.invokevirtual 135, 3) := by decide +kernel
theorem dd_Loom_method_114 : decode prog_1_method_6_code 114 = .ok (.ireturn, 1) := by decide +kernel
theorem dd_Loom_function_0 : decode prog_1_method_7_code 0 = .ok (.iload_n 1, 1) := by decide +kernel
theorem dd_Loom_function_1 : decode prog_1_method_7_code 1 = .ok (.invokestatic 138, 3) := by decide +kernel
theorem dd_Loom_function_4 : decode prog_1_method_7_code 4 = .ok (.ifCond .eq 10, 3) := by decide +kernel
theorem dd_Loom_function_7 : decode prog_1_method_7_code 7 = .ok (.iload_n 2, 1) := by decide +kernel
theorem dd_Loom_function_8 : decode prog_1_method_7_code 8 = .ok (.invokestatic 138, 3) := by decide +kernel
theorem dd_Loom_function_11 : decode prog_1_method_7_code 11 = .ok (.ifCond .ne 13, 3) := by decide +kernel
theorem dd_Loom_function_14 : decode prog_1_method_7_code 14 = .ok (.new 63, 3) := by decide +kernel
theorem dd_Loom_function_17 : decode prog_1_method_7_code 17 = .ok (.dup, 1) := by decide +kernel
theorem dd_Loom_function_18 : decode prog_1_method_7_code 18 = .ok (.ldc 141, 2) := by decide +kernel
theorem dd_Loom_function_20 : decode prog_1_method_7_code 20 = .ok (.invokespecial 67, 3) := by decide +kernel
theorem dd_Loom_function_23 : decode prog_1_method_7_code 23 = .ok (.athrow, 1) := by decide +kernel
theorem dd_Loom_function_24 : decode prog_1_method_7_code 24 = .ok (.aload_n 0, 1) := by decide +kernel
theorem dd_Loom_function_25 : decode prog_1_method_7_code 25 = .ok (.getfield 55, 3) := by decide +kernel
theorem dd_Loom_function_28 : decode prog_1_method_7_code 28 = .ok (.ifCond .ne 15, 3) := by decide +kernel
theorem dd_Loom_function_31 : decode prog_1_method_7_code 31 = .ok (.aload_n 0, 1) := by decide +kernel
theorem dd_Loom_function_32 : decode prog_1_method_7_code 32 = .ok (.getfield 19, 3) := by decide +kernel
theorem dd_Loom_function_35 : decode prog_1_method_7_code 35 = .ok (.getfield 143, 3) := by decide +kernel
theorem dd_Loom_function_38 : decode prog_1_method_7_code 38 = .ok (.bipush 8, 2) := by decide +kernel
theorem dd_Loom_function_40 : decode prog_1_method_7_code 40 = .ok (.if_icmp .lt 13, 3) := by decide +kernel
theorem dd_Loom_function_43 : decode prog_1_method_7_code 43 = .ok (.new 74, 3) := by decide +kernel
theorem dd_Loom_function_46 : decode prog_1_method_7_code 46 = .ok (.dup, 1) := by decide +kernel
theorem dd_Loom_function_47 : decode prog_1_method_7_code 47 = .ok (.ldc 146, 2) := by decide +kernel
theorem dd_Loom_function_49 : decode prog_1_method_7_code 49 = .ok (.invokespecial 78, 3) := by decide +kernel
theorem dd_Loom_function_52 : decode prog_1_method_7_code 52 = .ok (.athrow, 1) := by decide +kernel
theorem dd_Loom_function_53 : decode prog_1_method_7_code 53 = .ok (.aload_n 0, 1) := by decide +kernel
theorem dd_Loom_function_54 : decode prog_1_method_7_code 54 = .ok (.getfield 19, 3) := by decide +kernel
theorem dd_Loom_function_57 : decode prog_1_method_7_code 57 = .ok (.iload_n 1, 1) := by decide +kernel
theorem dd_Loom_function_58 : decode prog_1_method_7_code 58 = .ok (.iload_n 2, 1) := by decide +kernel
theorem dd_Loom_function_59 : decode prog_1_method_7_code 59 = .ok (.iload_n 3, 1) := by decide +kernel
theorem dd_Loom_function_60 : decode prog_1_method_7_code 60 = .ok (.iload 4, 2) := by decide +kernel
theorem dd_Loom_function_62 : decode prog_1_method_7_code 62 = .ok (.invokevirtual 148, 3) := by decide +kernel
theorem dd_Loom_function_65 : decode prog_1_method_7_code 65 = .ok (.ireturn, 1) := by decide +kernel
theorem dd_Loom_rule_0 : decode prog_1_method_8_code 0 = .ok (.aload_n 0, 1) := by decide +kernel
theorem dd_Loom_rule_1 : decode prog_1_method_8_code 1 = .ok (.getfield 19, 3) := by decide +kernel
theorem dd_Loom_rule_4 : decode prog_1_method_8_code 4 = .ok (.iload_n 1, 1) := by decide +kernel
theorem dd_Loom_rule_5 : decode prog_1_method_8_code 5 = .ok (.i2l, 1) := by decide +kernel
theorem dd_Loom_rule_6 : decode prog_1_method_8_code 6 = .ok (.invokevirtual 152, 3) := by decide +kernel
theorem dd_Loom_rule_9 : decode prog_1_method_8_code 9 = .ok (.ifCond .eq 13, 3) := by decide +kernel
theorem dd_Loom_rule_12 : decode prog_1_method_8_code 12 = .ok (.iload_n 2, 1) := by decide +kernel
theorem dd_Loom_rule_13 : decode prog_1_method_8_code 13 = .ok (.ifCond .lt 9, 3) := by decide +kernel
theorem dd_Loom_rule_16 : decode prog_1_method_8_code 16 = .ok (.iload_n 2, 1) := by decide +kernel
theorem dd_Loom_rule_17 : decode prog_1_method_8_code 17 = .ok (.bipush 8, 2) := by decide +kernel
theorem dd_Loom_rule_19 : decode prog_1_method_8_code 19 = .ok (.if_icmp .le 13, 3) := by decide +kernel
theorem dd_Loom_rule_22 : decode prog_1_method_8_code 22 = .ok (.new 63, 3) := by decide +kernel
theorem dd_Loom_rule_25 : decode prog_1_method_8_code 25 = .ok (.dup, 1) := by decide +kernel
theorem dd_Loom_rule_26 : decode prog_1_method_8_code 26 = .ok (.ldc 156, 2) := by decide +kernel
theorem dd_Loom_rule_28 : decode prog_1_method_8_code 28 = .ok (.invokespecial 67, 3) := by decide +kernel
theorem dd_Loom_rule_31 : decode prog_1_method_8_code 31 = .ok (.athrow, 1) := by decide +kernel
theorem dd_Loom_rule_32 : decode prog_1_method_8_code 32 = .ok (.aload_n 0, 1) := by decide +kernel
theorem dd_Loom_rule_33 : decode prog_1_method_8_code 33 = .ok (.getfield 55, 3) := by decide +kernel
theorem dd_Loom_rule_36 : decode prog_1_method_8_code 36 = .ok (.ifCond .ne 20, 3) := by decide +kernel
theorem dd_Loom_rule_39 : decode prog_1_method_8_code 39 = .ok (.aload_n 0, 1) := by decide +kernel
theorem dd_Loom_rule_40 : decode prog_1_method_8_code 40 = .ok (.getfield 19, 3) := by decide +kernel
theorem dd_Loom_rule_43 : decode prog_1_method_8_code 43 = .ok (.getfield 158, 3) := by decide +kernel
theorem dd_Loom_rule_46 : decode prog_1_method_8_code 46 = .ok (.iload_n 1, 1) := by decide +kernel
theorem dd_Loom_rule_47 : decode prog_1_method_8_code 47 = .ok (.aaload, 1) := by decide +kernel
theorem dd_Loom_rule_48 : decode prog_1_method_8_code 48 = .ok (.getfield 162, 3) := by decide +kernel
theorem dd_Loom_rule_51 : decode prog_1_method_8_code 51 = .ok (.bipush 24, 2) := by decide +kernel
theorem dd_Loom_rule_53 : decode prog_1_method_8_code 53 = .ok (.if_icmp .lt 13, 3) := by decide +kernel
theorem dd_Loom_rule_56 : decode prog_1_method_8_code 56 = .ok (.new 74, 3) := by decide +kernel
theorem dd_Loom_rule_59 : decode prog_1_method_8_code 59 = .ok (.dup, 1) := by decide +kernel
theorem dd_Loom_rule_60 : decode prog_1_method_8_code 60 = .ok (.ldc 167, 2) := by decide +kernel
theorem dd_Loom_rule_62 : decode prog_1_method_8_code 62 = .ok (.invokespecial 78, 3) := by decide +kernel
theorem dd_Loom_rule_65 : decode prog_1_method_8_code 65 = .ok (.athrow, 1) := by decide +kernel
theorem dd_Loom_rule_66 : decode prog_1_method_8_code 66 = .ok (.aload_n 0, 1) := by decide +kernel
theorem dd_Loom_rule_67 : decode prog_1_method_8_code 67 = .ok (.getfield 19, 3) := by decide +kernel
theorem dd_Loom_rule_70 : decode prog_1_method_8_code 70 = .ok (.getfield 158, 3) := by decide +kernel
theorem dd_Loom_rule_73 : decode prog_1_method_8_code 73 = .ok (.iload_n 1, 1) := by decide +kernel
theorem dd_Loom_rule_74 : decode prog_1_method_8_code 74 = .ok (.aaload, 1) := by decide +kernel
theorem dd_Loom_rule_75 : decode prog_1_method_8_code 75 = .ok (.iload_n 2, 1) := by decide +kernel
theorem dd_Loom_rule_76 : decode prog_1_method_8_code 76 = .ok (.iload_n 3, 1) := by decide +kernel
theorem dd_Loom_rule_77 : decode prog_1_method_8_code 77 = .ok (.lload 4, 2) := by decide +kernel
theorem dd_Loom_rule_79 : decode prog_1_method_8_code 79 = .ok (.invokevirtual 169, 3) := by decide +kernel
theorem dd_Loom_rule_82 : decode prog_1_method_8_code 82 = .ok (.return_, 1) := by decide +kernel
theorem dd_Loom_build_0 : decode prog_1_method_9_code 0 = .ok (.aload_n 0, 1) := by decide +kernel
theorem dd_Loom_build_1 : decode prog_1_method_9_code 1 = .ok (.getfield 55, 3) := by decide +kernel
theorem dd_Loom_build_4 : decode prog_1_method_9_code 4 = .ok (.ifCond .eq 13, 3) := by decide +kernel
theorem dd_Loom_build_7 : decode prog_1_method_9_code 7 = .ok (.new 74, 3) := by decide +kernel
theorem dd_Loom_build_10 : decode prog_1_method_9_code 10 = .ok (.dup, 1) := by decide +kernel
theorem dd_Loom_build_11 : decode prog_1_method_9_code 11 = .ok (.ldc 173, 2) := by decide +kernel
theorem dd_Loom_build_13 : decode prog_1_method_9_code 13 = .ok (.invokespecial 78, 3) := by decide +kernel
theorem dd_Loom_build_16 : decode prog_1_method_9_code 16 = .ok (.athrow, 1) := by decide +kernel
theorem dd_Loom_build_17 : decode prog_1_method_9_code 17 = .ok (.aload_n 0, 1) := by decide +kernel
theorem dd_Loom_build_18 : decode prog_1_method_9_code 18 = .ok (.getfield 42, 3) := by decide +kernel
theorem dd_Loom_build_21 : decode prog_1_method_9_code 21 = .ok (.invokevirtual 175, 3) := by decide +kernel
theorem dd_Loom_build_24 : decode prog_1_method_9_code 24 = .ok (.aload_n 0, 1) := by decide +kernel
theorem dd_Loom_build_25 : decode prog_1_method_9_code 25 = .ok (.getfield 42, 3) := by decide +kernel
theorem dd_Loom_build_28 : decode prog_1_method_9_code 28 = .ok (.getfield 178, 3) := by decide +kernel
theorem dd_Loom_build_31 : decode prog_1_method_9_code 31 = .ok (.ifCond .eq 13, 3) := by decide +kernel
theorem dd_Loom_build_34 : decode prog_1_method_9_code 34 = .ok (.new 63, 3) := by decide +kernel
theorem dd_Loom_build_37 : decode prog_1_method_9_code 37 = .ok (.dup, 1) := by decide +kernel
theorem dd_Loom_build_38 : decode prog_1_method_9_code 38 = .ok (.ldc 181, 2) := by decide +kernel
theorem dd_Loom_build_40 : decode prog_1_method_9_code 40 = .ok (.invokespecial 67, 3) := by decide +kernel
theorem dd_Loom_build_43 : decode prog_1_method_9_code 43 = .ok (.athrow, 1) := by decide +kernel
theorem dd_Loom_build_44 : decode prog_1_method_9_code 44 = .ok (.aload_n 0, 1) := by decide +kernel
theorem dd_Loom_build_45 : decode prog_1_method_9_code 45 = .ok (.iconst 1, 1) := by decide +kernel
theorem dd_Loom_build_46 : decode prog_1_method_9_code 46 = .ok (.putfield 55, 3) := by decide +kernel
theorem dd_Loom_build_49 : decode prog_1_method_9_code 49 = .ok (.aload_n 0, 1) := by decide +kernel
theorem dd_Loom_build_50 : decode prog_1_method_9_code 50 = .ok (.getfield 19, 3) := by decide +kernel
theorem dd_Loom_build_53 : decode prog_1_method_9_code 53 = .ok (.getfield 129, 3) := by decide +kernel
theorem dd_Loom_build_56 : decode prog_1_method_9_code 56 = .ok (.ireturn, 1) := by decide +kernel
theorem dd_Loom_diagnosis_0 : decode prog_1_method_10_code 0 = .ok (.iload_n 1, 1) := by decide +kernel
theorem dd_Loom_diagnosis_1 : decode prog_1_method_10_code 1 = .ok (.tableswitch 51 0 2 #[27, 35, 43], 27) := by decide +kernel
theorem dd_Loom_diagnosis_28 : decode prog_1_method_10_code 28 = .ok (.aload_n 0, 1) := by decide +kernel
theorem dd_Loom_diagnosis_29 : decode prog_1_method_10_code 29 = .ok (.getfield 42, 3) := by decide +kernel
theorem dd_Loom_diagnosis_32 : decode prog_1_method_10_code 32 = .ok (.getfield 178, 3) := by decide +kernel
theorem dd_Loom_diagnosis_35 : decode prog_1_method_10_code 35 = .ok (.ireturn, 1) := by decide +kernel
theorem dd_Loom_diagnosis_36 : decode prog_1_method_10_code 36 = .ok (.aload_n 0, 1) := by decide +kernel
theorem dd_Loom_diagnosis_37 : decode prog_1_method_10_code 37 = .ok (.getfield 42, 3) := by decide +kernel
theorem dd_Loom_diagnosis_40 : decode prog_1_method_10_code 40 = .ok (.getfield 183, 3) := by decide +kernel
theorem dd_Loom_diagnosis_43 : decode prog_1_method_10_code 43 = .ok (.ireturn, 1) := by decide +kernel
theorem dd_Loom_diagnosis_44 : decode prog_1_method_10_code 44 = .ok (.aload_n 0, 1) := by decide +kernel
theorem dd_Loom_diagnosis_45 : decode prog_1_method_10_code 45 = .ok (.getfield 42, 3) := by decide +kernel
theorem dd_Loom_diagnosis_48 : decode prog_1_method_10_code 48 = .ok (.getfield 186, 3) := by decide +kernel
theorem dd_Loom_diagnosis_51 : decode prog_1_method_10_code 51 = .ok (.ireturn, 1) := by decide +kernel
theorem dd_Loom_diagnosis_52 : decode prog_1_method_10_code 52 = .ok (.iconst (-1), 1) := by decide +kernel
theorem dd_Loom_diagnosis_53 : decode prog_1_method_10_code 53 = .ok (.ireturn, 1) := by decide +kernel
theorem dd_Loom_make_0 : decode prog_1_method_11_code 0 = .ok (.iload_n 1, 1) := by decide +kernel
theorem dd_Loom_make_1 : decode prog_1_method_11_code 1 = .ok (.invokestatic 189, 3) := by decide +kernel
theorem dd_Loom_make_4 : decode prog_1_method_11_code 4 = .ok (.istore 4, 2) := by decide +kernel
theorem dd_Loom_make_6 : decode prog_1_method_11_code 6 = .ok (.iload 4, 2) := by decide +kernel
theorem dd_Loom_make_8 : decode prog_1_method_11_code 8 = .ok (.ifCond .ne 31, 3) := by decide +kernel
theorem dd_Loom_make_11 : decode prog_1_method_11_code 11 = .ok (.iload_n 1, 1) := by decide +kernel
theorem dd_Loom_make_12 : decode prog_1_method_11_code 12 = .ok (.bipush 14, 2) := by decide +kernel
theorem dd_Loom_make_14 : decode prog_1_method_11_code 14 = .ok (.if_icmp .eq 25, 3) := by decide +kernel
theorem dd_Loom_make_17 : decode prog_1_method_11_code 17 = .ok (.aload_n 0, 1) := by decide +kernel
theorem dd_Loom_make_18 : decode prog_1_method_11_code 18 = .ok (.getfield 10, 3) := by decide +kernel
theorem dd_Loom_make_21 : decode prog_1_method_11_code 21 = .ok (.iload_n 1, 1) := by decide +kernel
theorem dd_Loom_make_22 : decode prog_1_method_11_code 22 = .ok (.invokevirtual 91, 3) := by decide +kernel
theorem dd_Loom_make_25 : decode prog_1_method_11_code 25 = .ok (.ifCond .ne 14, 3) := by decide +kernel
theorem dd_Loom_make_28 : decode prog_1_method_11_code 28 = .ok (.aload_n 0, 1) := by decide +kernel
theorem dd_Loom_make_29 : decode prog_1_method_11_code 29 = .ok (.getfield 10, 3) := by decide +kernel
theorem dd_Loom_make_32 : decode prog_1_method_11_code 32 = .ok (.iload_n 1, 1) := by decide +kernel
theorem dd_Loom_make_33 : decode prog_1_method_11_code 33 = .ok (.invokevirtual 192, 3) := by decide +kernel
theorem dd_Loom_make_36 : decode prog_1_method_11_code 36 = .ok (.ifCond .eq 19, 3) := by decide +kernel
theorem dd_Loom_make_39 : decode prog_1_method_11_code 39 = .ok (.iload 4, 2) := by decide +kernel
theorem dd_Loom_make_41 : decode prog_1_method_11_code 41 = .ok (.ifCond .eq 24, 3) := by decide +kernel
theorem dd_Loom_make_44 : decode prog_1_method_11_code 44 = .ok (.iload_n 1, 1) := by decide +kernel
theorem dd_Loom_make_45 : decode prog_1_method_11_code 45 = .ok (.invokestatic 195, 3) := by decide +kernel
theorem dd_Loom_make_48 : decode prog_1_method_11_code 48 = .ok (.lload_n 2, 1) := by decide +kernel
theorem dd_Loom_make_49 : decode prog_1_method_11_code 49 = .ok (.invokestatic 198, 3) := by decide +kernel
theorem dd_Loom_make_52 : decode prog_1_method_11_code 52 = .ok (.ifCond .ne 13, 3) := by decide +kernel
theorem dd_Loom_make_55 : decode prog_1_method_11_code 55 = .ok (.new 63, 3) := by decide +kernel
theorem dd_Loom_make_58 : decode prog_1_method_11_code 58 = .ok (.dup, 1) := by decide +kernel
theorem dd_Loom_make_59 : decode prog_1_method_11_code 59 = .ok (.ldc 202, 2) := by decide +kernel
theorem dd_Loom_make_61 : decode prog_1_method_11_code 61 = .ok (.invokespecial 67, 3) := by decide +kernel
theorem dd_Loom_make_64 : decode prog_1_method_11_code 64 = .ok (.athrow, 1) := by decide +kernel
theorem dd_Loom_make_65 : decode prog_1_method_11_code 65 = .ok (.aload_n 0, 1) := by decide +kernel
theorem dd_Loom_make_66 : decode prog_1_method_11_code 66 = .ok (.getfield 28, 3) := by decide +kernel
theorem dd_Loom_make_69 : decode prog_1_method_11_code 69 = .ok (.invokevirtual 204, 3) := by decide +kernel
theorem dd_Loom_make_72 : decode prog_1_method_11_code 72 = .ok (.ifCond .eq 13, 3) := by decide +kernel
theorem dd_Loom_make_75 : decode prog_1_method_11_code 75 = .ok (.new 74, 3) := by decide +kernel
theorem dd_Loom_make_78 : decode prog_1_method_11_code 78 = .ok (.dup, 1) := by decide +kernel
theorem dd_Loom_make_79 : decode prog_1_method_11_code 79 = .ok (.ldc 205, 2) := by decide +kernel
theorem dd_Loom_make_81 : decode prog_1_method_11_code 81 = .ok (.invokespecial 78, 3) := by decide +kernel
theorem dd_Loom_make_84 : decode prog_1_method_11_code 84 = .ok (.athrow, 1) := by decide +kernel
theorem dd_Loom_make_85 : decode prog_1_method_11_code 85 = .ok (.aload_n 0, 1) := by decide +kernel
theorem dd_Loom_make_86 : decode prog_1_method_11_code 86 = .ok (.getfield 10, 3) := by decide +kernel
theorem dd_Loom_make_89 : decode prog_1_method_11_code 89 = .ok (.iload_n 1, 1) := by decide +kernel
theorem dd_Loom_make_90 : decode prog_1_method_11_code 90 = .ok (.invokevirtual 91, 3) := by decide +kernel
theorem dd_Loom_make_93 : decode prog_1_method_11_code 93 = .ok (.ifCond .eq 14, 3) := by decide +kernel
theorem dd_Loom_make_96 : decode prog_1_method_11_code 96 = .ok (.aload_n 0, 1) := by decide +kernel
theorem dd_Loom_make_97 : decode prog_1_method_11_code 97 = .ok (.getfield 28, 3) := by decide +kernel
theorem dd_Loom_make_100 : decode prog_1_method_11_code 100 = .ok (.iload_n 1, 1) := by decide +kernel
theorem dd_Loom_make_101 : decode prog_1_method_11_code 101 = .ok (.invokevirtual 207, 3) := by decide +kernel
theorem dd_Loom_make_104 : decode prog_1_method_11_code 104 = .ok (.goto 11, 3) := by decide +kernel
theorem dd_Loom_make_107 : decode prog_1_method_11_code 107 = .ok (.aload_n 0, 1) := by decide +kernel
theorem dd_Loom_make_108 : decode prog_1_method_11_code 108 = .ok (.getfield 28, 3) := by decide +kernel
theorem dd_Loom_make_111 : decode prog_1_method_11_code 111 = .ok (.iload_n 1, 1) := by decide +kernel
theorem dd_Loom_make_112 : decode prog_1_method_11_code 112 = .ok (.invokevirtual 210, 3) := by decide +kernel
theorem dd_Loom_make_115 : decode prog_1_method_11_code 115 = .ok (.istore 5, 2) := by decide +kernel
theorem dd_Loom_make_117 : decode prog_1_method_11_code 117 = .ok (.iload 4, 2) := by decide +kernel
theorem dd_Loom_make_119 : decode prog_1_method_11_code 119 = .ok (.ifCond .eq 14, 3) := by decide +kernel
theorem dd_Loom_make_122 : decode prog_1_method_11_code 122 = .ok (.aload_n 0, 1) := by decide +kernel
theorem dd_Loom_make_123 : decode prog_1_method_11_code 123 = .ok (.getfield 28, 3) := by decide +kernel
theorem dd_Loom_make_126 : decode prog_1_method_11_code 126 = .ok (.iload 5, 2) := by decide +kernel
theorem dd_Loom_make_128 : decode prog_1_method_11_code 128 = .ok (.lload_n 2, 1) := by decide +kernel
theorem dd_Loom_make_129 : decode prog_1_method_11_code 129 = .ok (.invokevirtual 213, 3) := by decide +kernel
theorem dd_Loom_make_132 : decode prog_1_method_11_code 132 = .ok (.pop, 1) := by decide +kernel
theorem dd_Loom_make_133 : decode prog_1_method_11_code 133 = .ok (.iload_n 1, 1) := by decide +kernel
theorem dd_Loom_make_134 : decode prog_1_method_11_code 134 = .ok (.bipush 14, 2) := by decide +kernel
theorem dd_Loom_make_136 : decode prog_1_method_11_code 136 = .ok (.if_icmp .ne 13, 3) := by decide +kernel
theorem dd_Loom_make_139 : decode prog_1_method_11_code 139 = .ok (.aload_n 0, 1) := by decide +kernel
theorem dd_Loom_make_140 : decode prog_1_method_11_code 140 = .ok (.getfield 28, 3) := by decide +kernel
theorem dd_Loom_make_143 : decode prog_1_method_11_code 143 = .ok (.iload 5, 2) := by decide +kernel
theorem dd_Loom_make_145 : decode prog_1_method_11_code 145 = .ok (.lload_n 2, 1) := by decide +kernel
theorem dd_Loom_make_146 : decode prog_1_method_11_code 146 = .ok (.invokevirtual 216, 3) := by decide +kernel
theorem dd_Loom_make_149 : decode prog_1_method_11_code 149 = .ok (.iload 5, 2) := by decide +kernel
theorem dd_Loom_make_151 : decode prog_1_method_11_code 151 = .ok (.ireturn, 1) := by decide +kernel
theorem dd_Loom_put_0 : decode prog_1_method_12_code 0 = .ok (.aload_n 0, 1) := by decide +kernel
theorem dd_Loom_put_1 : decode prog_1_method_12_code 1 = .ok (.getfield 28, 3) := by decide +kernel
theorem dd_Loom_put_4 : decode prog_1_method_12_code 4 = .ok (.iload_n 1, 1) := by decide +kernel
theorem dd_Loom_put_5 : decode prog_1_method_12_code 5 = .ok (.invokevirtual 220, 3) := by decide +kernel
theorem dd_Loom_put_8 : decode prog_1_method_12_code 8 = .ok (.istore 5, 2) := by decide +kernel
theorem dd_Loom_put_10 : decode prog_1_method_12_code 10 = .ok (.aload_n 0, 1) := by decide +kernel
theorem dd_Loom_put_11 : decode prog_1_method_12_code 11 = .ok (.getfield 10, 3) := by decide +kernel
theorem dd_Loom_put_14 : decode prog_1_method_12_code 14 = .ok (.iload 5, 2) := by decide +kernel
theorem dd_Loom_put_16 : decode prog_1_method_12_code 16 = .ok (.invokevirtual 91, 3) := by decide +kernel
theorem dd_Loom_put_19 : decode prog_1_method_12_code 19 = .ok (.ifCond .eq 55, 3) := by decide +kernel
theorem dd_Loom_put_22 : decode prog_1_method_12_code 22 = .ok (.aload_n 0, 1) := by decide +kernel
theorem dd_Loom_put_23 : decode prog_1_method_12_code 23 = .ok (.getfield 28, 3) := by decide +kernel
theorem dd_Loom_put_26 : decode prog_1_method_12_code 26 = .ok (.iload_n 1, 1) := by decide +kernel
theorem dd_Loom_put_27 : decode prog_1_method_12_code 27 = .ok (.iload_n 2, 1) := by decide +kernel
theorem dd_Loom_put_28 : decode prog_1_method_12_code 28 = .ok (.invokevirtual 223, 3) := by decide +kernel
theorem dd_Loom_put_31 : decode prog_1_method_12_code 31 = .ok (.ifCond .eq 41, 3) := by decide +kernel
theorem dd_Loom_put_34 : decode prog_1_method_12_code 34 = .ok (.aload_n 0, 1) := by decide +kernel
theorem dd_Loom_put_35 : decode prog_1_method_12_code 35 = .ok (.getfield 28, 3) := by decide +kernel
theorem dd_Loom_put_38 : decode prog_1_method_12_code 38 = .ok (.aload_n 0, 1) := by decide +kernel
theorem dd_Loom_put_39 : decode prog_1_method_12_code 39 = .ok (.getfield 10, 3) := by decide +kernel
theorem dd_Loom_put_42 : decode prog_1_method_12_code 42 = .ok (.iload 5, 2) := by decide +kernel
theorem dd_Loom_put_44 : decode prog_1_method_12_code 44 = .ok (.iload_n 2, 1) := by decide +kernel
theorem dd_Loom_put_45 : decode prog_1_method_12_code 45 = .ok (.invokevirtual 227, 3) := by decide +kernel
theorem dd_Loom_put_48 : decode prog_1_method_12_code 48 = .ok (.lload_n 3, 1) := by decide +kernel
theorem dd_Loom_put_49 : decode prog_1_method_12_code 49 = .ok (.invokevirtual 230, 3) := by decide +kernel
theorem dd_Loom_put_52 : decode prog_1_method_12_code 52 = .ok (.ifCond .eq 20, 3) := by decide +kernel
theorem dd_Loom_put_55 : decode prog_1_method_12_code 55 = .ok (.aload_n 0, 1) := by decide +kernel
theorem dd_Loom_put_56 : decode prog_1_method_12_code 56 = .ok (.getfield 28, 3) := by decide +kernel
theorem dd_Loom_put_59 : decode prog_1_method_12_code 59 = .ok (.iload_n 1, 1) := by decide +kernel
theorem dd_Loom_put_60 : decode prog_1_method_12_code 60 = .ok (.iload_n 2, 1) := by decide +kernel
theorem dd_Loom_put_61 : decode prog_1_method_12_code 61 = .ok (.lload_n 3, 1) := by decide +kernel
theorem dd_Loom_put_62 : decode prog_1_method_12_code 62 = .ok (.invokevirtual 233, 3) := by decide +kernel
theorem dd_Loom_put_65 : decode prog_1_method_12_code 65 = .ok (.ifCond .eq 7, 3) := by decide +kernel
theorem dd_Loom_put_68 : decode prog_1_method_12_code 68 = .ok (.iconst 1, 1) := by decide +kernel
theorem dd_Loom_put_69 : decode prog_1_method_12_code 69 = .ok (.goto 4, 3) := by decide +kernel
theorem dd_Loom_put_72 : decode prog_1_method_12_code 72 = .ok (.iconst 0, 1) := by decide +kernel
theorem dd_Loom_put_73 : decode prog_1_method_12_code 73 = .ok (.ireturn, 1) := by decide +kernel
theorem dd_Loom_put_74 : decode prog_1_method_12_code 74 = .ok (.aload_n 0, 1) := by decide +kernel
theorem dd_Loom_put_75 : decode prog_1_method_12_code 75 = .ok (.getfield 10, 3) := by decide +kernel
theorem dd_Loom_put_78 : decode prog_1_method_12_code 78 = .ok (.iload 5, 2) := by decide +kernel
theorem dd_Loom_put_80 : decode prog_1_method_12_code 80 = .ok (.invokevirtual 192, 3) := by decide +kernel
theorem dd_Loom_put_83 : decode prog_1_method_12_code 83 = .ok (.ifCond .eq 52, 3) := by decide +kernel
theorem dd_Loom_put_86 : decode prog_1_method_12_code 86 = .ok (.aload_n 0, 1) := by decide +kernel
theorem dd_Loom_put_87 : decode prog_1_method_12_code 87 = .ok (.getfield 28, 3) := by decide +kernel
theorem dd_Loom_put_90 : decode prog_1_method_12_code 90 = .ok (.iload_n 1, 1) := by decide +kernel
theorem dd_Loom_put_91 : decode prog_1_method_12_code 91 = .ok (.invokevirtual 237, 3) := by decide +kernel
theorem dd_Loom_put_94 : decode prog_1_method_12_code 94 = .ok (.bipush 16, 2) := by decide +kernel
theorem dd_Loom_put_96 : decode prog_1_method_12_code 96 = .ok (.if_icmp .ge 39, 3) := by decide +kernel
theorem dd_Loom_put_99 : decode prog_1_method_12_code 99 = .ok (.aload_n 0, 1) := by decide +kernel
theorem dd_Loom_put_100 : decode prog_1_method_12_code 100 = .ok (.getfield 28, 3) := by decide +kernel
theorem dd_Loom_put_103 : decode prog_1_method_12_code 103 = .ok (.aload_n 0, 1) := by decide +kernel
theorem dd_Loom_put_104 : decode prog_1_method_12_code 104 = .ok (.getfield 10, 3) := by decide +kernel
theorem dd_Loom_put_107 : decode prog_1_method_12_code 107 = .ok (.iload 5, 2) := by decide +kernel
theorem dd_Loom_put_109 : decode prog_1_method_12_code 109 = .ok (.invokevirtual 240, 3) := by decide +kernel
theorem dd_Loom_put_112 : decode prog_1_method_12_code 112 = .ok (.lload_n 3, 1) := by decide +kernel
theorem dd_Loom_put_113 : decode prog_1_method_12_code 113 = .ok (.invokevirtual 230, 3) := by decide +kernel
theorem dd_Loom_put_116 : decode prog_1_method_12_code 116 = .ok (.ifCond .eq 19, 3) := by decide +kernel
theorem dd_Loom_put_119 : decode prog_1_method_12_code 119 = .ok (.aload_n 0, 1) := by decide +kernel
theorem dd_Loom_put_120 : decode prog_1_method_12_code 120 = .ok (.getfield 28, 3) := by decide +kernel
theorem dd_Loom_put_123 : decode prog_1_method_12_code 123 = .ok (.iload_n 1, 1) := by decide +kernel
theorem dd_Loom_put_124 : decode prog_1_method_12_code 124 = .ok (.lload_n 3, 1) := by decide +kernel
theorem dd_Loom_put_125 : decode prog_1_method_12_code 125 = .ok (.invokevirtual 213, 3) := by decide +kernel
theorem dd_Loom_put_128 : decode prog_1_method_12_code 128 = .ok (.ifCond .eq 7, 3) := by decide +kernel
theorem dd_Loom_put_131 : decode prog_1_method_12_code 131 = .ok (.iconst 1, 1) := by decide +kernel
theorem dd_Loom_put_132 : decode prog_1_method_12_code 132 = .ok (.goto 4, 3) := by decide +kernel
theorem dd_Loom_put_135 : decode prog_1_method_12_code 135 = .ok (.iconst 0, 1) := by decide +kernel
theorem dd_Loom_put_136 : decode prog_1_method_12_code 136 = .ok (.ireturn, 1) := by decide +kernel
theorem dd_Loom_map_0 : decode prog_1_method_13_code 0 = .ok (.aload_n 0, 1) := by decide +kernel
theorem dd_Loom_map_1 : decode prog_1_method_13_code 1 = .ok (.getfield 19, 3) := by decide +kernel
theorem dd_Loom_map_4 : decode prog_1_method_13_code 4 = .ok (.iload_n 1, 1) := by decide +kernel
theorem dd_Loom_map_5 : decode prog_1_method_13_code 5 = .ok (.i2l, 1) := by decide +kernel
theorem dd_Loom_map_6 : decode prog_1_method_13_code 6 = .ok (.invokevirtual 152, 3) := by decide +kernel
theorem dd_Loom_map_9 : decode prog_1_method_13_code 9 = .ok (.ifCond .eq 27, 3) := by decide +kernel
theorem dd_Loom_map_12 : decode prog_1_method_13_code 12 = .ok (.aload_n 0, 1) := by decide +kernel
theorem dd_Loom_map_13 : decode prog_1_method_13_code 13 = .ok (.getfield 28, 3) := by decide +kernel
theorem dd_Loom_map_16 : decode prog_1_method_13_code 16 = .ok (.aload_n 0, 1) := by decide +kernel
theorem dd_Loom_map_17 : decode prog_1_method_13_code 17 = .ok (.getfield 19, 3) := by decide +kernel
theorem dd_Loom_map_20 : decode prog_1_method_13_code 20 = .ok (.getfield 158, 3) := by decide +kernel
theorem dd_Loom_map_23 : decode prog_1_method_13_code 23 = .ok (.iload_n 1, 1) := by decide +kernel
theorem dd_Loom_map_24 : decode prog_1_method_13_code 24 = .ok (.aaload, 1) := by decide +kernel
theorem dd_Loom_map_25 : decode prog_1_method_13_code 25 = .ok (.getfield 243, 3) := by decide +kernel
theorem dd_Loom_map_28 : decode prog_1_method_13_code 28 = .ok (.iload_n 2, 1) := by decide +kernel
theorem dd_Loom_map_29 : decode prog_1_method_13_code 29 = .ok (.i2l, 1) := by decide +kernel
theorem dd_Loom_map_30 : decode prog_1_method_13_code 30 = .ok (.invokevirtual 230, 3) := by decide +kernel
theorem dd_Loom_map_33 : decode prog_1_method_13_code 33 = .ok (.ifCond .ne 13, 3) := by decide +kernel
theorem dd_Loom_map_36 : decode prog_1_method_13_code 36 = .ok (.new 63, 3) := by decide +kernel
theorem dd_Loom_map_39 : decode prog_1_method_13_code 39 = .ok (.dup, 1) := by decide +kernel
theorem dd_Loom_map_40 : decode prog_1_method_13_code 40 = .ok (.ldc 246, 2) := by decide +kernel
theorem dd_Loom_map_42 : decode prog_1_method_13_code 42 = .ok (.invokespecial 67, 3) := by decide +kernel
theorem dd_Loom_map_45 : decode prog_1_method_13_code 45 = .ok (.athrow, 1) := by decide +kernel
theorem dd_Loom_map_46 : decode prog_1_method_13_code 46 = .ok (.aload_n 0, 1) := by decide +kernel
theorem dd_Loom_map_47 : decode prog_1_method_13_code 47 = .ok (.getfield 55, 3) := by decide +kernel
theorem dd_Loom_map_50 : decode prog_1_method_13_code 50 = .ok (.ifCond .ne 13, 3) := by decide +kernel
theorem dd_Loom_map_53 : decode prog_1_method_13_code 53 = .ok (.new 74, 3) := by decide +kernel
theorem dd_Loom_map_56 : decode prog_1_method_13_code 56 = .ok (.dup, 1) := by decide +kernel
theorem dd_Loom_map_57 : decode prog_1_method_13_code 57 = .ok (.ldc 248, 2) := by decide +kernel
theorem dd_Loom_map_59 : decode prog_1_method_13_code 59 = .ok (.invokespecial 78, 3) := by decide +kernel
theorem dd_Loom_map_62 : decode prog_1_method_13_code 62 = .ok (.athrow, 1) := by decide +kernel
theorem dd_Loom_map_63 : decode prog_1_method_13_code 63 = .ok (.aload_n 0, 1) := by decide +kernel
theorem dd_Loom_map_64 : decode prog_1_method_13_code 64 = .ok (.getfield 28, 3) := by decide +kernel
theorem dd_Loom_map_67 : decode prog_1_method_13_code 67 = .ok (.invokevirtual 108, 3) := by decide +kernel
theorem dd_Loom_map_70 : decode prog_1_method_13_code 70 = .ok (.istore_n 3, 1) := by decide +kernel
theorem dd_Loom_map_71 : decode prog_1_method_13_code 71 = .ok (.aload_n 0, 1) := by decide +kernel
theorem dd_Loom_map_72 : decode prog_1_method_13_code 72 = .ok (.getfield 51, 3) := by decide +kernel
theorem dd_Loom_map_75 : decode prog_1_method_13_code 75 = .ok (.iload_n 1, 1) := by decide +kernel
theorem dd_Loom_map_76 : decode prog_1_method_13_code 76 = .ok (.iload_n 2, 1) := by decide +kernel
theorem dd_Loom_map_77 : decode prog_1_method_13_code 77 = .ok (.i2l, 1) := by decide +kernel
theorem dd_Loom_map_78 : decode prog_1_method_13_code 78 = .ok (.invokevirtual 250, 3) := by decide +kernel
theorem dd_Loom_map_81 : decode prog_1_method_13_code 81 = .ok (.lstore 4, 2) := by decide +kernel
theorem dd_Loom_map_83 : decode prog_1_method_13_code 83 = .ok (.aload_n 0, 1) := by decide +kernel
theorem dd_Loom_map_84 : decode prog_1_method_13_code 84 = .ok (.getfield 51, 3) := by decide +kernel
theorem dd_Loom_map_87 : decode prog_1_method_13_code 87 = .ok (.invokevirtual 254, 3) := by decide +kernel
theorem dd_Loom_map_90 : decode prog_1_method_13_code 90 = .ok (.ifCond .eq 22, 3) := by decide +kernel
theorem dd_Loom_map_93 : decode prog_1_method_13_code 93 = .ok (.aload_n 0, 1) := by decide +kernel
theorem dd_Loom_map_94 : decode prog_1_method_13_code 94 = .ok (.getfield 28, 3) := by decide +kernel
theorem dd_Loom_map_97 : decode prog_1_method_13_code 97 = .ok (.iload_n 3, 1) := by decide +kernel
theorem dd_Loom_map_98 : decode prog_1_method_13_code 98 = .ok (.invokevirtual 257, 3) := by decide +kernel
theorem dd_Loom_map_101 : decode prog_1_method_13_code 101 = .ok (.new 261, 3) := by decide +kernel
theorem dd_Loom_map_104 : decode prog_1_method_13_code 104 = .ok (.dup, 1) := by decide +kernel
theorem dd_Loom_map_105 : decode prog_1_method_13_code 105 = .ok (.ldc_w 263, 3) := by decide +kernel
theorem dd_Loom_map_108 : decode prog_1_method_13_code 108 = .ok (.invokespecial 265, 3) := by decide +kernel
theorem dd_Loom_map_111 : decode prog_1_method_13_code 111 = .ok (.athrow, 1) := by decide +kernel
theorem dd_Loom_map_112 : decode prog_1_method_13_code 112 = .ok (.lload 4, 2) := by decide +kernel
theorem dd_Loom_map_114 : decode prog_1_method_13_code 114 = .ok (.l2i, 1) := by decide +kernel
theorem dd_Loom_map_115 : decode prog_1_method_13_code 115 = .ok (.ireturn, 1) := by decide +kernel
theorem dd_Loom_get_0 : decode prog_1_method_14_code 0 = .ok (.aload_n 0, 1) := by decide +kernel
theorem dd_Loom_get_1 : decode prog_1_method_14_code 1 = .ok (.getfield 28, 3) := by decide +kernel
theorem dd_Loom_get_4 : decode prog_1_method_14_code 4 = .ok (.iload_n 1, 1) := by decide +kernel
theorem dd_Loom_get_5 : decode prog_1_method_14_code 5 = .ok (.iload_n 2, 1) := by decide +kernel
theorem dd_Loom_get_6 : decode prog_1_method_14_code 6 = .ok (.invokevirtual 223, 3) := by decide +kernel
theorem dd_Loom_get_9 : decode prog_1_method_14_code 9 = .ok (.ifCond .ne 14, 3) := by decide +kernel
theorem dd_Loom_get_12 : decode prog_1_method_14_code 12 = .ok (.new 266, 3) := by decide +kernel
theorem dd_Loom_get_15 : decode prog_1_method_14_code 15 = .ok (.dup, 1) := by decide +kernel
theorem dd_Loom_get_16 : decode prog_1_method_14_code 16 = .ok (.ldc_w 268, 3) := by decide +kernel
theorem dd_Loom_get_19 : decode prog_1_method_14_code 19 = .ok (.invokespecial 270, 3) := by decide +kernel
theorem dd_Loom_get_22 : decode prog_1_method_14_code 22 = .ok (.athrow, 1) := by decide +kernel
theorem dd_Loom_get_23 : decode prog_1_method_14_code 23 = .ok (.aload_n 0, 1) := by decide +kernel
theorem dd_Loom_get_24 : decode prog_1_method_14_code 24 = .ok (.getfield 28, 3) := by decide +kernel
theorem dd_Loom_get_27 : decode prog_1_method_14_code 27 = .ok (.iload_n 1, 1) := by decide +kernel
theorem dd_Loom_get_28 : decode prog_1_method_14_code 28 = .ok (.iload_n 2, 1) := by decide +kernel
theorem dd_Loom_get_29 : decode prog_1_method_14_code 29 = .ok (.invokevirtual 271, 3) := by decide +kernel
theorem dd_Loom_get_32 : decode prog_1_method_14_code 32 = .ok (.lreturn, 1) := by decide +kernel
theorem dd_Loom_about_0 : decode prog_1_method_15_code 0 = .ok (.aload_n 0, 1) := by decide +kernel
theorem dd_Loom_about_1 : decode prog_1_method_15_code 1 = .ok (.getfield 28, 3) := by decide +kernel
theorem dd_Loom_about_4 : decode prog_1_method_15_code 4 = .ok (.iload_n 1, 1) := by decide +kernel
theorem dd_Loom_about_5 : decode prog_1_method_15_code 5 = .ok (.i2l, 1) := by decide +kernel
theorem dd_Loom_about_6 : decode prog_1_method_15_code 6 = .ok (.invokevirtual 275, 3) := by decide +kernel
theorem dd_Loom_about_9 : decode prog_1_method_15_code 9 = .ok (.ifCond .eq 12, 3) := by decide +kernel
theorem dd_Loom_about_12 : decode prog_1_method_15_code 12 = .ok (.iload_n 2, 1) := by decide +kernel
theorem dd_Loom_about_13 : decode prog_1_method_15_code 13 = .ok (.ifCond .lt 8, 3) := by decide +kernel
theorem dd_Loom_about_16 : decode prog_1_method_15_code 16 = .ok (.iload_n 2, 1) := by decide +kernel
theorem dd_Loom_about_17 : decode prog_1_method_15_code 17 = .ok (.iconst 1, 1) := by decide +kernel
theorem dd_Loom_about_18 : decode prog_1_method_15_code 18 = .ok (.if_icmp .le 14, 3) := by decide +kernel
theorem dd_Loom_about_21 : decode prog_1_method_15_code 21 = .ok (.new 266, 3) := by decide +kernel
theorem dd_Loom_about_24 : decode prog_1_method_15_code 24 = .ok (.dup, 1) := by decide +kernel
theorem dd_Loom_about_25 : decode prog_1_method_15_code 25 = .ok (.ldc_w 278, 3) := by decide +kernel
theorem dd_Loom_about_28 : decode prog_1_method_15_code 28 = .ok (.invokespecial 270, 3) := by decide +kernel
theorem dd_Loom_about_31 : decode prog_1_method_15_code 31 = .ok (.athrow, 1) := by decide +kernel
theorem dd_Loom_about_32 : decode prog_1_method_15_code 32 = .ok (.iload_n 2, 1) := by decide +kernel
theorem dd_Loom_about_33 : decode prog_1_method_15_code 33 = .ok (.ifCond .ne 14, 3) := by decide +kernel
theorem dd_Loom_about_36 : decode prog_1_method_15_code 36 = .ok (.aload_n 0, 1) := by decide +kernel
theorem dd_Loom_about_37 : decode prog_1_method_15_code 37 = .ok (.getfield 28, 3) := by decide +kernel
theorem dd_Loom_about_40 : decode prog_1_method_15_code 40 = .ok (.iload_n 1, 1) := by decide +kernel
theorem dd_Loom_about_41 : decode prog_1_method_15_code 41 = .ok (.invokevirtual 220, 3) := by decide +kernel
theorem dd_Loom_about_44 : decode prog_1_method_15_code 44 = .ok (.goto 11, 3) := by decide +kernel
theorem dd_Loom_about_47 : decode prog_1_method_15_code 47 = .ok (.aload_n 0, 1) := by decide +kernel
theorem dd_Loom_about_48 : decode prog_1_method_15_code 48 = .ok (.getfield 28, 3) := by decide +kernel
theorem dd_Loom_about_51 : decode prog_1_method_15_code 51 = .ok (.iload_n 1, 1) := by decide +kernel
theorem dd_Loom_about_52 : decode prog_1_method_15_code 52 = .ok (.invokevirtual 237, 3) := by decide +kernel
theorem dd_Loom_about_55 : decode prog_1_method_15_code 55 = .ok (.ireturn, 1) := by decide +kernel
theorem dd_Loom_count_0 : decode prog_1_method_16_code 0 = .ok (.iload_n 1, 1) := by decide +kernel
theorem dd_Loom_count_1 : decode prog_1_method_16_code 1 = .ok (.tableswitch 80 0 4 #[35, 43, 51, 59, 67], 35) := by decide +kernel
theorem dd_Loom_count_36 : decode prog_1_method_16_code 36 = .ok (.aload_n 0, 1) := by decide +kernel
theorem dd_Loom_count_37 : decode prog_1_method_16_code 37 = .ok (.getfield 10, 3) := by decide +kernel
theorem dd_Loom_count_40 : decode prog_1_method_16_code 40 = .ok (.invokevirtual 280, 3) := by decide +kernel
theorem dd_Loom_count_43 : decode prog_1_method_16_code 43 = .ok (.ireturn, 1) := by decide +kernel
theorem dd_Loom_count_44 : decode prog_1_method_16_code 44 = .ok (.aload_n 0, 1) := by decide +kernel
theorem dd_Loom_count_45 : decode prog_1_method_16_code 45 = .ok (.getfield 19, 3) := by decide +kernel
theorem dd_Loom_count_48 : decode prog_1_method_16_code 48 = .ok (.getfield 129, 3) := by decide +kernel
theorem dd_Loom_count_51 : decode prog_1_method_16_code 51 = .ok (.ireturn, 1) := by decide +kernel
theorem dd_Loom_count_52 : decode prog_1_method_16_code 52 = .ok (.aload_n 0, 1) := by decide +kernel
theorem dd_Loom_count_53 : decode prog_1_method_16_code 53 = .ok (.getfield 19, 3) := by decide +kernel
theorem dd_Loom_count_56 : decode prog_1_method_16_code 56 = .ok (.getfield 143, 3) := by decide +kernel
theorem dd_Loom_count_59 : decode prog_1_method_16_code 59 = .ok (.ireturn, 1) := by decide +kernel
theorem dd_Loom_count_60 : decode prog_1_method_16_code 60 = .ok (.aload_n 0, 1) := by decide +kernel
theorem dd_Loom_count_61 : decode prog_1_method_16_code 61 = .ok (.getfield 28, 3) := by decide +kernel
theorem dd_Loom_count_64 : decode prog_1_method_16_code 64 = .ok (.invokevirtual 108, 3) := by decide +kernel
theorem dd_Loom_count_67 : decode prog_1_method_16_code 67 = .ok (.ireturn, 1) := by decide +kernel
theorem dd_Loom_count_68 : decode prog_1_method_16_code 68 = .ok (.aload_n 0, 1) := by decide +kernel
theorem dd_Loom_count_69 : decode prog_1_method_16_code 69 = .ok (.getfield 55, 3) := by decide +kernel
theorem dd_Loom_count_72 : decode prog_1_method_16_code 72 = .ok (.ifCond .eq 7, 3) := by decide +kernel
theorem dd_Loom_count_75 : decode prog_1_method_16_code 75 = .ok (.iconst 1, 1) := by decide +kernel
theorem dd_Loom_count_76 : decode prog_1_method_16_code 76 = .ok (.goto 4, 3) := by decide +kernel
theorem dd_Loom_count_79 : decode prog_1_method_16_code 79 = .ok (.iconst 0, 1) := by decide +kernel
theorem dd_Loom_count_80 : decode prog_1_method_16_code 80 = .ok (.ireturn, 1) := by decide +kernel
theorem dd_Loom_count_81 : decode prog_1_method_16_code 81 = .ok (.iconst (-1), 1) := by decide +kernel
theorem dd_Loom_count_82 : decode prog_1_method_16_code 82 = .ok (.ireturn, 1) := by decide +kernel
theorem dd_Ref_init_0 : decode prog_14_method_1_code 0 = .ok (.aload_n 0, 1) := by decide +kernel
theorem dd_Ref_init_1 : decode prog_14_method_1_code 1 = .ok (.invokespecial 1, 3) := by decide +kernel
theorem dd_Ref_init_4 : decode prog_14_method_1_code 4 = .ok (.aload_n 0, 1) := by decide +kernel
theorem dd_Ref_init_5 : decode prog_14_method_1_code 5 = .ok (.bipush 15, 2) := by decide +kernel
theorem dd_Ref_init_7 : decode prog_14_method_1_code 7 = .ok (.putfield 7, 3) := by decide +kernel
theorem dd_Ref_init_10 : decode prog_14_method_1_code 10 = .ok (.aload_n 0, 1) := by decide +kernel
theorem dd_Ref_init_11 : decode prog_14_method_1_code 11 = .ok (.bipush 40, 2) := by decide +kernel
theorem dd_Ref_init_13 : decode prog_14_method_1_code 13 = .ok (.newarray .int, 2) := by decide +kernel
theorem dd_Ref_init_15 : decode prog_14_method_1_code 15 = .ok (.putfield 13, 3) := by decide +kernel
theorem dd_Ref_init_18 : decode prog_14_method_1_code 18 = .ok (.aload_n 0, 1) := by decide +kernel
theorem dd_Ref_init_19 : decode prog_14_method_1_code 19 = .ok (.bipush 40, 2) := by decide +kernel
theorem dd_Ref_init_21 : decode prog_14_method_1_code 21 = .ok (.newarray .int, 2) := by decide +kernel
theorem dd_Ref_init_23 : decode prog_14_method_1_code 23 = .ok (.putfield 17, 3) := by decide +kernel
theorem dd_Ref_init_26 : decode prog_14_method_1_code 26 = .ok (.aload_n 0, 1) := by decide +kernel
theorem dd_Ref_init_27 : decode prog_14_method_1_code 27 = .ok (.sipush 320, 3) := by decide +kernel
theorem dd_Ref_init_30 : decode prog_14_method_1_code 30 = .ok (.newarray .int, 2) := by decide +kernel
theorem dd_Ref_init_32 : decode prog_14_method_1_code 32 = .ok (.putfield 20, 3) := by decide +kernel
theorem dd_Ref_init_35 : decode prog_14_method_1_code 35 = .ok (.aload_n 0, 1) := by decide +kernel
theorem dd_Ref_init_36 : decode prog_14_method_1_code 36 = .ok (.sipush 320, 3) := by decide +kernel
theorem dd_Ref_init_39 : decode prog_14_method_1_code 39 = .ok (.newarray .int, 2) := by decide +kernel
theorem dd_Ref_init_41 : decode prog_14_method_1_code 41 = .ok (.putfield 23, 3) := by decide +kernel
theorem dd_Ref_init_44 : decode prog_14_method_1_code 44 = .ok (.aload_n 0, 1) := by decide +kernel
theorem dd_Ref_init_45 : decode prog_14_method_1_code 45 = .ok (.bipush 40, 2) := by decide +kernel
theorem dd_Ref_init_47 : decode prog_14_method_1_code 47 = .ok (.newarray .int, 2) := by decide +kernel
theorem dd_Ref_init_49 : decode prog_14_method_1_code 49 = .ok (.putfield 26, 3) := by decide +kernel
theorem dd_Ref_init_52 : decode prog_14_method_1_code 52 = .ok (.aload_n 0, 1) := by decide +kernel
theorem dd_Ref_init_53 : decode prog_14_method_1_code 53 = .ok (.bipush 16, 2) := by decide +kernel
theorem dd_Ref_init_55 : decode prog_14_method_1_code 55 = .ok (.newarray .int, 2) := by decide +kernel
theorem dd_Ref_init_57 : decode prog_14_method_1_code 57 = .ok (.putfield 29, 3) := by decide +kernel
theorem dd_Ref_init_60 : decode prog_14_method_1_code 60 = .ok (.aload_n 0, 1) := by decide +kernel
theorem dd_Ref_init_61 : decode prog_14_method_1_code 61 = .ok (.bipush 16, 2) := by decide +kernel
theorem dd_Ref_init_63 : decode prog_14_method_1_code 63 = .ok (.newarray .int, 2) := by decide +kernel
theorem dd_Ref_init_65 : decode prog_14_method_1_code 65 = .ok (.putfield 32, 3) := by decide +kernel
theorem dd_Ref_init_68 : decode prog_14_method_1_code 68 = .ok (.aload_n 0, 1) := by decide +kernel
theorem dd_Ref_init_69 : decode prog_14_method_1_code 69 = .ok (.bipush 16, 2) := by decide +kernel
theorem dd_Ref_init_71 : decode prog_14_method_1_code 71 = .ok (.newarray .int, 2) := by decide +kernel
theorem dd_Ref_init_73 : decode prog_14_method_1_code 73 = .ok (.putfield 35, 3) := by decide +kernel
theorem dd_Ref_init_76 : decode prog_14_method_1_code 76 = .ok (.aload_n 0, 1) := by decide +kernel
theorem dd_Ref_init_77 : decode prog_14_method_1_code 77 = .ok (.sipush 384, 3) := by decide +kernel
theorem dd_Ref_init_80 : decode prog_14_method_1_code 80 = .ok (.newarray .int, 2) := by decide +kernel
theorem dd_Ref_init_82 : decode prog_14_method_1_code 82 = .ok (.putfield 38, 3) := by decide +kernel
theorem dd_Ref_init_85 : decode prog_14_method_1_code 85 = .ok (.aload_n 0, 1) := by decide +kernel
theorem dd_Ref_init_86 : decode prog_14_method_1_code 86 = .ok (.sipush 384, 3) := by decide +kernel
theorem dd_Ref_init_89 : decode prog_14_method_1_code 89 = .ok (.newarray .int, 2) := by decide +kernel
theorem dd_Ref_init_91 : decode prog_14_method_1_code 91 = .ok (.putfield 41, 3) := by decide +kernel
theorem dd_Ref_init_94 : decode prog_14_method_1_code 94 = .ok (.aload_n 0, 1) := by decide +kernel
theorem dd_Ref_init_95 : decode prog_14_method_1_code 95 = .ok (.sipush 384, 3) := by decide +kernel
theorem dd_Ref_init_98 : decode prog_14_method_1_code 98 = .ok (.newarray .long, 2) := by decide +kernel
theorem dd_Ref_init_100 : decode prog_14_method_1_code 100 = .ok (.putfield 44, 3) := by decide +kernel
theorem dd_Ref_init_103 : decode prog_14_method_1_code 103 = .ok (.aload_n 0, 1) := by decide +kernel
theorem dd_Ref_init_104 : decode prog_14_method_1_code 104 = .ok (.bipush 8, 2) := by decide +kernel
theorem dd_Ref_init_106 : decode prog_14_method_1_code 106 = .ok (.newarray .int, 2) := by decide +kernel
theorem dd_Ref_init_108 : decode prog_14_method_1_code 108 = .ok (.putfield 48, 3) := by decide +kernel
theorem dd_Ref_init_111 : decode prog_14_method_1_code 111 = .ok (.aload_n 0, 1) := by decide +kernel
theorem dd_Ref_init_112 : decode prog_14_method_1_code 112 = .ok (.bipush 8, 2) := by decide +kernel
theorem dd_Ref_init_114 : decode prog_14_method_1_code 114 = .ok (.newarray .int, 2) := by decide +kernel
theorem dd_Ref_init_116 : decode prog_14_method_1_code 116 = .ok (.putfield 51, 3) := by decide +kernel
theorem dd_Ref_init_119 : decode prog_14_method_1_code 119 = .ok (.aload_n 0, 1) := by decide +kernel
theorem dd_Ref_init_120 : decode prog_14_method_1_code 120 = .ok (.bipush 8, 2) := by decide +kernel
theorem dd_Ref_init_122 : decode prog_14_method_1_code 122 = .ok (.newarray .int, 2) := by decide +kernel
theorem dd_Ref_init_124 : decode prog_14_method_1_code 124 = .ok (.putfield 54, 3) := by decide +kernel
theorem dd_Ref_init_127 : decode prog_14_method_1_code 127 = .ok (.aload_n 0, 1) := by decide +kernel
theorem dd_Ref_init_128 : decode prog_14_method_1_code 128 = .ok (.bipush 8, 2) := by decide +kernel
theorem dd_Ref_init_130 : decode prog_14_method_1_code 130 = .ok (.newarray .int, 2) := by decide +kernel
theorem dd_Ref_init_132 : decode prog_14_method_1_code 132 = .ok (.putfield 57, 3) := by decide +kernel
theorem dd_Ref_init_135 : decode prog_14_method_1_code 135 = .ok (.aload_n 0, 1) := by decide +kernel
theorem dd_Ref_init_136 : decode prog_14_method_1_code 136 = .ok (.iconst (-1), 1) := by decide +kernel
theorem dd_Ref_init_137 : decode prog_14_method_1_code 137 = .ok (.putfield 60, 3) := by decide +kernel
theorem dd_Ref_init_140 : decode prog_14_method_1_code 140 = .ok (.aload_n 0, 1) := by decide +kernel
theorem dd_Ref_init_141 : decode prog_14_method_1_code 141 = .ok (.iconst (-1), 1) := by decide +kernel
theorem dd_Ref_init_142 : decode prog_14_method_1_code 142 = .ok (.putfield 63, 3) := by decide +kernel
theorem dd_Ref_init_145 : decode prog_14_method_1_code 145 = .ok (.aload_n 0, 1) := by decide +kernel
theorem dd_Ref_init_146 : decode prog_14_method_1_code 146 = .ok (.sipush 400, 3) := by decide +kernel
theorem dd_Ref_init_149 : decode prog_14_method_1_code 149 = .ok (.newarray .int, 2) := by decide +kernel
theorem dd_Ref_init_151 : decode prog_14_method_1_code 151 = .ok (.putfield 66, 3) := by decide +kernel
theorem dd_Ref_init_154 : decode prog_14_method_1_code 154 = .ok (.aload_n 0, 1) := by decide +kernel
theorem dd_Ref_init_155 : decode prog_14_method_1_code 155 = .ok (.sipush 400, 3) := by decide +kernel
theorem dd_Ref_init_158 : decode prog_14_method_1_code 158 = .ok (.newarray .int, 2) := by decide +kernel
theorem dd_Ref_init_160 : decode prog_14_method_1_code 160 = .ok (.putfield 69, 3) := by decide +kernel
theorem dd_Ref_init_163 : decode prog_14_method_1_code 163 = .ok (.aload_n 0, 1) := by decide +kernel
theorem dd_Ref_init_164 : decode prog_14_method_1_code 164 = .ok (.sipush 6400, 3) := by decide +kernel
theorem dd_Ref_init_167 : decode prog_14_method_1_code 167 = .ok (.newarray .long, 2) := by decide +kernel
theorem dd_Ref_init_169 : decode prog_14_method_1_code 169 = .ok (.putfield 72, 3) := by decide +kernel
theorem dd_Ref_init_172 : decode prog_14_method_1_code 172 = .ok (.aload_n 0, 1) := by decide +kernel
theorem dd_Ref_init_173 : decode prog_14_method_1_code 173 = .ok (.sipush 9600, 3) := by decide +kernel
theorem dd_Ref_init_176 : decode prog_14_method_1_code 176 = .ok (.newarray .int, 2) := by decide +kernel
theorem dd_Ref_init_178 : decode prog_14_method_1_code 178 = .ok (.putfield 75, 3) := by decide +kernel
theorem dd_Ref_init_181 : decode prog_14_method_1_code 181 = .ok (.aload_n 0, 1) := by decide +kernel
theorem dd_Ref_init_182 : decode prog_14_method_1_code 182 = .ok (.sipush 400, 3) := by decide +kernel
theorem dd_Ref_init_185 : decode prog_14_method_1_code 185 = .ok (.newarray .int, 2) := by decide +kernel
theorem dd_Ref_init_187 : decode prog_14_method_1_code 187 = .ok (.putfield 78, 3) := by decide +kernel
theorem dd_Ref_init_190 : decode prog_14_method_1_code 190 = .ok (.aload_n 0, 1) := by decide +kernel
theorem dd_Ref_init_191 : decode prog_14_method_1_code 191 = .ok (.sipush 400, 3) := by decide +kernel
theorem dd_Ref_init_194 : decode prog_14_method_1_code 194 = .ok (.newarray .int, 2) := by decide +kernel
theorem dd_Ref_init_196 : decode prog_14_method_1_code 196 = .ok (.putfield 81, 3) := by decide +kernel
theorem dd_Ref_init_199 : decode prog_14_method_1_code 199 = .ok (.aload_n 0, 1) := by decide +kernel
theorem dd_Ref_init_200 : decode prog_14_method_1_code 200 = .ok (.sipush 400, 3) := by decide +kernel
theorem dd_Ref_init_203 : decode prog_14_method_1_code 203 = .ok (.newarray .int, 2) := by decide +kernel
theorem dd_Ref_init_205 : decode prog_14_method_1_code 205 = .ok (.putfield 84, 3) := by decide +kernel
theorem dd_Ref_init_208 : decode prog_14_method_1_code 208 = .ok (.aload_n 0, 1) := by decide +kernel
theorem dd_Ref_init_209 : decode prog_14_method_1_code 209 = .ok (.sipush 802, 3) := by decide +kernel
theorem dd_Ref_init_212 : decode prog_14_method_1_code 212 = .ok (.newarray .int, 2) := by decide +kernel
theorem dd_Ref_init_214 : decode prog_14_method_1_code 214 = .ok (.putfield 87, 3) := by decide +kernel
theorem dd_Ref_init_217 : decode prog_14_method_1_code 217 = .ok (.aload_n 0, 1) := by decide +kernel
theorem dd_Ref_init_218 : decode prog_14_method_1_code 218 = .ok (.sipush 802, 3) := by decide +kernel
theorem dd_Ref_init_221 : decode prog_14_method_1_code 221 = .ok (.newarray .int, 2) := by decide +kernel
theorem dd_Ref_init_223 : decode prog_14_method_1_code 223 = .ok (.putfield 90, 3) := by decide +kernel
theorem dd_Ref_init_226 : decode prog_14_method_1_code 226 = .ok (.aload_n 0, 1) := by decide +kernel
theorem dd_Ref_init_227 : decode prog_14_method_1_code 227 = .ok (.sipush 802, 3) := by decide +kernel
theorem dd_Ref_init_230 : decode prog_14_method_1_code 230 = .ok (.newarray .int, 2) := by decide +kernel
theorem dd_Ref_init_232 : decode prog_14_method_1_code 232 = .ok (.putfield 93, 3) := by decide +kernel
theorem dd_Ref_init_235 : decode prog_14_method_1_code 235 = .ok (.aload_n 0, 1) := by decide +kernel
theorem dd_Ref_init_236 : decode prog_14_method_1_code 236 = .ok (.sipush 802, 3) := by decide +kernel
theorem dd_Ref_init_239 : decode prog_14_method_1_code 239 = .ok (.newarray .int, 2) := by decide +kernel
theorem dd_Ref_init_241 : decode prog_14_method_1_code 241 = .ok (.putfield 96, 3) := by decide +kernel
theorem dd_Ref_init_244 : decode prog_14_method_1_code 244 = .ok (.aload_n 0, 1) := by decide +kernel
theorem dd_Ref_init_245 : decode prog_14_method_1_code 245 = .ok (.bipush 24, 2) := by decide +kernel
theorem dd_Ref_init_247 : decode prog_14_method_1_code 247 = .ok (.newarray .int, 2) := by decide +kernel
theorem dd_Ref_init_249 : decode prog_14_method_1_code 249 = .ok (.putfield 99, 3) := by decide +kernel
theorem dd_Ref_init_252 : decode prog_14_method_1_code 252 = .ok (.iconst 0, 1) := by decide +kernel
theorem dd_Ref_init_253 : decode prog_14_method_1_code 253 = .ok (.istore_n 1, 1) := by decide +kernel
theorem dd_Ref_init_254 : decode prog_14_method_1_code 254 = .ok (.iload_n 1, 1) := by decide +kernel
theorem dd_Ref_init_255 : decode prog_14_method_1_code 255 = .ok (.bipush 15, 2) := by decide +kernel
theorem dd_Ref_init_257 : decode prog_14_method_1_code 257 = .ok (.if_icmp .ge 36, 3) := by decide +kernel
theorem dd_Ref_init_260 : decode prog_14_method_1_code 260 = .ok (.aload_n 0, 1) := by decide +kernel
theorem dd_Ref_init_261 : decode prog_14_method_1_code 261 = .ok (.getfield 13, 3) := by decide +kernel
theorem dd_Ref_init_264 : decode prog_14_method_1_code 264 = .ok (.iload_n 1, 1) := by decide +kernel
theorem dd_Ref_init_265 : decode prog_14_method_1_code 265 = .ok (.iload_n 1, 1) := by decide +kernel
theorem dd_Ref_init_266 : decode prog_14_method_1_code 266 = .ok (.bipush 7, 2) := by decide +kernel
theorem dd_Ref_init_268 : decode prog_14_method_1_code 268 = .ok (.if_icmp .ge 7, 3) := by decide +kernel
theorem dd_Ref_init_271 : decode prog_14_method_1_code 271 = .ok (.iconst 0, 1) := by decide +kernel
theorem dd_Ref_init_272 : decode prog_14_method_1_code 272 = .ok (.goto 14, 3) := by decide +kernel
theorem dd_Ref_init_275 : decode prog_14_method_1_code 275 = .ok (.iload_n 1, 1) := by decide +kernel
theorem dd_Ref_init_276 : decode prog_14_method_1_code 276 = .ok (.bipush 14, 2) := by decide +kernel
theorem dd_Ref_init_278 : decode prog_14_method_1_code 278 = .ok (.if_icmp .ge 7, 3) := by decide +kernel
theorem dd_Ref_init_281 : decode prog_14_method_1_code 281 = .ok (.iconst 1, 1) := by decide +kernel
theorem dd_Ref_init_282 : decode prog_14_method_1_code 282 = .ok (.goto 4, 3) := by decide +kernel
theorem dd_Ref_init_285 : decode prog_14_method_1_code 285 = .ok (.iconst 2, 1) := by decide +kernel
theorem dd_Ref_init_286 : decode prog_14_method_1_code 286 = .ok (.iastore, 1) := by decide +kernel
theorem dd_Ref_init_287 : decode prog_14_method_1_code 287 = .ok (.iinc 1 1, 3) := by decide +kernel
theorem dd_Ref_init_290 : decode prog_14_method_1_code 290 = .ok (.goto (-36), 3) := by decide +kernel
theorem dd_Ref_init_293 : decode prog_14_method_1_code 293 = .ok (.return_, 1) := by decide +kernel
theorem dd_Ref_thrown_0 : decode prog_14_method_2_code 0 = .ok (.aload_n 0, 1) := by decide +kernel
theorem dd_Ref_thrown_1 : decode prog_14_method_2_code 1 = .ok (.getfield 102, 3) := by decide +kernel
theorem dd_Ref_thrown_4 : decode prog_14_method_2_code 4 = .ok (.ireturn, 1) := by decide +kernel
theorem dd_Ref_fails_0 : decode prog_14_method_3_code 0 = .ok (.aload_n 0, 1) := by decide +kernel
theorem dd_Ref_fails_1 : decode prog_14_method_3_code 1 = .ok (.iload_n 1, 1) := by decide +kernel
theorem dd_Ref_fails_2 : decode prog_14_method_3_code 2 = .ok (.putfield 102, 3) := by decide +kernel
theorem dd_Ref_fails_5 : decode prog_14_method_3_code 5 = .ok (.iconst 0, 1) := by decide +kernel
theorem dd_Ref_fails_6 : decode prog_14_method_3_code 6 = .ok (.ireturn, 1) := by decide +kernel
theorem dd_Ref_isName_0 : decode prog_14_method_4_code 0 = .ok (.iload_n 0, 1) := by decide +kernel
theorem dd_Ref_isName_1 : decode prog_14_method_4_code 1 = .ok (.ifCond .lt 13, 3) := by decide +kernel
theorem dd_Ref_isName_4 : decode prog_14_method_4_code 4 = .ok (.iload_n 0, 1) := by decide +kernel
theorem dd_Ref_isName_5 : decode prog_14_method_4_code 5 = .ok (.bipush 64, 2) := by decide +kernel
theorem dd_Ref_isName_7 : decode prog_14_method_4_code 7 = .ok (.if_icmp .ge 7, 3) := by decide +kernel
theorem dd_Ref_isName_10 : decode prog_14_method_4_code 10 = .ok (.iconst 1, 1) := by decide +kernel
theorem dd_Ref_isName_11 : decode prog_14_method_4_code 11 = .ok (.goto 4, 3) := by decide +kernel
theorem dd_Ref_isName_14 : decode prog_14_method_4_code 14 = .ok (.iconst 0, 1) := by decide +kernel
theorem dd_Ref_isName_15 : decode prog_14_method_4_code 15 = .ok (.ireturn, 1) := by decide +kernel
theorem dd_Ref_isType_0 : decode prog_14_method_5_code 0 = .ok (.iload_n 1, 1) := by decide +kernel
theorem dd_Ref_isType_1 : decode prog_14_method_5_code 1 = .ok (.ifCond .lt 15, 3) := by decide +kernel
theorem dd_Ref_isType_4 : decode prog_14_method_5_code 4 = .ok (.iload_n 1, 1) := by decide +kernel
theorem dd_Ref_isType_5 : decode prog_14_method_5_code 5 = .ok (.aload_n 0, 1) := by decide +kernel
theorem dd_Ref_isType_6 : decode prog_14_method_5_code 6 = .ok (.getfield 7, 3) := by decide +kernel
theorem dd_Ref_isType_9 : decode prog_14_method_5_code 9 = .ok (.if_icmp .ge 7, 3) := by decide +kernel
theorem dd_Ref_isType_12 : decode prog_14_method_5_code 12 = .ok (.iconst 1, 1) := by decide +kernel
theorem dd_Ref_isType_13 : decode prog_14_method_5_code 13 = .ok (.goto 4, 3) := by decide +kernel
theorem dd_Ref_isType_16 : decode prog_14_method_5_code 16 = .ok (.iconst 0, 1) := by decide +kernel
theorem dd_Ref_isType_17 : decode prog_14_method_5_code 17 = .ok (.ireturn, 1) := by decide +kernel
theorem dd_Ref_isSort_0 : decode prog_14_method_6_code 0 = .ok (.aload_n 0, 1) := by decide +kernel
theorem dd_Ref_isSort_1 : decode prog_14_method_6_code 1 = .ok (.iload_n 1, 1) := by decide +kernel
theorem dd_Ref_isSort_2 : decode prog_14_method_6_code 2 = .ok (.invokevirtual 105, 3) := by decide +kernel
theorem dd_Ref_isSort_5 : decode prog_14_method_6_code 5 = .ok (.ifCond .eq 29, 3) := by decide +kernel
theorem dd_Ref_isSort_8 : decode prog_14_method_6_code 8 = .ok (.aload_n 0, 1) := by decide +kernel
theorem dd_Ref_isSort_9 : decode prog_14_method_6_code 9 = .ok (.getfield 13, 3) := by decide +kernel
theorem dd_Ref_isSort_12 : decode prog_14_method_6_code 12 = .ok (.aload_n 0, 1) := by decide +kernel
theorem dd_Ref_isSort_13 : decode prog_14_method_6_code 13 = .ok (.iload_n 1, 1) := by decide +kernel
theorem dd_Ref_isSort_14 : decode prog_14_method_6_code 14 = .ok (.invokevirtual 105, 3) := by decide +kernel
theorem dd_Ref_isSort_17 : decode prog_14_method_6_code 17 = .ok (.ifCond .eq 7, 3) := by decide +kernel
theorem dd_Ref_isSort_20 : decode prog_14_method_6_code 20 = .ok (.iload_n 1, 1) := by decide +kernel
theorem dd_Ref_isSort_21 : decode prog_14_method_6_code 21 = .ok (.goto 4, 3) := by decide +kernel
theorem dd_Ref_isSort_24 : decode prog_14_method_6_code 24 = .ok (.iconst 0, 1) := by decide +kernel
theorem dd_Ref_isSort_25 : decode prog_14_method_6_code 25 = .ok (.iaload, 1) := by decide +kernel
theorem dd_Ref_isSort_26 : decode prog_14_method_6_code 26 = .ok (.iload_n 2, 1) := by decide +kernel
theorem dd_Ref_isSort_27 : decode prog_14_method_6_code 27 = .ok (.if_icmp .ne 7, 3) := by decide +kernel
theorem dd_Ref_isSort_30 : decode prog_14_method_6_code 30 = .ok (.iconst 1, 1) := by decide +kernel
theorem dd_Ref_isSort_31 : decode prog_14_method_6_code 31 = .ok (.goto 4, 3) := by decide +kernel
theorem dd_Ref_isSort_34 : decode prog_14_method_6_code 34 = .ok (.iconst 0, 1) := by decide +kernel
theorem dd_Ref_isSort_35 : decode prog_14_method_6_code 35 = .ok (.ireturn, 1) := by decide +kernel
theorem dd_Ref_newType_0 : decode prog_14_method_7_code 0 = .ok (.aload_n 0, 1) := by decide +kernel
theorem dd_Ref_newType_1 : decode prog_14_method_7_code 1 = .ok (.getfield 13, 3) := by decide +kernel
theorem dd_Ref_newType_4 : decode prog_14_method_7_code 4 = .ok (.aload_n 0, 1) := by decide +kernel
theorem dd_Ref_newType_5 : decode prog_14_method_7_code 5 = .ok (.getfield 7, 3) := by decide +kernel
theorem dd_Ref_newType_8 : decode prog_14_method_7_code 8 = .ok (.iload_n 1, 1) := by decide +kernel
theorem dd_Ref_newType_9 : decode prog_14_method_7_code 9 = .ok (.iastore, 1) := by decide +kernel
theorem dd_Ref_newType_10 : decode prog_14_method_7_code 10 = .ok (.aload_n 0, 1) := by decide +kernel
theorem dd_Ref_newType_11 : decode prog_14_method_7_code 11 = .ok (.getfield 17, 3) := by decide +kernel
theorem dd_Ref_newType_14 : decode prog_14_method_7_code 14 = .ok (.aload_n 0, 1) := by decide +kernel
theorem dd_Ref_newType_15 : decode prog_14_method_7_code 15 = .ok (.getfield 7, 3) := by decide +kernel
theorem dd_Ref_newType_18 : decode prog_14_method_7_code 18 = .ok (.iconst 0, 1) := by decide +kernel
theorem dd_Ref_newType_19 : decode prog_14_method_7_code 19 = .ok (.iastore, 1) := by decide +kernel
theorem dd_Ref_newType_20 : decode prog_14_method_7_code 20 = .ok (.aload_n 0, 1) := by decide +kernel
theorem dd_Ref_newType_21 : decode prog_14_method_7_code 21 = .ok (.dup, 1) := by decide +kernel
theorem dd_Ref_newType_22 : decode prog_14_method_7_code 22 = .ok (.getfield 7, 3) := by decide +kernel
theorem dd_Ref_newType_25 : decode prog_14_method_7_code 25 = .ok (.iconst 1, 1) := by decide +kernel
theorem dd_Ref_newType_26 : decode prog_14_method_7_code 26 = .ok (.iadd, 1) := by decide +kernel
theorem dd_Ref_newType_27 : decode prog_14_method_7_code 27 = .ok (.putfield 7, 3) := by decide +kernel
theorem dd_Ref_newType_30 : decode prog_14_method_7_code 30 = .ok (.aload_n 0, 1) := by decide +kernel
theorem dd_Ref_newType_31 : decode prog_14_method_7_code 31 = .ok (.getfield 7, 3) := by decide +kernel
theorem dd_Ref_newType_34 : decode prog_14_method_7_code 34 = .ok (.iconst 1, 1) := by decide +kernel
theorem dd_Ref_newType_35 : decode prog_14_method_7_code 35 = .ok (.isub, 1) := by decide +kernel
theorem dd_Ref_newType_36 : decode prog_14_method_7_code 36 = .ok (.ireturn, 1) := by decide +kernel
theorem dd_Ref_enumeration_0 : decode prog_14_method_8_code 0 = .ok (.iload_n 3, 1) := by decide +kernel
theorem dd_Ref_enumeration_1 : decode prog_14_method_8_code 1 = .ok (.iconst 1, 1) := by decide +kernel
theorem dd_Ref_enumeration_2 : decode prog_14_method_8_code 2 = .ok (.if_icmp .lt 9, 3) := by decide +kernel
theorem dd_Ref_enumeration_5 : decode prog_14_method_8_code 5 = .ok (.iload_n 3, 1) := by decide +kernel
theorem dd_Ref_enumeration_6 : decode prog_14_method_8_code 6 = .ok (.bipush 8, 2) := by decide +kernel
theorem dd_Ref_enumeration_8 : decode prog_14_method_8_code 8 = .ok (.if_icmp .le 9, 3) := by decide +kernel
theorem dd_Ref_enumeration_11 : decode prog_14_method_8_code 11 = .ok (.aload_n 0, 1) := by decide +kernel
theorem dd_Ref_enumeration_12 : decode prog_14_method_8_code 12 = .ok (.iconst 1, 1) := by decide +kernel
theorem dd_Ref_enumeration_13 : decode prog_14_method_8_code 13 = .ok (.invokevirtual 109, 3) := by decide +kernel
theorem dd_Ref_enumeration_16 : decode prog_14_method_8_code 16 = .ok (.ireturn, 1) := by decide +kernel
theorem dd_Ref_enumeration_17 : decode prog_14_method_8_code 17 = .ok (.iconst 0, 1) := by decide +kernel
theorem dd_Ref_enumeration_18 : decode prog_14_method_8_code 18 = .ok (.istore 4, 2) := by decide +kernel
theorem dd_Ref_enumeration_20 : decode prog_14_method_8_code 20 = .ok (.iload 4, 2) := by decide +kernel
theorem dd_Ref_enumeration_22 : decode prog_14_method_8_code 22 = .ok (.iload_n 3, 1) := by decide +kernel
theorem dd_Ref_enumeration_23 : decode prog_14_method_8_code 23 = .ok (.if_icmp .ge 87, 3) := by decide +kernel
theorem dd_Ref_enumeration_26 : decode prog_14_method_8_code 26 = .ok (.lload_n 1, 1) := by decide +kernel
theorem dd_Ref_enumeration_27 : decode prog_14_method_8_code 27 = .ok (.bipush 8, 2) := by decide +kernel
theorem dd_Ref_enumeration_29 : decode prog_14_method_8_code 29 = .ok (.iload 4, 2) := by decide +kernel
theorem dd_Ref_enumeration_31 : decode prog_14_method_8_code 31 = .ok (.imul, 1) := by decide +kernel
theorem dd_Ref_enumeration_32 : decode prog_14_method_8_code 32 = .ok (.lshr, 1) := by decide +kernel
theorem dd_Ref_enumeration_33 : decode prog_14_method_8_code 33 = .ok (.ldc2_w 113, 3) := by decide +kernel
theorem dd_Ref_enumeration_36 : decode prog_14_method_8_code 36 = .ok (.land, 1) := by decide +kernel
theorem dd_Ref_enumeration_37 : decode prog_14_method_8_code 37 = .ok (.l2i, 1) := by decide +kernel
theorem dd_Ref_enumeration_38 : decode prog_14_method_8_code 38 = .ok (.istore 5, 2) := by decide +kernel
theorem dd_Ref_enumeration_40 : decode prog_14_method_8_code 40 = .ok (.iload 5, 2) := by decide +kernel
theorem dd_Ref_enumeration_42 : decode prog_14_method_8_code 42 = .ok (.invokestatic 115, 3) := by decide +kernel
theorem dd_Ref_enumeration_45 : decode prog_14_method_8_code 45 = .ok (.istore 6, 2) := by decide +kernel
theorem dd_Ref_enumeration_47 : decode prog_14_method_8_code 47 = .ok (.iconst 0, 1) := by decide +kernel
theorem dd_Ref_enumeration_48 : decode prog_14_method_8_code 48 = .ok (.istore 7, 2) := by decide +kernel
theorem dd_Ref_enumeration_50 : decode prog_14_method_8_code 50 = .ok (.iload 7, 2) := by decide +kernel
theorem dd_Ref_enumeration_52 : decode prog_14_method_8_code 52 = .ok (.iload 4, 2) := by decide +kernel
theorem dd_Ref_enumeration_54 : decode prog_14_method_8_code 54 = .ok (.if_icmp .ge 39, 3) := by decide +kernel
theorem dd_Ref_enumeration_57 : decode prog_14_method_8_code 57 = .ok (.iload 6, 2) := by decide +kernel
theorem dd_Ref_enumeration_59 : decode prog_14_method_8_code 59 = .ok (.ifCond .eq 25, 3) := by decide +kernel
theorem dd_Ref_enumeration_62 : decode prog_14_method_8_code 62 = .ok (.lload_n 1, 1) := by decide +kernel
theorem dd_Ref_enumeration_63 : decode prog_14_method_8_code 63 = .ok (.bipush 8, 2) := by decide +kernel
theorem dd_Ref_enumeration_65 : decode prog_14_method_8_code 65 = .ok (.iload 7, 2) := by decide +kernel
theorem dd_Ref_enumeration_67 : decode prog_14_method_8_code 67 = .ok (.imul, 1) := by decide +kernel
theorem dd_Ref_enumeration_68 : decode prog_14_method_8_code 68 = .ok (.lshr, 1) := by decide +kernel
theorem dd_Ref_enumeration_69 : decode prog_14_method_8_code 69 = .ok (.ldc2_w 113, 3) := by decide +kernel
theorem dd_Ref_enumeration_72 : decode prog_14_method_8_code 72 = .ok (.land, 1) := by decide +kernel
theorem dd_Ref_enumeration_73 : decode prog_14_method_8_code 73 = .ok (.iload 5, 2) := by decide +kernel
theorem dd_Ref_enumeration_75 : decode prog_14_method_8_code 75 = .ok (.i2l, 1) := by decide +kernel
theorem dd_Ref_enumeration_76 : decode prog_14_method_8_code 76 = .ok (.lcmp, 1) := by decide +kernel
theorem dd_Ref_enumeration_77 : decode prog_14_method_8_code 77 = .ok (.ifCond .eq 7, 3) := by decide +kernel
theorem dd_Ref_enumeration_80 : decode prog_14_method_8_code 80 = .ok (.iconst 1, 1) := by decide +kernel
theorem dd_Ref_enumeration_81 : decode prog_14_method_8_code 81 = .ok (.goto 4, 3) := by decide +kernel
theorem dd_Ref_enumeration_84 : decode prog_14_method_8_code 84 = .ok (.iconst 0, 1) := by decide +kernel
theorem dd_Ref_enumeration_85 : decode prog_14_method_8_code 85 = .ok (.istore 6, 2) := by decide +kernel
theorem dd_Ref_enumeration_87 : decode prog_14_method_8_code 87 = .ok (.iinc 7 1, 3) := by decide +kernel
theorem dd_Ref_enumeration_90 : decode prog_14_method_8_code 90 = .ok (.goto (-40), 3) := by decide +kernel
theorem dd_Ref_enumeration_93 : decode prog_14_method_8_code 93 = .ok (.iload 6, 2) := by decide +kernel
theorem dd_Ref_enumeration_95 : decode prog_14_method_8_code 95 = .ok (.ifCond .ne 9, 3) := by decide +kernel
theorem dd_Ref_enumeration_98 : decode prog_14_method_8_code 98 = .ok (.aload_n 0, 1) := by decide +kernel
theorem dd_Ref_enumeration_99 : decode prog_14_method_8_code 99 = .ok (.iconst 1, 1) := by decide +kernel
theorem dd_Ref_enumeration_100 : decode prog_14_method_8_code 100 = .ok (.invokevirtual 109, 3) := by decide +kernel
theorem dd_Ref_enumeration_103 : decode prog_14_method_8_code 103 = .ok (.ireturn, 1) := by decide +kernel
theorem dd_Ref_enumeration_104 : decode prog_14_method_8_code 104 = .ok (.iinc 4 1, 3) := by decide +kernel
theorem dd_Ref_enumeration_107 : decode prog_14_method_8_code 107 = .ok (.goto (-87), 3) := by decide +kernel
theorem dd_Ref_enumeration_110 : decode prog_14_method_8_code 110 = .ok (.aload_n 0, 1) := by decide +kernel
theorem dd_Ref_enumeration_111 : decode prog_14_method_8_code 111 = .ok (.getfield 118, 3) := by decide +kernel
theorem dd_Ref_enumeration_114 : decode prog_14_method_8_code 114 = .ok (.ifCond .ne 12, 3) := by decide +kernel
theorem dd_Ref_enumeration_117 : decode prog_14_method_8_code 117 = .ok (.aload_n 0, 1) := by decide +kernel
theorem dd_Ref_enumeration_118 : decode prog_14_method_8_code 118 = .ok (.getfield 7, 3) := by decide +kernel
theorem dd_Ref_enumeration_121 : decode prog_14_method_8_code 121 = .ok (.bipush 40, 2) := by decide +kernel
theorem dd_Ref_enumeration_123 : decode prog_14_method_8_code 123 = .ok (.if_icmp .ne 9, 3) := by decide +kernel
theorem dd_Ref_enumeration_126 : decode prog_14_method_8_code 126 = .ok (.aload_n 0, 1) := by decide +kernel
theorem dd_Ref_enumeration_127 : decode prog_14_method_8_code 127 = .ok (.iconst 2, 1) := by decide +kernel
theorem dd_Ref_enumeration_128 : decode prog_14_method_8_code 128 = .ok (.invokevirtual 109, 3) := by decide +kernel
theorem dd_Ref_enumeration_131 : decode prog_14_method_8_code 131 = .ok (.ireturn, 1) := by decide +kernel
theorem dd_Ref_enumeration_132 : decode prog_14_method_8_code 132 = .ok (.aload_n 0, 1) := by decide +kernel
theorem dd_Ref_enumeration_133 : decode prog_14_method_8_code 133 = .ok (.iconst 0, 1) := by decide +kernel
theorem dd_Ref_enumeration_134 : decode prog_14_method_8_code 134 = .ok (.putfield 102, 3) := by decide +kernel
theorem dd_Ref_enumeration_137 : decode prog_14_method_8_code 137 = .ok (.aload_n 0, 1) := by decide +kernel
theorem dd_Ref_enumeration_138 : decode prog_14_method_8_code 138 = .ok (.iconst 3, 1) := by decide +kernel
theorem dd_Ref_enumeration_139 : decode prog_14_method_8_code 139 = .ok (.invokevirtual 122, 3) := by decide +kernel
theorem dd_Ref_enumeration_142 : decode prog_14_method_8_code 142 = .ok (.istore 4, 2) := by decide +kernel
theorem dd_Ref_enumeration_144 : decode prog_14_method_8_code 144 = .ok (.aload_n 0, 1) := by decide +kernel
theorem dd_Ref_enumeration_145 : decode prog_14_method_8_code 145 = .ok (.getfield 17, 3) := by decide +kernel
theorem dd_Ref_enumeration_148 : decode prog_14_method_8_code 148 = .ok (.iload 4, 2) := by decide +kernel
theorem dd_Ref_enumeration_150 : decode prog_14_method_8_code 150 = .ok (.iload_n 3, 1) := by decide +kernel
theorem dd_Ref_enumeration_151 : decode prog_14_method_8_code 151 = .ok (.iastore, 1) := by decide +kernel
theorem dd_Ref_enumeration_152 : decode prog_14_method_8_code 152 = .ok (.iconst 0, 1) := by decide +kernel
theorem dd_Ref_enumeration_153 : decode prog_14_method_8_code 153 = .ok (.istore 5, 2) := by decide +kernel
theorem dd_Ref_enumeration_155 : decode prog_14_method_8_code 155 = .ok (.iload 5, 2) := by decide +kernel
theorem dd_Ref_enumeration_157 : decode prog_14_method_8_code 157 = .ok (.iload_n 3, 1) := by decide +kernel
theorem dd_Ref_enumeration_158 : decode prog_14_method_8_code 158 = .ok (.if_icmp .ge 34, 3) := by decide +kernel
theorem dd_Ref_enumeration_161 : decode prog_14_method_8_code 161 = .ok (.aload_n 0, 1) := by decide +kernel
theorem dd_Ref_enumeration_162 : decode prog_14_method_8_code 162 = .ok (.getfield 20, 3) := by decide +kernel
theorem dd_Ref_enumeration_165 : decode prog_14_method_8_code 165 = .ok (.bipush 8, 2) := by decide +kernel
theorem dd_Ref_enumeration_167 : decode prog_14_method_8_code 167 = .ok (.iload 4, 2) := by decide +kernel
theorem dd_Ref_enumeration_169 : decode prog_14_method_8_code 169 = .ok (.imul, 1) := by decide +kernel
theorem dd_Ref_enumeration_170 : decode prog_14_method_8_code 170 = .ok (.iload 5, 2) := by decide +kernel
theorem dd_Ref_enumeration_172 : decode prog_14_method_8_code 172 = .ok (.iadd, 1) := by decide +kernel
theorem dd_Ref_enumeration_173 : decode prog_14_method_8_code 173 = .ok (.lload_n 1, 1) := by decide +kernel
theorem dd_Ref_enumeration_174 : decode prog_14_method_8_code 174 = .ok (.bipush 8, 2) := by decide +kernel
theorem dd_Ref_enumeration_176 : decode prog_14_method_8_code 176 = .ok (.iload 5, 2) := by decide +kernel
theorem dd_Ref_enumeration_178 : decode prog_14_method_8_code 178 = .ok (.imul, 1) := by decide +kernel
theorem dd_Ref_enumeration_179 : decode prog_14_method_8_code 179 = .ok (.lshr, 1) := by decide +kernel
theorem dd_Ref_enumeration_180 : decode prog_14_method_8_code 180 = .ok (.ldc2_w 113, 3) := by decide +kernel
theorem dd_Ref_enumeration_183 : decode prog_14_method_8_code 183 = .ok (.land, 1) := by decide +kernel
theorem dd_Ref_enumeration_184 : decode prog_14_method_8_code 184 = .ok (.l2i, 1) := by decide +kernel
theorem dd_Ref_enumeration_185 : decode prog_14_method_8_code 185 = .ok (.iastore, 1) := by decide +kernel
theorem dd_Ref_enumeration_186 : decode prog_14_method_8_code 186 = .ok (.iinc 5 1, 3) := by decide +kernel
theorem dd_Ref_enumeration_189 : decode prog_14_method_8_code 189 = .ok (.goto (-34), 3) := by decide +kernel
theorem dd_Ref_enumeration_192 : decode prog_14_method_8_code 192 = .ok (.iload 4, 2) := by decide +kernel
theorem dd_Ref_enumeration_194 : decode prog_14_method_8_code 194 = .ok (.ireturn, 1) := by decide +kernel
theorem dd_Ref_bean_0 : decode prog_14_method_9_code 0 = .ok (.aload_n 0, 1) := by decide +kernel
theorem dd_Ref_bean_1 : decode prog_14_method_9_code 1 = .ok (.getfield 118, 3) := by decide +kernel
theorem dd_Ref_bean_4 : decode prog_14_method_9_code 4 = .ok (.ifCond .ne 12, 3) := by decide +kernel
theorem dd_Ref_bean_7 : decode prog_14_method_9_code 7 = .ok (.aload_n 0, 1) := by decide +kernel
theorem dd_Ref_bean_8 : decode prog_14_method_9_code 8 = .ok (.getfield 7, 3) := by decide +kernel
theorem dd_Ref_bean_11 : decode prog_14_method_9_code 11 = .ok (.bipush 40, 2) := by decide +kernel
theorem dd_Ref_bean_13 : decode prog_14_method_9_code 13 = .ok (.if_icmp .ne 9, 3) := by decide +kernel
theorem dd_Ref_bean_16 : decode prog_14_method_9_code 16 = .ok (.aload_n 0, 1) := by decide +kernel
theorem dd_Ref_bean_17 : decode prog_14_method_9_code 17 = .ok (.iconst 1, 1) := by decide +kernel
theorem dd_Ref_bean_18 : decode prog_14_method_9_code 18 = .ok (.invokevirtual 109, 3) := by decide +kernel
theorem dd_Ref_bean_21 : decode prog_14_method_9_code 21 = .ok (.ireturn, 1) := by decide +kernel
theorem dd_Ref_bean_22 : decode prog_14_method_9_code 22 = .ok (.aload_n 0, 1) := by decide +kernel
theorem dd_Ref_bean_23 : decode prog_14_method_9_code 23 = .ok (.iconst 0, 1) := by decide +kernel
theorem dd_Ref_bean_24 : decode prog_14_method_9_code 24 = .ok (.putfield 102, 3) := by decide +kernel
theorem dd_Ref_bean_27 : decode prog_14_method_9_code 27 = .ok (.aload_n 0, 1) := by decide +kernel
theorem dd_Ref_bean_28 : decode prog_14_method_9_code 28 = .ok (.iconst 4, 1) := by decide +kernel
theorem dd_Ref_bean_29 : decode prog_14_method_9_code 29 = .ok (.invokevirtual 122, 3) := by decide +kernel
theorem dd_Ref_bean_32 : decode prog_14_method_9_code 32 = .ok (.ireturn, 1) := by decide +kernel
theorem dd_Ref_placeOf_0 : decode prog_14_method_10_code 0 = .ok (.iconst (-1), 1) := by decide +kernel
theorem dd_Ref_placeOf_1 : decode prog_14_method_10_code 1 = .ok (.istore_n 3, 1) := by decide +kernel
theorem dd_Ref_placeOf_2 : decode prog_14_method_10_code 2 = .ok (.iconst 0, 1) := by decide +kernel
theorem dd_Ref_placeOf_3 : decode prog_14_method_10_code 3 = .ok (.istore 4, 2) := by decide +kernel
theorem dd_Ref_placeOf_5 : decode prog_14_method_10_code 5 = .ok (.iload 4, 2) := by decide +kernel
theorem dd_Ref_placeOf_7 : decode prog_14_method_10_code 7 = .ok (.aload_n 0, 1) := by decide +kernel
theorem dd_Ref_placeOf_8 : decode prog_14_method_10_code 8 = .ok (.getfield 17, 3) := by decide +kernel
theorem dd_Ref_placeOf_11 : decode prog_14_method_10_code 11 = .ok (.iload_n 1, 1) := by decide +kernel
theorem dd_Ref_placeOf_12 : decode prog_14_method_10_code 12 = .ok (.iaload, 1) := by decide +kernel
theorem dd_Ref_placeOf_13 : decode prog_14_method_10_code 13 = .ok (.if_icmp .ge 52, 3) := by decide +kernel
theorem dd_Ref_placeOf_16 : decode prog_14_method_10_code 16 = .ok (.aload_n 0, 1) := by decide +kernel
theorem dd_Ref_placeOf_17 : decode prog_14_method_10_code 17 = .ok (.getfield 13, 3) := by decide +kernel
theorem dd_Ref_placeOf_20 : decode prog_14_method_10_code 20 = .ok (.iload_n 1, 1) := by decide +kernel
theorem dd_Ref_placeOf_21 : decode prog_14_method_10_code 21 = .ok (.iaload, 1) := by decide +kernel
theorem dd_Ref_placeOf_22 : decode prog_14_method_10_code 22 = .ok (.iconst 3, 1) := by decide +kernel
theorem dd_Ref_placeOf_23 : decode prog_14_method_10_code 23 = .ok (.if_icmp .eq 13, 3) := by decide +kernel
theorem dd_Ref_placeOf_26 : decode prog_14_method_10_code 26 = .ok (.aload_n 0, 1) := by decide +kernel
theorem dd_Ref_placeOf_27 : decode prog_14_method_10_code 27 = .ok (.getfield 13, 3) := by decide +kernel
theorem dd_Ref_placeOf_30 : decode prog_14_method_10_code 30 = .ok (.iload_n 1, 1) := by decide +kernel
theorem dd_Ref_placeOf_31 : decode prog_14_method_10_code 31 = .ok (.iaload, 1) := by decide +kernel
theorem dd_Ref_placeOf_32 : decode prog_14_method_10_code 32 = .ok (.iconst 4, 1) := by decide +kernel
theorem dd_Ref_placeOf_33 : decode prog_14_method_10_code 33 = .ok (.if_icmp .ne 32, 3) := by decide +kernel
theorem dd_Ref_placeOf_36 : decode prog_14_method_10_code 36 = .ok (.aload_n 0, 1) := by decide +kernel
theorem dd_Ref_placeOf_37 : decode prog_14_method_10_code 37 = .ok (.getfield 20, 3) := by decide +kernel
theorem dd_Ref_placeOf_40 : decode prog_14_method_10_code 40 = .ok (.bipush 8, 2) := by decide +kernel
theorem dd_Ref_placeOf_42 : decode prog_14_method_10_code 42 = .ok (.iload_n 1, 1) := by decide +kernel
theorem dd_Ref_placeOf_43 : decode prog_14_method_10_code 43 = .ok (.imul, 1) := by decide +kernel
theorem dd_Ref_placeOf_44 : decode prog_14_method_10_code 44 = .ok (.iload 4, 2) := by decide +kernel
theorem dd_Ref_placeOf_46 : decode prog_14_method_10_code 46 = .ok (.iadd, 1) := by decide +kernel
theorem dd_Ref_placeOf_47 : decode prog_14_method_10_code 47 = .ok (.iaload, 1) := by decide +kernel
theorem dd_Ref_placeOf_48 : decode prog_14_method_10_code 48 = .ok (.iload_n 2, 1) := by decide +kernel
theorem dd_Ref_placeOf_49 : decode prog_14_method_10_code 49 = .ok (.if_icmp .ne 8, 3) := by decide +kernel
theorem dd_Ref_placeOf_52 : decode prog_14_method_10_code 52 = .ok (.iload 4, 2) := by decide +kernel
theorem dd_Ref_placeOf_54 : decode prog_14_method_10_code 54 = .ok (.goto 4, 3) := by decide +kernel
theorem dd_Ref_placeOf_57 : decode prog_14_method_10_code 57 = .ok (.iload_n 3, 1) := by decide +kernel
theorem dd_Ref_placeOf_58 : decode prog_14_method_10_code 58 = .ok (.istore_n 3, 1) := by decide +kernel
theorem dd_Ref_placeOf_59 : decode prog_14_method_10_code 59 = .ok (.iinc 4 1, 3) := by decide +kernel
theorem dd_Ref_placeOf_62 : decode prog_14_method_10_code 62 = .ok (.goto (-57), 3) := by decide +kernel
theorem dd_Ref_placeOf_65 : decode prog_14_method_10_code 65 = .ok (.iload_n 3, 1) := by decide +kernel
theorem dd_Ref_placeOf_66 : decode prog_14_method_10_code 66 = .ok (.ireturn, 1) := by decide +kernel
theorem dd_Ref_property_0 : decode prog_14_method_11_code 0 = .ok (.aload_n 0, 1) := by decide +kernel
theorem dd_Ref_property_1 : decode prog_14_method_11_code 1 = .ok (.iload_n 1, 1) := by decide +kernel
theorem dd_Ref_property_2 : decode prog_14_method_11_code 2 = .ok (.iconst 4, 1) := by decide +kernel
theorem dd_Ref_property_3 : decode prog_14_method_11_code 3 = .ok (.invokevirtual 125, 3) := by decide +kernel
theorem dd_Ref_property_6 : decode prog_14_method_11_code 6 = .ok (.ifCond .eq 27, 3) := by decide +kernel
theorem dd_Ref_property_9 : decode prog_14_method_11_code 9 = .ok (.iload_n 2, 1) := by decide +kernel
theorem dd_Ref_property_10 : decode prog_14_method_11_code 10 = .ok (.invokestatic 115, 3) := by decide +kernel
theorem dd_Ref_property_13 : decode prog_14_method_11_code 13 = .ok (.ifCond .eq 20, 3) := by decide +kernel
theorem dd_Ref_property_16 : decode prog_14_method_11_code 16 = .ok (.aload_n 0, 1) := by decide +kernel
theorem dd_Ref_property_17 : decode prog_14_method_11_code 17 = .ok (.iload_n 3, 1) := by decide +kernel
theorem dd_Ref_property_18 : decode prog_14_method_11_code 18 = .ok (.invokevirtual 105, 3) := by decide +kernel
theorem dd_Ref_property_21 : decode prog_14_method_11_code 21 = .ok (.ifCond .eq 12, 3) := by decide +kernel
theorem dd_Ref_property_24 : decode prog_14_method_11_code 24 = .ok (.aload_n 0, 1) := by decide +kernel
theorem dd_Ref_property_25 : decode prog_14_method_11_code 25 = .ok (.iload_n 1, 1) := by decide +kernel
theorem dd_Ref_property_26 : decode prog_14_method_11_code 26 = .ok (.iload_n 2, 1) := by decide +kernel
theorem dd_Ref_property_27 : decode prog_14_method_11_code 27 = .ok (.invokevirtual 129, 3) := by decide +kernel
theorem dd_Ref_property_30 : decode prog_14_method_11_code 30 = .ok (.ifCond .lt 9, 3) := by decide +kernel
theorem dd_Ref_property_33 : decode prog_14_method_11_code 33 = .ok (.aload_n 0, 1) := by decide +kernel
theorem dd_Ref_property_34 : decode prog_14_method_11_code 34 = .ok (.iconst 1, 1) := by decide +kernel
theorem dd_Ref_property_35 : decode prog_14_method_11_code 35 = .ok (.invokevirtual 109, 3) := by decide +kernel
theorem dd_Ref_property_38 : decode prog_14_method_11_code 38 = .ok (.ireturn, 1) := by decide +kernel
theorem dd_Ref_property_39 : decode prog_14_method_11_code 39 = .ok (.aload_n 0, 1) := by decide +kernel
theorem dd_Ref_property_40 : decode prog_14_method_11_code 40 = .ok (.getfield 118, 3) := by decide +kernel
theorem dd_Ref_property_43 : decode prog_14_method_11_code 43 = .ok (.ifCond .ne 21, 3) := by decide +kernel
theorem dd_Ref_property_46 : decode prog_14_method_11_code 46 = .ok (.aload_n 0, 1) := by decide +kernel
theorem dd_Ref_property_47 : decode prog_14_method_11_code 47 = .ok (.getfield 17, 3) := by decide +kernel
theorem dd_Ref_property_50 : decode prog_14_method_11_code 50 = .ok (.iload_n 1, 1) := by decide +kernel
theorem dd_Ref_property_51 : decode prog_14_method_11_code 51 = .ok (.iaload, 1) := by decide +kernel
theorem dd_Ref_property_52 : decode prog_14_method_11_code 52 = .ok (.bipush 8, 2) := by decide +kernel
theorem dd_Ref_property_54 : decode prog_14_method_11_code 54 = .ok (.if_icmp .eq 10, 3) := by decide +kernel
theorem dd_Ref_property_57 : decode prog_14_method_11_code 57 = .ok (.aload_n 0, 1) := by decide +kernel
theorem dd_Ref_property_58 : decode prog_14_method_11_code 58 = .ok (.getfield 133, 3) := by decide +kernel
theorem dd_Ref_property_61 : decode prog_14_method_11_code 61 = .ok (.ifCond .le 9, 3) := by decide +kernel
theorem dd_Ref_property_64 : decode prog_14_method_11_code 64 = .ok (.aload_n 0, 1) := by decide +kernel
theorem dd_Ref_property_65 : decode prog_14_method_11_code 65 = .ok (.iconst 2, 1) := by decide +kernel
theorem dd_Ref_property_66 : decode prog_14_method_11_code 66 = .ok (.invokevirtual 109, 3) := by decide +kernel
theorem dd_Ref_property_69 : decode prog_14_method_11_code 69 = .ok (.ireturn, 1) := by decide +kernel
theorem dd_Ref_property_70 : decode prog_14_method_11_code 70 = .ok (.aload_n 0, 1) := by decide +kernel
theorem dd_Ref_property_71 : decode prog_14_method_11_code 71 = .ok (.iconst 0, 1) := by decide +kernel
theorem dd_Ref_property_72 : decode prog_14_method_11_code 72 = .ok (.putfield 102, 3) := by decide +kernel
theorem dd_Ref_property_75 : decode prog_14_method_11_code 75 = .ok (.aload_n 0, 1) := by decide +kernel
theorem dd_Ref_property_76 : decode prog_14_method_11_code 76 = .ok (.getfield 20, 3) := by decide +kernel
theorem dd_Ref_property_79 : decode prog_14_method_11_code 79 = .ok (.bipush 8, 2) := by decide +kernel
theorem dd_Ref_property_81 : decode prog_14_method_11_code 81 = .ok (.iload_n 1, 1) := by decide +kernel
theorem dd_Ref_property_82 : decode prog_14_method_11_code 82 = .ok (.imul, 1) := by decide +kernel
theorem dd_Ref_property_83 : decode prog_14_method_11_code 83 = .ok (.aload_n 0, 1) := by decide +kernel
theorem dd_Ref_property_84 : decode prog_14_method_11_code 84 = .ok (.getfield 17, 3) := by decide +kernel
theorem dd_Ref_property_87 : decode prog_14_method_11_code 87 = .ok (.iload_n 1, 1) := by decide +kernel
theorem dd_Ref_property_88 : decode prog_14_method_11_code 88 = .ok (.iaload, 1) := by decide +kernel
theorem dd_Ref_property_89 : decode prog_14_method_11_code 89 = .ok (.iadd, 1) := by decide +kernel
theorem dd_Ref_property_90 : decode prog_14_method_11_code 90 = .ok (.iload_n 2, 1) := by decide +kernel
theorem dd_Ref_property_91 : decode prog_14_method_11_code 91 = .ok (.iastore, 1) := by decide +kernel
theorem dd_Ref_property_92 : decode prog_14_method_11_code 92 = .ok (.aload_n 0, 1) := by decide +kernel
theorem dd_Ref_property_93 : decode prog_14_method_11_code 93 = .ok (.getfield 23, 3) := by decide +kernel
theorem dd_Ref_property_96 : decode prog_14_method_11_code 96 = .ok (.bipush 8, 2) := by decide +kernel
theorem dd_Ref_property_98 : decode prog_14_method_11_code 98 = .ok (.iload_n 1, 1) := by decide +kernel
theorem dd_Ref_property_99 : decode prog_14_method_11_code 99 = .ok (.imul, 1) := by decide +kernel
theorem dd_Ref_property_100 : decode prog_14_method_11_code 100 = .ok (.aload_n 0, 1) := by decide +kernel
theorem dd_Ref_property_101 : decode prog_14_method_11_code 101 = .ok (.getfield 17, 3) := by decide +kernel
theorem dd_Ref_property_104 : decode prog_14_method_11_code 104 = .ok (.iload_n 1, 1) := by decide +kernel
theorem dd_Ref_property_105 : decode prog_14_method_11_code 105 = .ok (.iaload, 1) := by decide +kernel
theorem dd_Ref_property_106 : decode prog_14_method_11_code 106 = .ok (.iadd, 1) := by decide +kernel
theorem dd_Ref_property_107 : decode prog_14_method_11_code 107 = .ok (.iload_n 3, 1) := by decide +kernel
theorem dd_Ref_property_108 : decode prog_14_method_11_code 108 = .ok (.iastore, 1) := by decide +kernel
theorem dd_Ref_property_109 : decode prog_14_method_11_code 109 = .ok (.aload_n 0, 1) := by decide +kernel
theorem dd_Ref_property_110 : decode prog_14_method_11_code 110 = .ok (.getfield 17, 3) := by decide +kernel
theorem dd_Ref_property_113 : decode prog_14_method_11_code 113 = .ok (.iload_n 1, 1) := by decide +kernel
theorem dd_Ref_property_114 : decode prog_14_method_11_code 114 = .ok (.dup2, 1) := by decide +kernel
theorem dd_Ref_property_115 : decode prog_14_method_11_code 115 = .ok (.iaload, 1) := by decide +kernel
theorem dd_Ref_property_116 : decode prog_14_method_11_code 116 = .ok (.iconst 1, 1) := by decide +kernel
theorem dd_Ref_property_117 : decode prog_14_method_11_code 117 = .ok (.iadd, 1) := by decide +kernel
theorem dd_Ref_property_118 : decode prog_14_method_11_code 118 = .ok (.iastore, 1) := by decide +kernel
theorem dd_Ref_property_119 : decode prog_14_method_11_code 119 = .ok (.aload_n 0, 1) := by decide +kernel
theorem dd_Ref_property_120 : decode prog_14_method_11_code 120 = .ok (.getfield 17, 3) := by decide +kernel
theorem dd_Ref_property_123 : decode prog_14_method_11_code 123 = .ok (.iload_n 1, 1) := by decide +kernel
theorem dd_Ref_property_124 : decode prog_14_method_11_code 124 = .ok (.iaload, 1) := by decide +kernel
theorem dd_Ref_property_125 : decode prog_14_method_11_code 125 = .ok (.iconst 1, 1) := by decide +kernel
theorem dd_Ref_property_126 : decode prog_14_method_11_code 126 = .ok (.isub, 1) := by decide +kernel
theorem dd_Ref_property_127 : decode prog_14_method_11_code 127 = .ok (.ireturn, 1) := by decide +kernel
theorem dd_Ref_list_0 : decode prog_14_method_12_code 0 = .ok (.aload_n 0, 1) := by decide +kernel
theorem dd_Ref_list_1 : decode prog_14_method_12_code 1 = .ok (.iload_n 1, 1) := by decide +kernel
theorem dd_Ref_list_2 : decode prog_14_method_12_code 2 = .ok (.invokevirtual 105, 3) := by decide +kernel
theorem dd_Ref_list_5 : decode prog_14_method_12_code 5 = .ok (.ifCond .eq 12, 3) := by decide +kernel
theorem dd_Ref_list_8 : decode prog_14_method_12_code 8 = .ok (.aload_n 0, 1) := by decide +kernel
theorem dd_Ref_list_9 : decode prog_14_method_12_code 9 = .ok (.getfield 13, 3) := by decide +kernel
theorem dd_Ref_list_12 : decode prog_14_method_12_code 12 = .ok (.iload_n 1, 1) := by decide +kernel
theorem dd_Ref_list_13 : decode prog_14_method_12_code 13 = .ok (.iaload, 1) := by decide +kernel
theorem dd_Ref_list_14 : decode prog_14_method_12_code 14 = .ok (.ifCond .ne 9, 3) := by decide +kernel
theorem dd_Ref_list_17 : decode prog_14_method_12_code 17 = .ok (.aload_n 0, 1) := by decide +kernel
theorem dd_Ref_list_18 : decode prog_14_method_12_code 18 = .ok (.iconst 1, 1) := by decide +kernel
theorem dd_Ref_list_19 : decode prog_14_method_12_code 19 = .ok (.invokevirtual 109, 3) := by decide +kernel
theorem dd_Ref_list_22 : decode prog_14_method_12_code 22 = .ok (.ireturn, 1) := by decide +kernel
theorem dd_Ref_list_23 : decode prog_14_method_12_code 23 = .ok (.aload_n 0, 1) := by decide +kernel
theorem dd_Ref_list_24 : decode prog_14_method_12_code 24 = .ok (.iconst 0, 1) := by decide +kernel
theorem dd_Ref_list_25 : decode prog_14_method_12_code 25 = .ok (.putfield 102, 3) := by decide +kernel
theorem dd_Ref_list_28 : decode prog_14_method_12_code 28 = .ok (.bipush 15, 2) := by decide +kernel
theorem dd_Ref_list_30 : decode prog_14_method_12_code 30 = .ok (.istore_n 2, 1) := by decide +kernel
theorem dd_Ref_list_31 : decode prog_14_method_12_code 31 = .ok (.iload_n 2, 1) := by decide +kernel
theorem dd_Ref_list_32 : decode prog_14_method_12_code 32 = .ok (.aload_n 0, 1) := by decide +kernel
theorem dd_Ref_list_33 : decode prog_14_method_12_code 33 = .ok (.getfield 7, 3) := by decide +kernel
theorem dd_Ref_list_36 : decode prog_14_method_12_code 36 = .ok (.if_icmp .ge 31, 3) := by decide +kernel
theorem dd_Ref_list_39 : decode prog_14_method_12_code 39 = .ok (.aload_n 0, 1) := by decide +kernel
theorem dd_Ref_list_40 : decode prog_14_method_12_code 40 = .ok (.getfield 13, 3) := by decide +kernel
theorem dd_Ref_list_43 : decode prog_14_method_12_code 43 = .ok (.iload_n 2, 1) := by decide +kernel
theorem dd_Ref_list_44 : decode prog_14_method_12_code 44 = .ok (.iaload, 1) := by decide +kernel
theorem dd_Ref_list_45 : decode prog_14_method_12_code 45 = .ok (.iconst 5, 1) := by decide +kernel
theorem dd_Ref_list_46 : decode prog_14_method_12_code 46 = .ok (.if_icmp .ne 15, 3) := by decide +kernel
theorem dd_Ref_list_49 : decode prog_14_method_12_code 49 = .ok (.aload_n 0, 1) := by decide +kernel
theorem dd_Ref_list_50 : decode prog_14_method_12_code 50 = .ok (.getfield 26, 3) := by decide +kernel
theorem dd_Ref_list_53 : decode prog_14_method_12_code 53 = .ok (.iload_n 2, 1) := by decide +kernel
theorem dd_Ref_list_54 : decode prog_14_method_12_code 54 = .ok (.iaload, 1) := by decide +kernel
theorem dd_Ref_list_55 : decode prog_14_method_12_code 55 = .ok (.iload_n 1, 1) := by decide +kernel
theorem dd_Ref_list_56 : decode prog_14_method_12_code 56 = .ok (.if_icmp .ne 5, 3) := by decide +kernel
theorem dd_Ref_list_59 : decode prog_14_method_12_code 59 = .ok (.iload_n 2, 1) := by decide +kernel
theorem dd_Ref_list_60 : decode prog_14_method_12_code 60 = .ok (.ireturn, 1) := by decide +kernel
theorem dd_Ref_list_61 : decode prog_14_method_12_code 61 = .ok (.iinc 2 1, 3) := by decide +kernel
theorem dd_Ref_list_64 : decode prog_14_method_12_code 64 = .ok (.goto (-33), 3) := by decide +kernel
theorem dd_Ref_list_67 : decode prog_14_method_12_code 67 = .ok (.aload_n 0, 1) := by decide +kernel
theorem dd_Ref_list_68 : decode prog_14_method_12_code 68 = .ok (.getfield 118, 3) := by decide +kernel
theorem dd_Ref_list_71 : decode prog_14_method_12_code 71 = .ok (.ifCond .ne 12, 3) := by decide +kernel
theorem dd_Ref_list_74 : decode prog_14_method_12_code 74 = .ok (.aload_n 0, 1) := by decide +kernel
theorem dd_Ref_list_75 : decode prog_14_method_12_code 75 = .ok (.getfield 7, 3) := by decide +kernel
theorem dd_Ref_list_78 : decode prog_14_method_12_code 78 = .ok (.bipush 40, 2) := by decide +kernel
theorem dd_Ref_list_80 : decode prog_14_method_12_code 80 = .ok (.if_icmp .ne 9, 3) := by decide +kernel
theorem dd_Ref_list_83 : decode prog_14_method_12_code 83 = .ok (.aload_n 0, 1) := by decide +kernel
theorem dd_Ref_list_84 : decode prog_14_method_12_code 84 = .ok (.iconst 2, 1) := by decide +kernel
theorem dd_Ref_list_85 : decode prog_14_method_12_code 85 = .ok (.invokevirtual 109, 3) := by decide +kernel
theorem dd_Ref_list_88 : decode prog_14_method_12_code 88 = .ok (.ireturn, 1) := by decide +kernel
theorem dd_Ref_list_89 : decode prog_14_method_12_code 89 = .ok (.aload_n 0, 1) := by decide +kernel
theorem dd_Ref_list_90 : decode prog_14_method_12_code 90 = .ok (.iconst 5, 1) := by decide +kernel
theorem dd_Ref_list_91 : decode prog_14_method_12_code 91 = .ok (.invokevirtual 122, 3) := by decide +kernel
theorem dd_Ref_list_94 : decode prog_14_method_12_code 94 = .ok (.istore_n 2, 1) := by decide +kernel
theorem dd_Ref_list_95 : decode prog_14_method_12_code 95 = .ok (.aload_n 0, 1) := by decide +kernel
theorem dd_Ref_list_96 : decode prog_14_method_12_code 96 = .ok (.getfield 26, 3) := by decide +kernel
theorem dd_Ref_list_99 : decode prog_14_method_12_code 99 = .ok (.iload_n 2, 1) := by decide +kernel
theorem dd_Ref_list_100 : decode prog_14_method_12_code 100 = .ok (.iload_n 1, 1) := by decide +kernel
theorem dd_Ref_list_101 : decode prog_14_method_12_code 101 = .ok (.iastore, 1) := by decide +kernel
theorem dd_Ref_list_102 : decode prog_14_method_12_code 102 = .ok (.iload_n 2, 1) := by decide +kernel
theorem dd_Ref_list_103 : decode prog_14_method_12_code 103 = .ok (.ireturn, 1) := by decide +kernel
theorem dd_Ref_method_0 : decode prog_14_method_13_code 0 = .ok (.aload_n 0, 1) := by decide +kernel
theorem dd_Ref_method_1 : decode prog_14_method_13_code 1 = .ok (.iload_n 1, 1) := by decide +kernel
theorem dd_Ref_method_2 : decode prog_14_method_13_code 2 = .ok (.iconst 4, 1) := by decide +kernel
theorem dd_Ref_method_3 : decode prog_14_method_13_code 3 = .ok (.invokevirtual 125, 3) := by decide +kernel
theorem dd_Ref_method_6 : decode prog_14_method_13_code 6 = .ok (.ifCond .eq 12, 3) := by decide +kernel
theorem dd_Ref_method_9 : decode prog_14_method_13_code 9 = .ok (.aload_n 0, 1) := by decide +kernel
theorem dd_Ref_method_10 : decode prog_14_method_13_code 10 = .ok (.iload_n 2, 1) := by decide +kernel
theorem dd_Ref_method_11 : decode prog_14_method_13_code 11 = .ok (.iconst 4, 1) := by decide +kernel
theorem dd_Ref_method_12 : decode prog_14_method_13_code 12 = .ok (.invokevirtual 125, 3) := by decide +kernel
theorem dd_Ref_method_15 : decode prog_14_method_13_code 15 = .ok (.ifCond .ne 21, 3) := by decide +kernel
theorem dd_Ref_method_18 : decode prog_14_method_13_code 18 = .ok (.aload_n 0, 1) := by decide +kernel
theorem dd_Ref_method_19 : decode prog_14_method_13_code 19 = .ok (.iload_n 1, 1) := by decide +kernel
theorem dd_Ref_method_20 : decode prog_14_method_13_code 20 = .ok (.iconst 3, 1) := by decide +kernel
theorem dd_Ref_method_21 : decode prog_14_method_13_code 21 = .ok (.invokevirtual 125, 3) := by decide +kernel
theorem dd_Ref_method_24 : decode prog_14_method_13_code 24 = .ok (.ifCond .eq 16, 3) := by decide +kernel
theorem dd_Ref_method_27 : decode prog_14_method_13_code 27 = .ok (.aload_n 0, 1) := by decide +kernel
theorem dd_Ref_method_28 : decode prog_14_method_13_code 28 = .ok (.iload_n 2, 1) := by decide +kernel
theorem dd_Ref_method_29 : decode prog_14_method_13_code 29 = .ok (.iconst 3, 1) := by decide +kernel
theorem dd_Ref_method_30 : decode prog_14_method_13_code 30 = .ok (.invokevirtual 125, 3) := by decide +kernel
theorem dd_Ref_method_33 : decode prog_14_method_13_code 33 = .ok (.ifCond .eq 7, 3) := by decide +kernel
theorem dd_Ref_method_36 : decode prog_14_method_13_code 36 = .ok (.iconst 1, 1) := by decide +kernel
theorem dd_Ref_method_37 : decode prog_14_method_13_code 37 = .ok (.goto 4, 3) := by decide +kernel
theorem dd_Ref_method_40 : decode prog_14_method_13_code 40 = .ok (.iconst 0, 1) := by decide +kernel
theorem dd_Ref_method_41 : decode prog_14_method_13_code 41 = .ok (.istore_n 3, 1) := by decide +kernel
theorem dd_Ref_method_42 : decode prog_14_method_13_code 42 = .ok (.iload_n 3, 1) := by decide +kernel
theorem dd_Ref_method_43 : decode prog_14_method_13_code 43 = .ok (.ifCond .ne 9, 3) := by decide +kernel
theorem dd_Ref_method_46 : decode prog_14_method_13_code 46 = .ok (.aload_n 0, 1) := by decide +kernel
theorem dd_Ref_method_47 : decode prog_14_method_13_code 47 = .ok (.iconst 1, 1) := by decide +kernel
theorem dd_Ref_method_48 : decode prog_14_method_13_code 48 = .ok (.invokevirtual 109, 3) := by decide +kernel
theorem dd_Ref_method_51 : decode prog_14_method_13_code 51 = .ok (.ireturn, 1) := by decide +kernel
theorem dd_Ref_method_52 : decode prog_14_method_13_code 52 = .ok (.aload_n 0, 1) := by decide +kernel
theorem dd_Ref_method_53 : decode prog_14_method_13_code 53 = .ok (.getfield 118, 3) := by decide +kernel
theorem dd_Ref_method_56 : decode prog_14_method_13_code 56 = .ok (.ifCond .ne 12, 3) := by decide +kernel
theorem dd_Ref_method_59 : decode prog_14_method_13_code 59 = .ok (.aload_n 0, 1) := by decide +kernel
theorem dd_Ref_method_60 : decode prog_14_method_13_code 60 = .ok (.getfield 136, 3) := by decide +kernel
theorem dd_Ref_method_63 : decode prog_14_method_13_code 63 = .ok (.bipush 16, 2) := by decide +kernel
theorem dd_Ref_method_65 : decode prog_14_method_13_code 65 = .ok (.if_icmp .ne 9, 3) := by decide +kernel
theorem dd_Ref_method_68 : decode prog_14_method_13_code 68 = .ok (.aload_n 0, 1) := by decide +kernel
theorem dd_Ref_method_69 : decode prog_14_method_13_code 69 = .ok (.iconst 2, 1) := by decide +kernel
theorem dd_Ref_method_70 : decode prog_14_method_13_code 70 = .ok (.invokevirtual 109, 3) := by decide +kernel
theorem dd_Ref_method_73 : decode prog_14_method_13_code 73 = .ok (.ireturn, 1) := by decide +kernel
theorem dd_Ref_method_74 : decode prog_14_method_13_code 74 = .ok (.aload_n 0, 1) := by decide +kernel
theorem dd_Ref_method_75 : decode prog_14_method_13_code 75 = .ok (.iconst 0, 1) := by decide +kernel
theorem dd_Ref_method_76 : decode prog_14_method_13_code 76 = .ok (.putfield 102, 3) := by decide +kernel
theorem dd_Ref_method_79 : decode prog_14_method_13_code 79 = .ok (.aload_n 0, 1) := by decide +kernel
theorem dd_Ref_method_80 : decode prog_14_method_13_code 80 = .ok (.getfield 29, 3) := by decide +kernel
theorem dd_Ref_method_83 : decode prog_14_method_13_code 83 = .ok (.aload_n 0, 1) := by decide +kernel
theorem dd_Ref_method_84 : decode prog_14_method_13_code 84 = .ok (.getfield 136, 3) := by decide +kernel
theorem dd_Ref_method_87 : decode prog_14_method_13_code 87 = .ok (.iload_n 1, 1) := by decide +kernel
theorem dd_Ref_method_88 : decode prog_14_method_13_code 88 = .ok (.iastore, 1) := by decide +kernel
theorem dd_Ref_method_89 : decode prog_14_method_13_code 89 = .ok (.aload_n 0, 1) := by decide +kernel
theorem dd_Ref_method_90 : decode prog_14_method_13_code 90 = .ok (.getfield 32, 3) := by decide +kernel
theorem dd_Ref_method_93 : decode prog_14_method_13_code 93 = .ok (.aload_n 0, 1) := by decide +kernel
theorem dd_Ref_method_94 : decode prog_14_method_13_code 94 = .ok (.getfield 136, 3) := by decide +kernel
theorem dd_Ref_method_97 : decode prog_14_method_13_code 97 = .ok (.iload_n 2, 1) := by decide +kernel
theorem dd_Ref_method_98 : decode prog_14_method_13_code 98 = .ok (.iastore, 1) := by decide +kernel
theorem dd_Ref_method_99 : decode prog_14_method_13_code 99 = .ok (.aload_n 0, 1) := by decide +kernel
theorem dd_Ref_method_100 : decode prog_14_method_13_code 100 = .ok (.dup, 1) := by decide +kernel
theorem dd_Ref_method_101 : decode prog_14_method_13_code 101 = .ok (.getfield 136, 3) := by decide +kernel
theorem dd_Ref_method_104 : decode prog_14_method_13_code 104 = .ok (.iconst 1, 1) := by decide +kernel
theorem dd_Ref_method_105 : decode prog_14_method_13_code 105 = .ok (.iadd, 1) := by decide +kernel
theorem dd_Ref_method_106 : decode prog_14_method_13_code 106 = .ok (.putfield 136, 3) := by decide +kernel
theorem dd_Ref_method_109 : decode prog_14_method_13_code 109 = .ok (.aload_n 0, 1) := by decide +kernel
theorem dd_Ref_method_110 : decode prog_14_method_13_code 110 = .ok (.getfield 136, 3) := by decide +kernel
theorem dd_Ref_method_113 : decode prog_14_method_13_code 113 = .ok (.iconst 1, 1) := by decide +kernel
theorem dd_Ref_method_114 : decode prog_14_method_13_code 114 = .ok (.isub, 1) := by decide +kernel
theorem dd_Ref_method_115 : decode prog_14_method_13_code 115 = .ok (.ireturn, 1) := by decide +kernel
theorem dd_Ref_kindOf_0 : decode prog_14_method_14_code 0 = .ok (.iload_n 0, 1) := by decide +kernel
theorem dd_Ref_kindOf_1 : decode prog_14_method_14_code 1 = .ok (.bipush 7, 2) := by decide +kernel
theorem dd_Ref_kindOf_3 : decode prog_14_method_14_code 3 = .ok (.if_icmp .ge 7, 3) := by decide +kernel
theorem dd_Ref_kindOf_6 : decode prog_14_method_14_code 6 = .ok (.iload_n 0, 1) := by decide +kernel
theorem dd_Ref_kindOf_7 : decode prog_14_method_14_code 7 = .ok (.goto 7, 3) := by decide +kernel
theorem dd_Ref_kindOf_10 : decode prog_14_method_14_code 10 = .ok (.iload_n 0, 1) := by decide +kernel
theorem dd_Ref_kindOf_11 : decode prog_14_method_14_code 11 = .ok (.bipush 7, 2) := by decide +kernel
theorem dd_Ref_kindOf_13 : decode prog_14_method_14_code 13 = .ok (.isub, 1) := by decide +kernel
theorem dd_Ref_kindOf_14 : decode prog_14_method_14_code 14 = .ok (.ireturn, 1) := by decide +kernel
theorem dd_Ref_isAmount_0 : decode prog_14_method_15_code 0 = .ok (.iload_n 0, 1) := by decide +kernel
theorem dd_Ref_isAmount_1 : decode prog_14_method_15_code 1 = .ok (.ifCond .lt 13, 3) := by decide +kernel
theorem dd_Ref_isAmount_4 : decode prog_14_method_15_code 4 = .ok (.iload_n 0, 1) := by decide +kernel
theorem dd_Ref_isAmount_5 : decode prog_14_method_15_code 5 = .ok (.bipush 14, 2) := by decide +kernel
theorem dd_Ref_isAmount_7 : decode prog_14_method_15_code 7 = .ok (.if_icmp .ge 7, 3) := by decide +kernel
theorem dd_Ref_isAmount_10 : decode prog_14_method_15_code 10 = .ok (.iconst 1, 1) := by decide +kernel
theorem dd_Ref_isAmount_11 : decode prog_14_method_15_code 11 = .ok (.goto 4, 3) := by decide +kernel
theorem dd_Ref_isAmount_14 : decode prog_14_method_15_code 14 = .ok (.iconst 0, 1) := by decide +kernel
theorem dd_Ref_isAmount_15 : decode prog_14_method_15_code 15 = .ok (.ireturn, 1) := by decide +kernel
theorem dd_Ref_function_0 : decode prog_14_method_16_code 0 = .ok (.iload_n 1, 1) := by decide +kernel
theorem dd_Ref_function_1 : decode prog_14_method_16_code 1 = .ok (.invokestatic 139, 3) := by decide +kernel
theorem dd_Ref_function_4 : decode prog_14_method_16_code 4 = .ok (.ifCond .eq 28, 3) := by decide +kernel
theorem dd_Ref_function_7 : decode prog_14_method_16_code 7 = .ok (.iload_n 2, 1) := by decide +kernel
theorem dd_Ref_function_8 : decode prog_14_method_16_code 8 = .ok (.invokestatic 139, 3) := by decide +kernel
theorem dd_Ref_function_11 : decode prog_14_method_16_code 11 = .ok (.ifCond .eq 21, 3) := by decide +kernel
theorem dd_Ref_function_14 : decode prog_14_method_16_code 14 = .ok (.iload_n 1, 1) := by decide +kernel
theorem dd_Ref_function_15 : decode prog_14_method_16_code 15 = .ok (.invokestatic 142, 3) := by decide +kernel
theorem dd_Ref_function_18 : decode prog_14_method_16_code 18 = .ok (.bipush 6, 2) := by decide +kernel
theorem dd_Ref_function_20 : decode prog_14_method_16_code 20 = .ok (.if_icmp .eq 12, 3) := by decide +kernel
theorem dd_Ref_function_23 : decode prog_14_method_16_code 23 = .ok (.iload_n 2, 1) := by decide +kernel
theorem dd_Ref_function_24 : decode prog_14_method_16_code 24 = .ok (.invokestatic 142, 3) := by decide +kernel
theorem dd_Ref_function_27 : decode prog_14_method_16_code 27 = .ok (.bipush 6, 2) := by decide +kernel
theorem dd_Ref_function_29 : decode prog_14_method_16_code 29 = .ok (.if_icmp .ne 9, 3) := by decide +kernel
theorem dd_Ref_function_32 : decode prog_14_method_16_code 32 = .ok (.aload_n 0, 1) := by decide +kernel
theorem dd_Ref_function_33 : decode prog_14_method_16_code 33 = .ok (.iconst 1, 1) := by decide +kernel
theorem dd_Ref_function_34 : decode prog_14_method_16_code 34 = .ok (.invokevirtual 109, 3) := by decide +kernel
theorem dd_Ref_function_37 : decode prog_14_method_16_code 37 = .ok (.ireturn, 1) := by decide +kernel
theorem dd_Ref_function_38 : decode prog_14_method_16_code 38 = .ok (.aload_n 0, 1) := by decide +kernel
theorem dd_Ref_function_39 : decode prog_14_method_16_code 39 = .ok (.getfield 118, 3) := by decide +kernel
theorem dd_Ref_function_42 : decode prog_14_method_16_code 42 = .ok (.ifCond .ne 12, 3) := by decide +kernel
theorem dd_Ref_function_45 : decode prog_14_method_16_code 45 = .ok (.aload_n 0, 1) := by decide +kernel
theorem dd_Ref_function_46 : decode prog_14_method_16_code 46 = .ok (.getfield 145, 3) := by decide +kernel
theorem dd_Ref_function_49 : decode prog_14_method_16_code 49 = .ok (.bipush 8, 2) := by decide +kernel
theorem dd_Ref_function_51 : decode prog_14_method_16_code 51 = .ok (.if_icmp .ne 9, 3) := by decide +kernel
theorem dd_Ref_function_54 : decode prog_14_method_16_code 54 = .ok (.aload_n 0, 1) := by decide +kernel
theorem dd_Ref_function_55 : decode prog_14_method_16_code 55 = .ok (.iconst 2, 1) := by decide +kernel
theorem dd_Ref_function_56 : decode prog_14_method_16_code 56 = .ok (.invokevirtual 109, 3) := by decide +kernel
theorem dd_Ref_function_59 : decode prog_14_method_16_code 59 = .ok (.ireturn, 1) := by decide +kernel
theorem dd_Ref_function_60 : decode prog_14_method_16_code 60 = .ok (.aload_n 0, 1) := by decide +kernel
theorem dd_Ref_function_61 : decode prog_14_method_16_code 61 = .ok (.iconst 0, 1) := by decide +kernel
theorem dd_Ref_function_62 : decode prog_14_method_16_code 62 = .ok (.putfield 102, 3) := by decide +kernel
theorem dd_Ref_function_65 : decode prog_14_method_16_code 65 = .ok (.aload_n 0, 1) := by decide +kernel
theorem dd_Ref_function_66 : decode prog_14_method_16_code 66 = .ok (.getfield 48, 3) := by decide +kernel
theorem dd_Ref_function_69 : decode prog_14_method_16_code 69 = .ok (.aload_n 0, 1) := by decide +kernel
theorem dd_Ref_function_70 : decode prog_14_method_16_code 70 = .ok (.getfield 145, 3) := by decide +kernel
theorem dd_Ref_function_73 : decode prog_14_method_16_code 73 = .ok (.iload_n 1, 1) := by decide +kernel
theorem dd_Ref_function_74 : decode prog_14_method_16_code 74 = .ok (.iastore, 1) := by decide +kernel
theorem dd_Ref_function_75 : decode prog_14_method_16_code 75 = .ok (.aload_n 0, 1) := by decide +kernel
theorem dd_Ref_function_76 : decode prog_14_method_16_code 76 = .ok (.getfield 51, 3) := by decide +kernel
theorem dd_Ref_function_79 : decode prog_14_method_16_code 79 = .ok (.aload_n 0, 1) := by decide +kernel
theorem dd_Ref_function_80 : decode prog_14_method_16_code 80 = .ok (.getfield 145, 3) := by decide +kernel
theorem dd_Ref_function_83 : decode prog_14_method_16_code 83 = .ok (.iload_n 2, 1) := by decide +kernel
theorem dd_Ref_function_84 : decode prog_14_method_16_code 84 = .ok (.iastore, 1) := by decide +kernel
theorem dd_Ref_function_85 : decode prog_14_method_16_code 85 = .ok (.aload_n 0, 1) := by decide +kernel
theorem dd_Ref_function_86 : decode prog_14_method_16_code 86 = .ok (.getfield 54, 3) := by decide +kernel
theorem dd_Ref_function_89 : decode prog_14_method_16_code 89 = .ok (.aload_n 0, 1) := by decide +kernel
theorem dd_Ref_function_90 : decode prog_14_method_16_code 90 = .ok (.getfield 145, 3) := by decide +kernel
theorem dd_Ref_function_93 : decode prog_14_method_16_code 93 = .ok (.iload_n 3, 1) := by decide +kernel
theorem dd_Ref_function_94 : decode prog_14_method_16_code 94 = .ok (.iastore, 1) := by decide +kernel
theorem dd_Ref_function_95 : decode prog_14_method_16_code 95 = .ok (.aload_n 0, 1) := by decide +kernel
theorem dd_Ref_function_96 : decode prog_14_method_16_code 96 = .ok (.getfield 57, 3) := by decide +kernel
theorem dd_Ref_function_99 : decode prog_14_method_16_code 99 = .ok (.aload_n 0, 1) := by decide +kernel
theorem dd_Ref_function_100 : decode prog_14_method_16_code 100 = .ok (.getfield 145, 3) := by decide +kernel
theorem dd_Ref_function_103 : decode prog_14_method_16_code 103 = .ok (.iload 4, 2) := by decide +kernel
theorem dd_Ref_function_105 : decode prog_14_method_16_code 105 = .ok (.iastore, 1) := by decide +kernel
theorem dd_Ref_function_106 : decode prog_14_method_16_code 106 = .ok (.aload_n 0, 1) := by decide +kernel
theorem dd_Ref_function_107 : decode prog_14_method_16_code 107 = .ok (.dup, 1) := by decide +kernel
theorem dd_Ref_function_108 : decode prog_14_method_16_code 108 = .ok (.getfield 145, 3) := by decide +kernel
theorem dd_Ref_function_111 : decode prog_14_method_16_code 111 = .ok (.iconst 1, 1) := by decide +kernel
theorem dd_Ref_function_112 : decode prog_14_method_16_code 112 = .ok (.iadd, 1) := by decide +kernel
theorem dd_Ref_function_113 : decode prog_14_method_16_code 113 = .ok (.putfield 145, 3) := by decide +kernel
theorem dd_Ref_function_116 : decode prog_14_method_16_code 116 = .ok (.aload_n 0, 1) := by decide +kernel
theorem dd_Ref_function_117 : decode prog_14_method_16_code 117 = .ok (.getfield 145, 3) := by decide +kernel
theorem dd_Ref_function_120 : decode prog_14_method_16_code 120 = .ok (.iconst 1, 1) := by decide +kernel
theorem dd_Ref_function_121 : decode prog_14_method_16_code 121 = .ok (.isub, 1) := by decide +kernel
theorem dd_Ref_function_122 : decode prog_14_method_16_code 122 = .ok (.ireturn, 1) := by decide +kernel
theorem dd_Ref_rule_0 : decode prog_14_method_17_code 0 = .ok (.iload_n 1, 1) := by decide +kernel
theorem dd_Ref_rule_1 : decode prog_14_method_17_code 1 = .ok (.ifCond .lt 21, 3) := by decide +kernel
theorem dd_Ref_rule_4 : decode prog_14_method_17_code 4 = .ok (.iload_n 1, 1) := by decide +kernel
theorem dd_Ref_rule_5 : decode prog_14_method_17_code 5 = .ok (.aload_n 0, 1) := by decide +kernel
theorem dd_Ref_rule_6 : decode prog_14_method_17_code 6 = .ok (.getfield 136, 3) := by decide +kernel
theorem dd_Ref_rule_9 : decode prog_14_method_17_code 9 = .ok (.if_icmp .ge 13, 3) := by decide +kernel
theorem dd_Ref_rule_12 : decode prog_14_method_17_code 12 = .ok (.iload_n 2, 1) := by decide +kernel
theorem dd_Ref_rule_13 : decode prog_14_method_17_code 13 = .ok (.ifCond .lt 9, 3) := by decide +kernel
theorem dd_Ref_rule_16 : decode prog_14_method_17_code 16 = .ok (.iload_n 2, 1) := by decide +kernel
theorem dd_Ref_rule_17 : decode prog_14_method_17_code 17 = .ok (.bipush 8, 2) := by decide +kernel
theorem dd_Ref_rule_19 : decode prog_14_method_17_code 19 = .ok (.if_icmp .le 9, 3) := by decide +kernel
theorem dd_Ref_rule_22 : decode prog_14_method_17_code 22 = .ok (.aload_n 0, 1) := by decide +kernel
theorem dd_Ref_rule_23 : decode prog_14_method_17_code 23 = .ok (.iconst 1, 1) := by decide +kernel
theorem dd_Ref_rule_24 : decode prog_14_method_17_code 24 = .ok (.putfield 102, 3) := by decide +kernel
theorem dd_Ref_rule_27 : decode prog_14_method_17_code 27 = .ok (.return_, 1) := by decide +kernel
theorem dd_Ref_rule_28 : decode prog_14_method_17_code 28 = .ok (.aload_n 0, 1) := by decide +kernel
theorem dd_Ref_rule_29 : decode prog_14_method_17_code 29 = .ok (.getfield 118, 3) := by decide +kernel
theorem dd_Ref_rule_32 : decode prog_14_method_17_code 32 = .ok (.ifCond .ne 14, 3) := by decide +kernel
theorem dd_Ref_rule_35 : decode prog_14_method_17_code 35 = .ok (.aload_n 0, 1) := by decide +kernel
theorem dd_Ref_rule_36 : decode prog_14_method_17_code 36 = .ok (.getfield 35, 3) := by decide +kernel
theorem dd_Ref_rule_39 : decode prog_14_method_17_code 39 = .ok (.iload_n 1, 1) := by decide +kernel
theorem dd_Ref_rule_40 : decode prog_14_method_17_code 40 = .ok (.iaload, 1) := by decide +kernel
theorem dd_Ref_rule_41 : decode prog_14_method_17_code 41 = .ok (.bipush 24, 2) := by decide +kernel
theorem dd_Ref_rule_43 : decode prog_14_method_17_code 43 = .ok (.if_icmp .ne 9, 3) := by decide +kernel
theorem dd_Ref_rule_46 : decode prog_14_method_17_code 46 = .ok (.aload_n 0, 1) := by decide +kernel
theorem dd_Ref_rule_47 : decode prog_14_method_17_code 47 = .ok (.iconst 2, 1) := by decide +kernel
theorem dd_Ref_rule_48 : decode prog_14_method_17_code 48 = .ok (.putfield 102, 3) := by decide +kernel
theorem dd_Ref_rule_51 : decode prog_14_method_17_code 51 = .ok (.return_, 1) := by decide +kernel
theorem dd_Ref_rule_52 : decode prog_14_method_17_code 52 = .ok (.aload_n 0, 1) := by decide +kernel
theorem dd_Ref_rule_53 : decode prog_14_method_17_code 53 = .ok (.iconst 0, 1) := by decide +kernel
theorem dd_Ref_rule_54 : decode prog_14_method_17_code 54 = .ok (.putfield 102, 3) := by decide +kernel
theorem dd_Ref_rule_57 : decode prog_14_method_17_code 57 = .ok (.bipush 24, 2) := by decide +kernel
theorem dd_Ref_rule_59 : decode prog_14_method_17_code 59 = .ok (.iload_n 1, 1) := by decide +kernel
theorem dd_Ref_rule_60 : decode prog_14_method_17_code 60 = .ok (.imul, 1) := by decide +kernel
theorem dd_Ref_rule_61 : decode prog_14_method_17_code 61 = .ok (.aload_n 0, 1) := by decide +kernel
theorem dd_Ref_rule_62 : decode prog_14_method_17_code 62 = .ok (.getfield 35, 3) := by decide +kernel
theorem dd_Ref_rule_65 : decode prog_14_method_17_code 65 = .ok (.iload_n 1, 1) := by decide +kernel
theorem dd_Ref_rule_66 : decode prog_14_method_17_code 66 = .ok (.iaload, 1) := by decide +kernel
theorem dd_Ref_rule_67 : decode prog_14_method_17_code 67 = .ok (.iadd, 1) := by decide +kernel
theorem dd_Ref_rule_68 : decode prog_14_method_17_code 68 = .ok (.istore 6, 2) := by decide +kernel
theorem dd_Ref_rule_70 : decode prog_14_method_17_code 70 = .ok (.aload_n 0, 1) := by decide +kernel
theorem dd_Ref_rule_71 : decode prog_14_method_17_code 71 = .ok (.getfield 38, 3) := by decide +kernel
theorem dd_Ref_rule_74 : decode prog_14_method_17_code 74 = .ok (.iload 6, 2) := by decide +kernel
theorem dd_Ref_rule_76 : decode prog_14_method_17_code 76 = .ok (.iload_n 2, 1) := by decide +kernel
theorem dd_Ref_rule_77 : decode prog_14_method_17_code 77 = .ok (.iastore, 1) := by decide +kernel
theorem dd_Ref_rule_78 : decode prog_14_method_17_code 78 = .ok (.aload_n 0, 1) := by decide +kernel
theorem dd_Ref_rule_79 : decode prog_14_method_17_code 79 = .ok (.getfield 41, 3) := by decide +kernel
theorem dd_Ref_rule_82 : decode prog_14_method_17_code 82 = .ok (.iload 6, 2) := by decide +kernel
theorem dd_Ref_rule_84 : decode prog_14_method_17_code 84 = .ok (.iload_n 3, 1) := by decide +kernel
theorem dd_Ref_rule_85 : decode prog_14_method_17_code 85 = .ok (.iastore, 1) := by decide +kernel
theorem dd_Ref_rule_86 : decode prog_14_method_17_code 86 = .ok (.aload_n 0, 1) := by decide +kernel
theorem dd_Ref_rule_87 : decode prog_14_method_17_code 87 = .ok (.getfield 44, 3) := by decide +kernel
theorem dd_Ref_rule_90 : decode prog_14_method_17_code 90 = .ok (.iload 6, 2) := by decide +kernel
theorem dd_Ref_rule_92 : decode prog_14_method_17_code 92 = .ok (.lload 4, 2) := by decide +kernel
theorem dd_Ref_rule_94 : decode prog_14_method_17_code 94 = .ok (.lastore, 1) := by decide +kernel
theorem dd_Ref_rule_95 : decode prog_14_method_17_code 95 = .ok (.aload_n 0, 1) := by decide +kernel
theorem dd_Ref_rule_96 : decode prog_14_method_17_code 96 = .ok (.getfield 35, 3) := by decide +kernel
theorem dd_Ref_rule_99 : decode prog_14_method_17_code 99 = .ok (.iload_n 1, 1) := by decide +kernel
theorem dd_Ref_rule_100 : decode prog_14_method_17_code 100 = .ok (.dup2, 1) := by decide +kernel
theorem dd_Ref_rule_101 : decode prog_14_method_17_code 101 = .ok (.iaload, 1) := by decide +kernel
theorem dd_Ref_rule_102 : decode prog_14_method_17_code 102 = .ok (.iconst 1, 1) := by decide +kernel
theorem dd_Ref_rule_103 : decode prog_14_method_17_code 103 = .ok (.iadd, 1) := by decide +kernel
theorem dd_Ref_rule_104 : decode prog_14_method_17_code 104 = .ok (.iastore, 1) := by decide +kernel
theorem dd_Ref_rule_105 : decode prog_14_method_17_code 105 = .ok (.return_, 1) := by decide +kernel
theorem dd_Ref_firstRule_0 : decode prog_14_method_18_code 0 = .ok (.bipush 24, 2) := by decide +kernel
theorem dd_Ref_firstRule_2 : decode prog_14_method_18_code 2 = .ok (.iload_n 1, 1) := by decide +kernel
theorem dd_Ref_firstRule_3 : decode prog_14_method_18_code 3 = .ok (.imul, 1) := by decide +kernel
theorem dd_Ref_firstRule_4 : decode prog_14_method_18_code 4 = .ok (.istore 4, 2) := by decide +kernel
theorem dd_Ref_firstRule_6 : decode prog_14_method_18_code 6 = .ok (.iload 4, 2) := by decide +kernel
theorem dd_Ref_firstRule_8 : decode prog_14_method_18_code 8 = .ok (.bipush 24, 2) := by decide +kernel
theorem dd_Ref_firstRule_10 : decode prog_14_method_18_code 10 = .ok (.iload_n 1, 1) := by decide +kernel
theorem dd_Ref_firstRule_11 : decode prog_14_method_18_code 11 = .ok (.imul, 1) := by decide +kernel
theorem dd_Ref_firstRule_12 : decode prog_14_method_18_code 12 = .ok (.aload_n 0, 1) := by decide +kernel
theorem dd_Ref_firstRule_13 : decode prog_14_method_18_code 13 = .ok (.getfield 35, 3) := by decide +kernel
theorem dd_Ref_firstRule_16 : decode prog_14_method_18_code 16 = .ok (.iload_n 1, 1) := by decide +kernel
theorem dd_Ref_firstRule_17 : decode prog_14_method_18_code 17 = .ok (.iaload, 1) := by decide +kernel
theorem dd_Ref_firstRule_18 : decode prog_14_method_18_code 18 = .ok (.iadd, 1) := by decide +kernel
theorem dd_Ref_firstRule_19 : decode prog_14_method_18_code 19 = .ok (.if_icmp .ge 34, 3) := by decide +kernel
theorem dd_Ref_firstRule_22 : decode prog_14_method_18_code 22 = .ok (.aload_n 0, 1) := by decide +kernel
theorem dd_Ref_firstRule_23 : decode prog_14_method_18_code 23 = .ok (.getfield 38, 3) := by decide +kernel
theorem dd_Ref_firstRule_26 : decode prog_14_method_18_code 26 = .ok (.iload 4, 2) := by decide +kernel
theorem dd_Ref_firstRule_28 : decode prog_14_method_18_code 28 = .ok (.iaload, 1) := by decide +kernel
theorem dd_Ref_firstRule_29 : decode prog_14_method_18_code 29 = .ok (.iload_n 2, 1) := by decide +kernel
theorem dd_Ref_firstRule_30 : decode prog_14_method_18_code 30 = .ok (.if_icmp .ne 17, 3) := by decide +kernel
theorem dd_Ref_firstRule_33 : decode prog_14_method_18_code 33 = .ok (.aload_n 0, 1) := by decide +kernel
theorem dd_Ref_firstRule_34 : decode prog_14_method_18_code 34 = .ok (.getfield 41, 3) := by decide +kernel
theorem dd_Ref_firstRule_37 : decode prog_14_method_18_code 37 = .ok (.iload 4, 2) := by decide +kernel
theorem dd_Ref_firstRule_39 : decode prog_14_method_18_code 39 = .ok (.iaload, 1) := by decide +kernel
theorem dd_Ref_firstRule_40 : decode prog_14_method_18_code 40 = .ok (.iload_n 3, 1) := by decide +kernel
theorem dd_Ref_firstRule_41 : decode prog_14_method_18_code 41 = .ok (.if_icmp .ne 6, 3) := by decide +kernel
theorem dd_Ref_firstRule_44 : decode prog_14_method_18_code 44 = .ok (.iload 4, 2) := by decide +kernel
theorem dd_Ref_firstRule_46 : decode prog_14_method_18_code 46 = .ok (.ireturn, 1) := by decide +kernel
theorem dd_Ref_firstRule_47 : decode prog_14_method_18_code 47 = .ok (.iinc 4 1, 3) := by decide +kernel
theorem dd_Ref_firstRule_50 : decode prog_14_method_18_code 50 = .ok (.goto (-44), 3) := by decide +kernel
theorem dd_Ref_firstRule_53 : decode prog_14_method_18_code 53 = .ok (.iconst (-1), 1) := by decide +kernel
theorem dd_Ref_firstRule_54 : decode prog_14_method_18_code 54 = .ok (.ireturn, 1) := by decide +kernel
theorem dd_Ref_latest_0 : decode prog_14_method_19_code 0 = .ok (.iconst (-1), 1) := by decide +kernel
theorem dd_Ref_latest_1 : decode prog_14_method_19_code 1 = .ok (.istore_n 3, 1) := by decide +kernel
theorem dd_Ref_latest_2 : decode prog_14_method_19_code 2 = .ok (.bipush 24, 2) := by decide +kernel
theorem dd_Ref_latest_4 : decode prog_14_method_19_code 4 = .ok (.iload_n 1, 1) := by decide +kernel
theorem dd_Ref_latest_5 : decode prog_14_method_19_code 5 = .ok (.imul, 1) := by decide +kernel
theorem dd_Ref_latest_6 : decode prog_14_method_19_code 6 = .ok (.istore 4, 2) := by decide +kernel
theorem dd_Ref_latest_8 : decode prog_14_method_19_code 8 = .ok (.iload 4, 2) := by decide +kernel
theorem dd_Ref_latest_10 : decode prog_14_method_19_code 10 = .ok (.bipush 24, 2) := by decide +kernel
theorem dd_Ref_latest_12 : decode prog_14_method_19_code 12 = .ok (.iload_n 1, 1) := by decide +kernel
theorem dd_Ref_latest_13 : decode prog_14_method_19_code 13 = .ok (.imul, 1) := by decide +kernel
theorem dd_Ref_latest_14 : decode prog_14_method_19_code 14 = .ok (.aload_n 0, 1) := by decide +kernel
theorem dd_Ref_latest_15 : decode prog_14_method_19_code 15 = .ok (.getfield 35, 3) := by decide +kernel
theorem dd_Ref_latest_18 : decode prog_14_method_19_code 18 = .ok (.iload_n 1, 1) := by decide +kernel
theorem dd_Ref_latest_19 : decode prog_14_method_19_code 19 = .ok (.iaload, 1) := by decide +kernel
theorem dd_Ref_latest_20 : decode prog_14_method_19_code 20 = .ok (.iadd, 1) := by decide +kernel
theorem dd_Ref_latest_21 : decode prog_14_method_19_code 21 = .ok (.if_icmp .ge 27, 3) := by decide +kernel
theorem dd_Ref_latest_24 : decode prog_14_method_19_code 24 = .ok (.aload_n 0, 1) := by decide +kernel
theorem dd_Ref_latest_25 : decode prog_14_method_19_code 25 = .ok (.getfield 38, 3) := by decide +kernel
theorem dd_Ref_latest_28 : decode prog_14_method_19_code 28 = .ok (.iload 4, 2) := by decide +kernel
theorem dd_Ref_latest_30 : decode prog_14_method_19_code 30 = .ok (.iaload, 1) := by decide +kernel
theorem dd_Ref_latest_31 : decode prog_14_method_19_code 31 = .ok (.iload_n 2, 1) := by decide +kernel
theorem dd_Ref_latest_32 : decode prog_14_method_19_code 32 = .ok (.if_icmp .ne 8, 3) := by decide +kernel
theorem dd_Ref_latest_35 : decode prog_14_method_19_code 35 = .ok (.iload 4, 2) := by decide +kernel
theorem dd_Ref_latest_37 : decode prog_14_method_19_code 37 = .ok (.goto 4, 3) := by decide +kernel
theorem dd_Ref_latest_40 : decode prog_14_method_19_code 40 = .ok (.iload_n 3, 1) := by decide +kernel
theorem dd_Ref_latest_41 : decode prog_14_method_19_code 41 = .ok (.istore_n 3, 1) := by decide +kernel
theorem dd_Ref_latest_42 : decode prog_14_method_19_code 42 = .ok (.iinc 4 1, 3) := by decide +kernel
theorem dd_Ref_latest_45 : decode prog_14_method_19_code 45 = .ok (.goto (-37), 3) := by decide +kernel
theorem dd_Ref_latest_48 : decode prog_14_method_19_code 48 = .ok (.iload_n 3, 1) := by decide +kernel
theorem dd_Ref_latest_49 : decode prog_14_method_19_code 49 = .ok (.ireturn, 1) := by decide +kernel
theorem dd_Ref_isNamed_0 : decode prog_14_method_20_code 0 = .ok (.iconst 0, 1) := by decide +kernel
theorem dd_Ref_isNamed_1 : decode prog_14_method_20_code 1 = .ok (.istore_n 2, 1) := by decide +kernel
theorem dd_Ref_isNamed_2 : decode prog_14_method_20_code 2 = .ok (.iconst 0, 1) := by decide +kernel
theorem dd_Ref_isNamed_3 : decode prog_14_method_20_code 3 = .ok (.istore_n 3, 1) := by decide +kernel
theorem dd_Ref_isNamed_4 : decode prog_14_method_20_code 4 = .ok (.iload_n 3, 1) := by decide +kernel
theorem dd_Ref_isNamed_5 : decode prog_14_method_20_code 5 = .ok (.aload_n 0, 1) := by decide +kernel
theorem dd_Ref_isNamed_6 : decode prog_14_method_20_code 6 = .ok (.getfield 136, 3) := by decide +kernel
theorem dd_Ref_isNamed_9 : decode prog_14_method_20_code 9 = .ok (.if_icmp .ge 71, 3) := by decide +kernel
theorem dd_Ref_isNamed_12 : decode prog_14_method_20_code 12 = .ok (.bipush 24, 2) := by decide +kernel
theorem dd_Ref_isNamed_14 : decode prog_14_method_20_code 14 = .ok (.iload_n 3, 1) := by decide +kernel
theorem dd_Ref_isNamed_15 : decode prog_14_method_20_code 15 = .ok (.imul, 1) := by decide +kernel
theorem dd_Ref_isNamed_16 : decode prog_14_method_20_code 16 = .ok (.istore 4, 2) := by decide +kernel
theorem dd_Ref_isNamed_18 : decode prog_14_method_20_code 18 = .ok (.iload 4, 2) := by decide +kernel
theorem dd_Ref_isNamed_20 : decode prog_14_method_20_code 20 = .ok (.bipush 24, 2) := by decide +kernel
theorem dd_Ref_isNamed_22 : decode prog_14_method_20_code 22 = .ok (.iload_n 3, 1) := by decide +kernel
theorem dd_Ref_isNamed_23 : decode prog_14_method_20_code 23 = .ok (.imul, 1) := by decide +kernel
theorem dd_Ref_isNamed_24 : decode prog_14_method_20_code 24 = .ok (.aload_n 0, 1) := by decide +kernel
theorem dd_Ref_isNamed_25 : decode prog_14_method_20_code 25 = .ok (.getfield 35, 3) := by decide +kernel
theorem dd_Ref_isNamed_28 : decode prog_14_method_20_code 28 = .ok (.iload_n 3, 1) := by decide +kernel
theorem dd_Ref_isNamed_29 : decode prog_14_method_20_code 29 = .ok (.iaload, 1) := by decide +kernel
theorem dd_Ref_isNamed_30 : decode prog_14_method_20_code 30 = .ok (.iadd, 1) := by decide +kernel
theorem dd_Ref_isNamed_31 : decode prog_14_method_20_code 31 = .ok (.if_icmp .ge 43, 3) := by decide +kernel
theorem dd_Ref_isNamed_34 : decode prog_14_method_20_code 34 = .ok (.iload_n 2, 1) := by decide +kernel
theorem dd_Ref_isNamed_35 : decode prog_14_method_20_code 35 = .ok (.ifCond .ne 27, 3) := by decide +kernel
theorem dd_Ref_isNamed_38 : decode prog_14_method_20_code 38 = .ok (.aload_n 0, 1) := by decide +kernel
theorem dd_Ref_isNamed_39 : decode prog_14_method_20_code 39 = .ok (.getfield 38, 3) := by decide +kernel
theorem dd_Ref_isNamed_42 : decode prog_14_method_20_code 42 = .ok (.iload 4, 2) := by decide +kernel
theorem dd_Ref_isNamed_44 : decode prog_14_method_20_code 44 = .ok (.iaload, 1) := by decide +kernel
theorem dd_Ref_isNamed_45 : decode prog_14_method_20_code 45 = .ok (.iconst 4, 1) := by decide +kernel
theorem dd_Ref_isNamed_46 : decode prog_14_method_20_code 46 = .ok (.if_icmp .ne 20, 3) := by decide +kernel
theorem dd_Ref_isNamed_49 : decode prog_14_method_20_code 49 = .ok (.aload_n 0, 1) := by decide +kernel
theorem dd_Ref_isNamed_50 : decode prog_14_method_20_code 50 = .ok (.getfield 44, 3) := by decide +kernel
theorem dd_Ref_isNamed_53 : decode prog_14_method_20_code 53 = .ok (.iload 4, 2) := by decide +kernel
theorem dd_Ref_isNamed_55 : decode prog_14_method_20_code 55 = .ok (.laload, 1) := by decide +kernel
theorem dd_Ref_isNamed_56 : decode prog_14_method_20_code 56 = .ok (.iload_n 1, 1) := by decide +kernel
theorem dd_Ref_isNamed_57 : decode prog_14_method_20_code 57 = .ok (.i2l, 1) := by decide +kernel
theorem dd_Ref_isNamed_58 : decode prog_14_method_20_code 58 = .ok (.lcmp, 1) := by decide +kernel
theorem dd_Ref_isNamed_59 : decode prog_14_method_20_code 59 = .ok (.ifCond .ne 7, 3) := by decide +kernel
theorem dd_Ref_isNamed_62 : decode prog_14_method_20_code 62 = .ok (.iconst 1, 1) := by decide +kernel
theorem dd_Ref_isNamed_63 : decode prog_14_method_20_code 63 = .ok (.goto 4, 3) := by decide +kernel
theorem dd_Ref_isNamed_66 : decode prog_14_method_20_code 66 = .ok (.iconst 0, 1) := by decide +kernel
theorem dd_Ref_isNamed_67 : decode prog_14_method_20_code 67 = .ok (.istore_n 2, 1) := by decide +kernel
theorem dd_Ref_isNamed_68 : decode prog_14_method_20_code 68 = .ok (.iinc 4 1, 3) := by decide +kernel
theorem dd_Ref_isNamed_71 : decode prog_14_method_20_code 71 = .ok (.goto (-53), 3) := by decide +kernel
theorem dd_Ref_isNamed_74 : decode prog_14_method_20_code 74 = .ok (.iinc 3 1, 3) := by decide +kernel
theorem dd_Ref_isNamed_77 : decode prog_14_method_20_code 77 = .ok (.goto (-73), 3) := by decide +kernel
theorem dd_Ref_isNamed_80 : decode prog_14_method_20_code 80 = .ok (.iload_n 2, 1) := by decide +kernel
theorem dd_Ref_isNamed_81 : decode prog_14_method_20_code 81 = .ok (.ireturn, 1) := by decide +kernel
theorem dd_Ref_inverseOf_0 : decode prog_14_method_21_code 0 = .ok (.aload_n 0, 1) := by decide +kernel
theorem dd_Ref_inverseOf_1 : decode prog_14_method_21_code 1 = .ok (.iload_n 1, 1) := by decide +kernel
theorem dd_Ref_inverseOf_2 : decode prog_14_method_21_code 2 = .ok (.bipush 7, 2) := by decide +kernel
theorem dd_Ref_inverseOf_4 : decode prog_14_method_21_code 4 = .ok (.invokevirtual 148, 3) := by decide +kernel
theorem dd_Ref_inverseOf_7 : decode prog_14_method_21_code 7 = .ok (.istore_n 2, 1) := by decide +kernel
theorem dd_Ref_inverseOf_8 : decode prog_14_method_21_code 8 = .ok (.iload_n 2, 1) := by decide +kernel
theorem dd_Ref_inverseOf_9 : decode prog_14_method_21_code 9 = .ok (.ifCond .ge 7, 3) := by decide +kernel
theorem dd_Ref_inverseOf_12 : decode prog_14_method_21_code 12 = .ok (.iconst (-1), 1) := by decide +kernel
theorem dd_Ref_inverseOf_13 : decode prog_14_method_21_code 13 = .ok (.goto 10, 3) := by decide +kernel
theorem dd_Ref_inverseOf_16 : decode prog_14_method_21_code 16 = .ok (.aload_n 0, 1) := by decide +kernel
theorem dd_Ref_inverseOf_17 : decode prog_14_method_21_code 17 = .ok (.getfield 44, 3) := by decide +kernel
theorem dd_Ref_inverseOf_20 : decode prog_14_method_21_code 20 = .ok (.iload_n 2, 1) := by decide +kernel
theorem dd_Ref_inverseOf_21 : decode prog_14_method_21_code 21 = .ok (.laload, 1) := by decide +kernel
theorem dd_Ref_inverseOf_22 : decode prog_14_method_21_code 22 = .ok (.l2i, 1) := by decide +kernel
theorem dd_Ref_inverseOf_23 : decode prog_14_method_21_code 23 = .ok (.ireturn, 1) := by decide +kernel
theorem dd_Ref_nameOf_0 : decode prog_14_method_22_code 0 = .ok (.iconst 0, 1) := by decide +kernel
theorem dd_Ref_nameOf_1 : decode prog_14_method_22_code 1 = .ok (.istore_n 3, 1) := by decide +kernel
theorem dd_Ref_nameOf_2 : decode prog_14_method_22_code 2 = .ok (.iload_n 3, 1) := by decide +kernel
theorem dd_Ref_nameOf_3 : decode prog_14_method_22_code 3 = .ok (.iload_n 2, 1) := by decide +kernel
theorem dd_Ref_nameOf_4 : decode prog_14_method_22_code 4 = .ok (.if_icmp .ge 26, 3) := by decide +kernel
theorem dd_Ref_nameOf_7 : decode prog_14_method_22_code 7 = .ok (.lload_n 0, 1) := by decide +kernel
theorem dd_Ref_nameOf_8 : decode prog_14_method_22_code 8 = .ok (.bipush 8, 2) := by decide +kernel
theorem dd_Ref_nameOf_10 : decode prog_14_method_22_code 10 = .ok (.iload_n 3, 1) := by decide +kernel
theorem dd_Ref_nameOf_11 : decode prog_14_method_22_code 11 = .ok (.imul, 1) := by decide +kernel
theorem dd_Ref_nameOf_12 : decode prog_14_method_22_code 12 = .ok (.lshr, 1) := by decide +kernel
theorem dd_Ref_nameOf_13 : decode prog_14_method_22_code 13 = .ok (.ldc2_w 113, 3) := by decide +kernel
theorem dd_Ref_nameOf_16 : decode prog_14_method_22_code 16 = .ok (.land, 1) := by decide +kernel
theorem dd_Ref_nameOf_17 : decode prog_14_method_22_code 17 = .ok (.lconst 0, 1) := by decide +kernel
theorem dd_Ref_nameOf_18 : decode prog_14_method_22_code 18 = .ok (.lcmp, 1) := by decide +kernel
theorem dd_Ref_nameOf_19 : decode prog_14_method_22_code 19 = .ok (.ifCond .ne 5, 3) := by decide +kernel
theorem dd_Ref_nameOf_22 : decode prog_14_method_22_code 22 = .ok (.iconst (-1), 1) := by decide +kernel
theorem dd_Ref_nameOf_23 : decode prog_14_method_22_code 23 = .ok (.ireturn, 1) := by decide +kernel
theorem dd_Ref_nameOf_24 : decode prog_14_method_22_code 24 = .ok (.iinc 3 1, 3) := by decide +kernel
theorem dd_Ref_nameOf_27 : decode prog_14_method_22_code 27 = .ok (.goto (-25), 3) := by decide +kernel
theorem dd_Ref_nameOf_30 : decode prog_14_method_22_code 30 = .ok (.iload_n 2, 1) := by decide +kernel
theorem dd_Ref_nameOf_31 : decode prog_14_method_22_code 31 = .ok (.iconst 2, 1) := by decide +kernel
theorem dd_Ref_nameOf_32 : decode prog_14_method_22_code 32 = .ok (.if_icmp .le 7, 3) := by decide +kernel
theorem dd_Ref_nameOf_35 : decode prog_14_method_22_code 35 = .ok (.iconst (-1), 1) := by decide +kernel
theorem dd_Ref_nameOf_36 : decode prog_14_method_22_code 36 = .ok (.goto 16, 3) := by decide +kernel
theorem dd_Ref_nameOf_39 : decode prog_14_method_22_code 39 = .ok (.lload_n 0, 1) := by decide +kernel
theorem dd_Ref_nameOf_40 : decode prog_14_method_22_code 40 = .ok (.bipush 8, 2) := by decide +kernel
theorem dd_Ref_nameOf_42 : decode prog_14_method_22_code 42 = .ok (.iload_n 2, 1) := by decide +kernel
theorem dd_Ref_nameOf_43 : decode prog_14_method_22_code 43 = .ok (.imul, 1) := by decide +kernel
theorem dd_Ref_nameOf_44 : decode prog_14_method_22_code 44 = .ok (.lshr, 1) := by decide +kernel
theorem dd_Ref_nameOf_45 : decode prog_14_method_22_code 45 = .ok (.ldc2_w 113, 3) := by decide +kernel
theorem dd_Ref_nameOf_48 : decode prog_14_method_22_code 48 = .ok (.land, 1) := by decide +kernel
theorem dd_Ref_nameOf_49 : decode prog_14_method_22_code 49 = .ok (.l2i, 1) := by decide +kernel
theorem dd_Ref_nameOf_50 : decode prog_14_method_22_code 50 = .ok (.iconst 1, 1) := by decide +kernel
theorem dd_Ref_nameOf_51 : decode prog_14_method_22_code 51 = .ok (.isub, 1) := by decide +kernel
theorem dd_Ref_nameOf_52 : decode prog_14_method_22_code 52 = .ok (.ireturn, 1) := by decide +kernel
theorem dd_Ref_pathOf_0 : decode prog_14_method_23_code 0 = .ok (.aload_n 0, 1) := by decide +kernel
theorem dd_Ref_pathOf_1 : decode prog_14_method_23_code 1 = .ok (.iload_n 1, 1) := by decide +kernel
theorem dd_Ref_pathOf_2 : decode prog_14_method_23_code 2 = .ok (.iconst 0, 1) := by decide +kernel
theorem dd_Ref_pathOf_3 : decode prog_14_method_23_code 3 = .ok (.iload_n 2, 1) := by decide +kernel
theorem dd_Ref_pathOf_4 : decode prog_14_method_23_code 4 = .ok (.invokevirtual 151, 3) := by decide +kernel
theorem dd_Ref_pathOf_7 : decode prog_14_method_23_code 7 = .ok (.istore_n 3, 1) := by decide +kernel
theorem dd_Ref_pathOf_8 : decode prog_14_method_23_code 8 = .ok (.iload_n 3, 1) := by decide +kernel
theorem dd_Ref_pathOf_9 : decode prog_14_method_23_code 9 = .ok (.ifCond .lt 10, 3) := by decide +kernel
theorem dd_Ref_pathOf_12 : decode prog_14_method_23_code 12 = .ok (.aload_n 0, 1) := by decide +kernel
theorem dd_Ref_pathOf_13 : decode prog_14_method_23_code 13 = .ok (.getfield 44, 3) := by decide +kernel
theorem dd_Ref_pathOf_16 : decode prog_14_method_23_code 16 = .ok (.iload_n 3, 1) := by decide +kernel
theorem dd_Ref_pathOf_17 : decode prog_14_method_23_code 17 = .ok (.laload, 1) := by decide +kernel
theorem dd_Ref_pathOf_18 : decode prog_14_method_23_code 18 = .ok (.lreturn, 1) := by decide +kernel
theorem dd_Ref_pathOf_19 : decode prog_14_method_23_code 19 = .ok (.aload_n 0, 1) := by decide +kernel
theorem dd_Ref_pathOf_20 : decode prog_14_method_23_code 20 = .ok (.iload_n 1, 1) := by decide +kernel
theorem dd_Ref_pathOf_21 : decode prog_14_method_23_code 21 = .ok (.invokevirtual 155, 3) := by decide +kernel
theorem dd_Ref_pathOf_24 : decode prog_14_method_23_code 24 = .ok (.istore 4, 2) := by decide +kernel
theorem dd_Ref_pathOf_26 : decode prog_14_method_23_code 26 = .ok (.bipush 24, 2) := by decide +kernel
theorem dd_Ref_pathOf_28 : decode prog_14_method_23_code 28 = .ok (.iload 4, 2) := by decide +kernel
theorem dd_Ref_pathOf_30 : decode prog_14_method_23_code 30 = .ok (.ifCond .ge 7, 3) := by decide +kernel
theorem dd_Ref_pathOf_33 : decode prog_14_method_23_code 33 = .ok (.iconst 0, 1) := by decide +kernel
theorem dd_Ref_pathOf_34 : decode prog_14_method_23_code 34 = .ok (.goto 5, 3) := by decide +kernel
theorem dd_Ref_pathOf_37 : decode prog_14_method_23_code 37 = .ok (.iload 4, 2) := by decide +kernel
theorem dd_Ref_pathOf_39 : decode prog_14_method_23_code 39 = .ok (.imul, 1) := by decide +kernel
theorem dd_Ref_pathOf_40 : decode prog_14_method_23_code 40 = .ok (.istore 5, 2) := by decide +kernel
theorem dd_Ref_pathOf_42 : decode prog_14_method_23_code 42 = .ok (.iload 4, 2) := by decide +kernel
theorem dd_Ref_pathOf_44 : decode prog_14_method_23_code 44 = .ok (.ifCond .lt 118, 3) := by decide +kernel
theorem dd_Ref_pathOf_47 : decode prog_14_method_23_code 47 = .ok (.iload 5, 2) := by decide +kernel
theorem dd_Ref_pathOf_49 : decode prog_14_method_23_code 49 = .ok (.bipush 24, 2) := by decide +kernel
theorem dd_Ref_pathOf_51 : decode prog_14_method_23_code 51 = .ok (.iload 4, 2) := by decide +kernel
theorem dd_Ref_pathOf_53 : decode prog_14_method_23_code 53 = .ok (.imul, 1) := by decide +kernel
theorem dd_Ref_pathOf_54 : decode prog_14_method_23_code 54 = .ok (.aload_n 0, 1) := by decide +kernel
theorem dd_Ref_pathOf_55 : decode prog_14_method_23_code 55 = .ok (.getfield 35, 3) := by decide +kernel
theorem dd_Ref_pathOf_58 : decode prog_14_method_23_code 58 = .ok (.iload 4, 2) := by decide +kernel
theorem dd_Ref_pathOf_60 : decode prog_14_method_23_code 60 = .ok (.iaload, 1) := by decide +kernel
theorem dd_Ref_pathOf_61 : decode prog_14_method_23_code 61 = .ok (.iadd, 1) := by decide +kernel
theorem dd_Ref_pathOf_62 : decode prog_14_method_23_code 62 = .ok (.if_icmp .ge 100, 3) := by decide +kernel
theorem dd_Ref_pathOf_65 : decode prog_14_method_23_code 65 = .ok (.aload_n 0, 1) := by decide +kernel
theorem dd_Ref_pathOf_66 : decode prog_14_method_23_code 66 = .ok (.getfield 38, 3) := by decide +kernel
theorem dd_Ref_pathOf_69 : decode prog_14_method_23_code 69 = .ok (.iload 5, 2) := by decide +kernel
theorem dd_Ref_pathOf_71 : decode prog_14_method_23_code 71 = .ok (.iaload, 1) := by decide +kernel
theorem dd_Ref_pathOf_72 : decode prog_14_method_23_code 72 = .ok (.ifCond .ne 36, 3) := by decide +kernel
theorem dd_Ref_pathOf_75 : decode prog_14_method_23_code 75 = .ok (.aload_n 0, 1) := by decide +kernel
theorem dd_Ref_pathOf_76 : decode prog_14_method_23_code 76 = .ok (.getfield 44, 3) := by decide +kernel
theorem dd_Ref_pathOf_79 : decode prog_14_method_23_code 79 = .ok (.iload 5, 2) := by decide +kernel
theorem dd_Ref_pathOf_81 : decode prog_14_method_23_code 81 = .ok (.laload, 1) := by decide +kernel
theorem dd_Ref_pathOf_82 : decode prog_14_method_23_code 82 = .ok (.iconst 0, 1) := by decide +kernel
theorem dd_Ref_pathOf_83 : decode prog_14_method_23_code 83 = .ok (.invokestatic 158, 3) := by decide +kernel
theorem dd_Ref_pathOf_86 : decode prog_14_method_23_code 86 = .ok (.iload_n 2, 1) := by decide +kernel
theorem dd_Ref_pathOf_87 : decode prog_14_method_23_code 87 = .ok (.if_icmp .ne 21, 3) := by decide +kernel
theorem dd_Ref_pathOf_90 : decode prog_14_method_23_code 90 = .ok (.aload_n 0, 1) := by decide +kernel
theorem dd_Ref_pathOf_91 : decode prog_14_method_23_code 91 = .ok (.getfield 44, 3) := by decide +kernel
theorem dd_Ref_pathOf_94 : decode prog_14_method_23_code 94 = .ok (.iload 5, 2) := by decide +kernel
theorem dd_Ref_pathOf_96 : decode prog_14_method_23_code 96 = .ok (.laload, 1) := by decide +kernel
theorem dd_Ref_pathOf_97 : decode prog_14_method_23_code 97 = .ok (.iconst 1, 1) := by decide +kernel
theorem dd_Ref_pathOf_98 : decode prog_14_method_23_code 98 = .ok (.invokestatic 158, 3) := by decide +kernel
theorem dd_Ref_pathOf_101 : decode prog_14_method_23_code 101 = .ok (.ifCond .ge 7, 3) := by decide +kernel
theorem dd_Ref_pathOf_104 : decode prog_14_method_23_code 104 = .ok (.iconst 1, 1) := by decide +kernel
theorem dd_Ref_pathOf_105 : decode prog_14_method_23_code 105 = .ok (.goto 4, 3) := by decide +kernel
theorem dd_Ref_pathOf_108 : decode prog_14_method_23_code 108 = .ok (.iconst 0, 1) := by decide +kernel
theorem dd_Ref_pathOf_109 : decode prog_14_method_23_code 109 = .ok (.istore 6, 2) := by decide +kernel
theorem dd_Ref_pathOf_111 : decode prog_14_method_23_code 111 = .ok (.iload 6, 2) := by decide +kernel
theorem dd_Ref_pathOf_113 : decode prog_14_method_23_code 113 = .ok (.ifCond .eq 43, 3) := by decide +kernel
theorem dd_Ref_pathOf_116 : decode prog_14_method_23_code 116 = .ok (.aload_n 0, 1) := by decide +kernel
theorem dd_Ref_pathOf_117 : decode prog_14_method_23_code 117 = .ok (.aload_n 0, 1) := by decide +kernel
theorem dd_Ref_pathOf_118 : decode prog_14_method_23_code 118 = .ok (.getfield 29, 3) := by decide +kernel
theorem dd_Ref_pathOf_121 : decode prog_14_method_23_code 121 = .ok (.iload_n 1, 1) := by decide +kernel
theorem dd_Ref_pathOf_122 : decode prog_14_method_23_code 122 = .ok (.iaload, 1) := by decide +kernel
theorem dd_Ref_pathOf_123 : decode prog_14_method_23_code 123 = .ok (.aload_n 0, 1) := by decide +kernel
theorem dd_Ref_pathOf_124 : decode prog_14_method_23_code 124 = .ok (.getfield 41, 3) := by decide +kernel
theorem dd_Ref_pathOf_127 : decode prog_14_method_23_code 127 = .ok (.iload 5, 2) := by decide +kernel
theorem dd_Ref_pathOf_129 : decode prog_14_method_23_code 129 = .ok (.iaload, 1) := by decide +kernel
theorem dd_Ref_pathOf_130 : decode prog_14_method_23_code 130 = .ok (.invokevirtual 129, 3) := by decide +kernel
theorem dd_Ref_pathOf_133 : decode prog_14_method_23_code 133 = .ok (.ifCond .lt 16, 3) := by decide +kernel
theorem dd_Ref_pathOf_136 : decode prog_14_method_23_code 136 = .ok (.aload_n 0, 1) := by decide +kernel
theorem dd_Ref_pathOf_137 : decode prog_14_method_23_code 137 = .ok (.getfield 41, 3) := by decide +kernel
theorem dd_Ref_pathOf_140 : decode prog_14_method_23_code 140 = .ok (.iload 5, 2) := by decide +kernel
theorem dd_Ref_pathOf_142 : decode prog_14_method_23_code 142 = .ok (.iaload, 1) := by decide +kernel
theorem dd_Ref_pathOf_143 : decode prog_14_method_23_code 143 = .ok (.i2l, 1) := by decide +kernel
theorem dd_Ref_pathOf_144 : decode prog_14_method_23_code 144 = .ok (.lconst 1, 1) := by decide +kernel
theorem dd_Ref_pathOf_145 : decode prog_14_method_23_code 145 = .ok (.ladd, 1) := by decide +kernel
theorem dd_Ref_pathOf_146 : decode prog_14_method_23_code 146 = .ok (.goto 9, 3) := by decide +kernel
theorem dd_Ref_pathOf_149 : decode prog_14_method_23_code 149 = .ok (.aload_n 0, 1) := by decide +kernel
theorem dd_Ref_pathOf_150 : decode prog_14_method_23_code 150 = .ok (.iload_n 1, 1) := by decide +kernel
theorem dd_Ref_pathOf_151 : decode prog_14_method_23_code 151 = .ok (.iload_n 2, 1) := by decide +kernel
theorem dd_Ref_pathOf_152 : decode prog_14_method_23_code 152 = .ok (.invokevirtual 162, 3) := by decide +kernel
theorem dd_Ref_pathOf_155 : decode prog_14_method_23_code 155 = .ok (.lreturn, 1) := by decide +kernel
theorem dd_Ref_pathOf_156 : decode prog_14_method_23_code 156 = .ok (.iinc 5 1, 3) := by decide +kernel
theorem dd_Ref_pathOf_159 : decode prog_14_method_23_code 159 = .ok (.goto (-117), 3) := by decide +kernel
theorem dd_Ref_pathOf_162 : decode prog_14_method_23_code 162 = .ok (.aload_n 0, 1) := by decide +kernel
theorem dd_Ref_pathOf_163 : decode prog_14_method_23_code 163 = .ok (.iload_n 1, 1) := by decide +kernel
theorem dd_Ref_pathOf_164 : decode prog_14_method_23_code 164 = .ok (.iload_n 2, 1) := by decide +kernel
theorem dd_Ref_pathOf_165 : decode prog_14_method_23_code 165 = .ok (.invokevirtual 162, 3) := by decide +kernel
theorem dd_Ref_pathOf_168 : decode prog_14_method_23_code 168 = .ok (.lreturn, 1) := by decide +kernel
theorem dd_Ref_byName_0 : decode prog_14_method_24_code 0 = .ok (.aload_n 0, 1) := by decide +kernel
theorem dd_Ref_byName_1 : decode prog_14_method_24_code 1 = .ok (.aload_n 0, 1) := by decide +kernel
theorem dd_Ref_byName_2 : decode prog_14_method_24_code 2 = .ok (.getfield 29, 3) := by decide +kernel
theorem dd_Ref_byName_5 : decode prog_14_method_24_code 5 = .ok (.iload_n 1, 1) := by decide +kernel
theorem dd_Ref_byName_6 : decode prog_14_method_24_code 6 = .ok (.iaload, 1) := by decide +kernel
theorem dd_Ref_byName_7 : decode prog_14_method_24_code 7 = .ok (.iload_n 2, 1) := by decide +kernel
theorem dd_Ref_byName_8 : decode prog_14_method_24_code 8 = .ok (.invokevirtual 129, 3) := by decide +kernel
theorem dd_Ref_byName_11 : decode prog_14_method_24_code 11 = .ok (.ifCond .lt 10, 3) := by decide +kernel
theorem dd_Ref_byName_14 : decode prog_14_method_24_code 14 = .ok (.iload_n 2, 1) := by decide +kernel
theorem dd_Ref_byName_15 : decode prog_14_method_24_code 15 = .ok (.i2l, 1) := by decide +kernel
theorem dd_Ref_byName_16 : decode prog_14_method_24_code 16 = .ok (.lconst 1, 1) := by decide +kernel
theorem dd_Ref_byName_17 : decode prog_14_method_24_code 17 = .ok (.ladd, 1) := by decide +kernel
theorem dd_Ref_byName_18 : decode prog_14_method_24_code 18 = .ok (.goto 4, 3) := by decide +kernel
theorem dd_Ref_byName_21 : decode prog_14_method_24_code 21 = .ok (.lconst 0, 1) := by decide +kernel
theorem dd_Ref_byName_22 : decode prog_14_method_24_code 22 = .ok (.lreturn, 1) := by decide +kernel
theorem dd_Ref_endOf_0 : decode prog_14_method_25_code 0 = .ok (.aload_n 0, 1) := by decide +kernel
theorem dd_Ref_endOf_1 : decode prog_14_method_25_code 1 = .ok (.getfield 29, 3) := by decide +kernel
theorem dd_Ref_endOf_4 : decode prog_14_method_25_code 4 = .ok (.iload_n 1, 1) := by decide +kernel
theorem dd_Ref_endOf_5 : decode prog_14_method_25_code 5 = .ok (.iaload, 1) := by decide +kernel
theorem dd_Ref_endOf_6 : decode prog_14_method_25_code 6 = .ok (.istore 4, 2) := by decide +kernel
theorem dd_Ref_endOf_8 : decode prog_14_method_25_code 8 = .ok (.iconst 0, 1) := by decide +kernel
theorem dd_Ref_endOf_9 : decode prog_14_method_25_code 9 = .ok (.istore 5, 2) := by decide +kernel
theorem dd_Ref_endOf_11 : decode prog_14_method_25_code 11 = .ok (.lload_n 2, 1) := by decide +kernel
theorem dd_Ref_endOf_12 : decode prog_14_method_25_code 12 = .ok (.iconst 0, 1) := by decide +kernel
theorem dd_Ref_endOf_13 : decode prog_14_method_25_code 13 = .ok (.invokestatic 158, 3) := by decide +kernel
theorem dd_Ref_endOf_16 : decode prog_14_method_25_code 16 = .ok (.istore 6, 2) := by decide +kernel
theorem dd_Ref_endOf_18 : decode prog_14_method_25_code 18 = .ok (.iload 6, 2) := by decide +kernel
theorem dd_Ref_endOf_20 : decode prog_14_method_25_code 20 = .ok (.ifCond .ge 5, 3) := by decide +kernel
theorem dd_Ref_endOf_23 : decode prog_14_method_25_code 23 = .ok (.iconst (-1), 1) := by decide +kernel
theorem dd_Ref_endOf_24 : decode prog_14_method_25_code 24 = .ok (.ireturn, 1) := by decide +kernel
theorem dd_Ref_endOf_25 : decode prog_14_method_25_code 25 = .ok (.iload 6, 2) := by decide +kernel
theorem dd_Ref_endOf_27 : decode prog_14_method_25_code 27 = .ok (.ifCond .lt 64, 3) := by decide +kernel
theorem dd_Ref_endOf_30 : decode prog_14_method_25_code 30 = .ok (.aload_n 0, 1) := by decide +kernel
theorem dd_Ref_endOf_31 : decode prog_14_method_25_code 31 = .ok (.getfield 13, 3) := by decide +kernel
theorem dd_Ref_endOf_34 : decode prog_14_method_25_code 34 = .ok (.iload 4, 2) := by decide +kernel
theorem dd_Ref_endOf_36 : decode prog_14_method_25_code 36 = .ok (.iaload, 1) := by decide +kernel
theorem dd_Ref_endOf_37 : decode prog_14_method_25_code 37 = .ok (.iconst 4, 1) := by decide +kernel
theorem dd_Ref_endOf_38 : decode prog_14_method_25_code 38 = .ok (.if_icmp .ne 14, 3) := by decide +kernel
theorem dd_Ref_endOf_41 : decode prog_14_method_25_code 41 = .ok (.aload_n 0, 1) := by decide +kernel
theorem dd_Ref_endOf_42 : decode prog_14_method_25_code 42 = .ok (.iload 4, 2) := by decide +kernel
theorem dd_Ref_endOf_44 : decode prog_14_method_25_code 44 = .ok (.iload 6, 2) := by decide +kernel
theorem dd_Ref_endOf_46 : decode prog_14_method_25_code 46 = .ok (.invokevirtual 129, 3) := by decide +kernel
theorem dd_Ref_endOf_49 : decode prog_14_method_25_code 49 = .ok (.goto 4, 3) := by decide +kernel
theorem dd_Ref_endOf_52 : decode prog_14_method_25_code 52 = .ok (.iconst (-1), 1) := by decide +kernel
theorem dd_Ref_endOf_53 : decode prog_14_method_25_code 53 = .ok (.istore 7, 2) := by decide +kernel
theorem dd_Ref_endOf_55 : decode prog_14_method_25_code 55 = .ok (.iload 7, 2) := by decide +kernel
theorem dd_Ref_endOf_57 : decode prog_14_method_25_code 57 = .ok (.ifCond .ge 5, 3) := by decide +kernel
theorem dd_Ref_endOf_60 : decode prog_14_method_25_code 60 = .ok (.iconst (-1), 1) := by decide +kernel
theorem dd_Ref_endOf_61 : decode prog_14_method_25_code 61 = .ok (.ireturn, 1) := by decide +kernel
theorem dd_Ref_endOf_62 : decode prog_14_method_25_code 62 = .ok (.aload_n 0, 1) := by decide +kernel
theorem dd_Ref_endOf_63 : decode prog_14_method_25_code 63 = .ok (.getfield 23, 3) := by decide +kernel
theorem dd_Ref_endOf_66 : decode prog_14_method_25_code 66 = .ok (.bipush 8, 2) := by decide +kernel
theorem dd_Ref_endOf_68 : decode prog_14_method_25_code 68 = .ok (.iload 4, 2) := by decide +kernel
theorem dd_Ref_endOf_70 : decode prog_14_method_25_code 70 = .ok (.imul, 1) := by decide +kernel
theorem dd_Ref_endOf_71 : decode prog_14_method_25_code 71 = .ok (.iload 7, 2) := by decide +kernel
theorem dd_Ref_endOf_73 : decode prog_14_method_25_code 73 = .ok (.iadd, 1) := by decide +kernel
theorem dd_Ref_endOf_74 : decode prog_14_method_25_code 74 = .ok (.iaload, 1) := by decide +kernel
theorem dd_Ref_endOf_75 : decode prog_14_method_25_code 75 = .ok (.istore 4, 2) := by decide +kernel
theorem dd_Ref_endOf_77 : decode prog_14_method_25_code 77 = .ok (.iinc 5 1, 3) := by decide +kernel
theorem dd_Ref_endOf_80 : decode prog_14_method_25_code 80 = .ok (.lload_n 2, 1) := by decide +kernel
theorem dd_Ref_endOf_81 : decode prog_14_method_25_code 81 = .ok (.iload 5, 2) := by decide +kernel
theorem dd_Ref_endOf_83 : decode prog_14_method_25_code 83 = .ok (.invokestatic 158, 3) := by decide +kernel
theorem dd_Ref_endOf_86 : decode prog_14_method_25_code 86 = .ok (.istore 6, 2) := by decide +kernel
theorem dd_Ref_endOf_88 : decode prog_14_method_25_code 88 = .ok (.goto (-63), 3) := by decide +kernel
theorem dd_Ref_endOf_91 : decode prog_14_method_25_code 91 = .ok (.iload 4, 2) := by decide +kernel
theorem dd_Ref_endOf_93 : decode prog_14_method_25_code 93 = .ok (.ireturn, 1) := by decide +kernel
theorem dd_Ref_constantOf_0 : decode prog_14_method_26_code 0 = .ok (.aload_n 0, 1) := by decide +kernel
theorem dd_Ref_constantOf_1 : decode prog_14_method_26_code 1 = .ok (.getfield 29, 3) := by decide +kernel
theorem dd_Ref_constantOf_4 : decode prog_14_method_26_code 4 = .ok (.iload_n 1, 1) := by decide +kernel
theorem dd_Ref_constantOf_5 : decode prog_14_method_26_code 5 = .ok (.iaload, 1) := by decide +kernel
theorem dd_Ref_constantOf_6 : decode prog_14_method_26_code 6 = .ok (.istore_n 3, 1) := by decide +kernel
theorem dd_Ref_constantOf_7 : decode prog_14_method_26_code 7 = .ok (.aload_n 0, 1) := by decide +kernel
theorem dd_Ref_constantOf_8 : decode prog_14_method_26_code 8 = .ok (.getfield 32, 3) := by decide +kernel
theorem dd_Ref_constantOf_11 : decode prog_14_method_26_code 11 = .ok (.iload_n 1, 1) := by decide +kernel
theorem dd_Ref_constantOf_12 : decode prog_14_method_26_code 12 = .ok (.iaload, 1) := by decide +kernel
theorem dd_Ref_constantOf_13 : decode prog_14_method_26_code 13 = .ok (.istore 4, 2) := by decide +kernel
theorem dd_Ref_constantOf_15 : decode prog_14_method_26_code 15 = .ok (.aload_n 0, 1) := by decide +kernel
theorem dd_Ref_constantOf_16 : decode prog_14_method_26_code 16 = .ok (.getfield 20, 3) := by decide +kernel
theorem dd_Ref_constantOf_19 : decode prog_14_method_26_code 19 = .ok (.bipush 8, 2) := by decide +kernel
theorem dd_Ref_constantOf_21 : decode prog_14_method_26_code 21 = .ok (.iload_n 3, 1) := by decide +kernel
theorem dd_Ref_constantOf_22 : decode prog_14_method_26_code 22 = .ok (.imul, 1) := by decide +kernel
theorem dd_Ref_constantOf_23 : decode prog_14_method_26_code 23 = .ok (.iload_n 2, 1) := by decide +kernel
theorem dd_Ref_constantOf_24 : decode prog_14_method_26_code 24 = .ok (.iadd, 1) := by decide +kernel
theorem dd_Ref_constantOf_25 : decode prog_14_method_26_code 25 = .ok (.iaload, 1) := by decide +kernel
theorem dd_Ref_constantOf_26 : decode prog_14_method_26_code 26 = .ok (.istore 5, 2) := by decide +kernel
theorem dd_Ref_constantOf_28 : decode prog_14_method_26_code 28 = .ok (.aload_n 0, 1) := by decide +kernel
theorem dd_Ref_constantOf_29 : decode prog_14_method_26_code 29 = .ok (.iload_n 1, 1) := by decide +kernel
theorem dd_Ref_constantOf_30 : decode prog_14_method_26_code 30 = .ok (.iconst 5, 1) := by decide +kernel
theorem dd_Ref_constantOf_31 : decode prog_14_method_26_code 31 = .ok (.iload 5, 2) := by decide +kernel
theorem dd_Ref_constantOf_33 : decode prog_14_method_26_code 33 = .ok (.invokevirtual 151, 3) := by decide +kernel
theorem dd_Ref_constantOf_36 : decode prog_14_method_26_code 36 = .ok (.istore 6, 2) := by decide +kernel
theorem dd_Ref_constantOf_38 : decode prog_14_method_26_code 38 = .ok (.iload 6, 2) := by decide +kernel
theorem dd_Ref_constantOf_40 : decode prog_14_method_26_code 40 = .ok (.ifCond .lt 36, 3) := by decide +kernel
theorem dd_Ref_constantOf_43 : decode prog_14_method_26_code 43 = .ok (.aload_n 0, 1) := by decide +kernel
theorem dd_Ref_constantOf_44 : decode prog_14_method_26_code 44 = .ok (.getfield 44, 3) := by decide +kernel
theorem dd_Ref_constantOf_47 : decode prog_14_method_26_code 47 = .ok (.iload 6, 2) := by decide +kernel
theorem dd_Ref_constantOf_49 : decode prog_14_method_26_code 49 = .ok (.laload, 1) := by decide +kernel
theorem dd_Ref_constantOf_50 : decode prog_14_method_26_code 50 = .ok (.ldc2_w 166, 3) := by decide +kernel
theorem dd_Ref_constantOf_53 : decode prog_14_method_26_code 53 = .ok (.lcmp, 1) := by decide +kernel
theorem dd_Ref_constantOf_54 : decode prog_14_method_26_code 54 = .ok (.ifCond .ne 7, 3) := by decide +kernel
theorem dd_Ref_constantOf_57 : decode prog_14_method_26_code 57 = .ok (.iconst (-1), 1) := by decide +kernel
theorem dd_Ref_constantOf_58 : decode prog_14_method_26_code 58 = .ok (.goto 17, 3) := by decide +kernel
theorem dd_Ref_constantOf_61 : decode prog_14_method_26_code 61 = .ok (.aload_n 0, 1) := by decide +kernel
theorem dd_Ref_constantOf_62 : decode prog_14_method_26_code 62 = .ok (.iload 4, 2) := by decide +kernel
theorem dd_Ref_constantOf_64 : decode prog_14_method_26_code 64 = .ok (.aload_n 0, 1) := by decide +kernel
theorem dd_Ref_constantOf_65 : decode prog_14_method_26_code 65 = .ok (.getfield 44, 3) := by decide +kernel
theorem dd_Ref_constantOf_68 : decode prog_14_method_26_code 68 = .ok (.iload 6, 2) := by decide +kernel
theorem dd_Ref_constantOf_70 : decode prog_14_method_26_code 70 = .ok (.laload, 1) := by decide +kernel
theorem dd_Ref_constantOf_71 : decode prog_14_method_26_code 71 = .ok (.l2i, 1) := by decide +kernel
theorem dd_Ref_constantOf_72 : decode prog_14_method_26_code 72 = .ok (.invokevirtual 129, 3) := by decide +kernel
theorem dd_Ref_constantOf_75 : decode prog_14_method_26_code 75 = .ok (.ireturn, 1) := by decide +kernel
theorem dd_Ref_constantOf_76 : decode prog_14_method_26_code 76 = .ok (.aload_n 0, 1) := by decide +kernel
theorem dd_Ref_constantOf_77 : decode prog_14_method_26_code 77 = .ok (.iload_n 1, 1) := by decide +kernel
theorem dd_Ref_constantOf_78 : decode prog_14_method_26_code 78 = .ok (.invokevirtual 155, 3) := by decide +kernel
theorem dd_Ref_constantOf_81 : decode prog_14_method_26_code 81 = .ok (.istore 7, 2) := by decide +kernel
theorem dd_Ref_constantOf_83 : decode prog_14_method_26_code 83 = .ok (.iconst 0, 1) := by decide +kernel
theorem dd_Ref_constantOf_84 : decode prog_14_method_26_code 84 = .ok (.istore 8, 2) := by decide +kernel
theorem dd_Ref_constantOf_86 : decode prog_14_method_26_code 86 = .ok (.bipush 24, 2) := by decide +kernel
theorem dd_Ref_constantOf_88 : decode prog_14_method_26_code 88 = .ok (.iload 7, 2) := by decide +kernel
theorem dd_Ref_constantOf_90 : decode prog_14_method_26_code 90 = .ok (.ifCond .ge 7, 3) := by decide +kernel
theorem dd_Ref_constantOf_93 : decode prog_14_method_26_code 93 = .ok (.iconst 0, 1) := by decide +kernel
theorem dd_Ref_constantOf_94 : decode prog_14_method_26_code 94 = .ok (.goto 5, 3) := by decide +kernel
theorem dd_Ref_constantOf_97 : decode prog_14_method_26_code 97 = .ok (.iload 7, 2) := by decide +kernel
theorem dd_Ref_constantOf_99 : decode prog_14_method_26_code 99 = .ok (.imul, 1) := by decide +kernel
theorem dd_Ref_constantOf_100 : decode prog_14_method_26_code 100 = .ok (.istore 9, 2) := by decide +kernel
theorem dd_Ref_constantOf_102 : decode prog_14_method_26_code 102 = .ok (.iload 7, 2) := by decide +kernel
theorem dd_Ref_constantOf_104 : decode prog_14_method_26_code 104 = .ok (.ifCond .lt 99, 3) := by decide +kernel
theorem dd_Ref_constantOf_107 : decode prog_14_method_26_code 107 = .ok (.iload 9, 2) := by decide +kernel
theorem dd_Ref_constantOf_109 : decode prog_14_method_26_code 109 = .ok (.bipush 24, 2) := by decide +kernel
theorem dd_Ref_constantOf_111 : decode prog_14_method_26_code 111 = .ok (.iload 7, 2) := by decide +kernel
theorem dd_Ref_constantOf_113 : decode prog_14_method_26_code 113 = .ok (.imul, 1) := by decide +kernel
theorem dd_Ref_constantOf_114 : decode prog_14_method_26_code 114 = .ok (.aload_n 0, 1) := by decide +kernel
theorem dd_Ref_constantOf_115 : decode prog_14_method_26_code 115 = .ok (.getfield 35, 3) := by decide +kernel
theorem dd_Ref_constantOf_118 : decode prog_14_method_26_code 118 = .ok (.iload 7, 2) := by decide +kernel
theorem dd_Ref_constantOf_120 : decode prog_14_method_26_code 120 = .ok (.iaload, 1) := by decide +kernel
theorem dd_Ref_constantOf_121 : decode prog_14_method_26_code 121 = .ok (.iadd, 1) := by decide +kernel
theorem dd_Ref_constantOf_122 : decode prog_14_method_26_code 122 = .ok (.if_icmp .ge 81, 3) := by decide +kernel
theorem dd_Ref_constantOf_125 : decode prog_14_method_26_code 125 = .ok (.iload 8, 2) := by decide +kernel
theorem dd_Ref_constantOf_127 : decode prog_14_method_26_code 127 = .ok (.ifCond .ne 76, 3) := by decide +kernel
theorem dd_Ref_constantOf_130 : decode prog_14_method_26_code 130 = .ok (.aload_n 0, 1) := by decide +kernel
theorem dd_Ref_constantOf_131 : decode prog_14_method_26_code 131 = .ok (.getfield 38, 3) := by decide +kernel
theorem dd_Ref_constantOf_134 : decode prog_14_method_26_code 134 = .ok (.iload 9, 2) := by decide +kernel
theorem dd_Ref_constantOf_136 : decode prog_14_method_26_code 136 = .ok (.iaload, 1) := by decide +kernel
theorem dd_Ref_constantOf_137 : decode prog_14_method_26_code 137 = .ok (.iconst 5, 1) := by decide +kernel
theorem dd_Ref_constantOf_138 : decode prog_14_method_26_code 138 = .ok (.if_icmp .ne 21, 3) := by decide +kernel
theorem dd_Ref_constantOf_141 : decode prog_14_method_26_code 141 = .ok (.aload_n 0, 1) := by decide +kernel
theorem dd_Ref_constantOf_142 : decode prog_14_method_26_code 142 = .ok (.getfield 44, 3) := by decide +kernel
theorem dd_Ref_constantOf_145 : decode prog_14_method_26_code 145 = .ok (.iload 9, 2) := by decide +kernel
theorem dd_Ref_constantOf_147 : decode prog_14_method_26_code 147 = .ok (.laload, 1) := by decide +kernel
theorem dd_Ref_constantOf_148 : decode prog_14_method_26_code 148 = .ok (.iload 5, 2) := by decide +kernel
theorem dd_Ref_constantOf_150 : decode prog_14_method_26_code 150 = .ok (.i2l, 1) := by decide +kernel
theorem dd_Ref_constantOf_151 : decode prog_14_method_26_code 151 = .ok (.lcmp, 1) := by decide +kernel
theorem dd_Ref_constantOf_152 : decode prog_14_method_26_code 152 = .ok (.ifCond .ne 7, 3) := by decide +kernel
theorem dd_Ref_constantOf_155 : decode prog_14_method_26_code 155 = .ok (.iconst 1, 1) := by decide +kernel
theorem dd_Ref_constantOf_156 : decode prog_14_method_26_code 156 = .ok (.goto 4, 3) := by decide +kernel
theorem dd_Ref_constantOf_159 : decode prog_14_method_26_code 159 = .ok (.iconst 0, 1) := by decide +kernel
theorem dd_Ref_constantOf_160 : decode prog_14_method_26_code 160 = .ok (.istore 8, 2) := by decide +kernel
theorem dd_Ref_constantOf_162 : decode prog_14_method_26_code 162 = .ok (.iload 8, 2) := by decide +kernel
theorem dd_Ref_constantOf_164 : decode prog_14_method_26_code 164 = .ok (.ifCond .eq 33, 3) := by decide +kernel
theorem dd_Ref_constantOf_167 : decode prog_14_method_26_code 167 = .ok (.aload_n 0, 1) := by decide +kernel
theorem dd_Ref_constantOf_168 : decode prog_14_method_26_code 168 = .ok (.iload 4, 2) := by decide +kernel
theorem dd_Ref_constantOf_170 : decode prog_14_method_26_code 170 = .ok (.aload_n 0, 1) := by decide +kernel
theorem dd_Ref_constantOf_171 : decode prog_14_method_26_code 171 = .ok (.getfield 41, 3) := by decide +kernel
theorem dd_Ref_constantOf_174 : decode prog_14_method_26_code 174 = .ok (.iload 9, 2) := by decide +kernel
theorem dd_Ref_constantOf_176 : decode prog_14_method_26_code 176 = .ok (.iaload, 1) := by decide +kernel
theorem dd_Ref_constantOf_177 : decode prog_14_method_26_code 177 = .ok (.invokevirtual 129, 3) := by decide +kernel
theorem dd_Ref_constantOf_180 : decode prog_14_method_26_code 180 = .ok (.ifCond .lt 17, 3) := by decide +kernel
theorem dd_Ref_constantOf_183 : decode prog_14_method_26_code 183 = .ok (.aload_n 0, 1) := by decide +kernel
theorem dd_Ref_constantOf_184 : decode prog_14_method_26_code 184 = .ok (.iload 4, 2) := by decide +kernel
theorem dd_Ref_constantOf_186 : decode prog_14_method_26_code 186 = .ok (.aload_n 0, 1) := by decide +kernel
theorem dd_Ref_constantOf_187 : decode prog_14_method_26_code 187 = .ok (.getfield 41, 3) := by decide +kernel
theorem dd_Ref_constantOf_190 : decode prog_14_method_26_code 190 = .ok (.iload 9, 2) := by decide +kernel
theorem dd_Ref_constantOf_192 : decode prog_14_method_26_code 192 = .ok (.iaload, 1) := by decide +kernel
theorem dd_Ref_constantOf_193 : decode prog_14_method_26_code 193 = .ok (.invokevirtual 129, 3) := by decide +kernel
theorem dd_Ref_constantOf_196 : decode prog_14_method_26_code 196 = .ok (.ireturn, 1) := by decide +kernel
theorem dd_Ref_constantOf_197 : decode prog_14_method_26_code 197 = .ok (.iinc 9 1, 3) := by decide +kernel
theorem dd_Ref_constantOf_200 : decode prog_14_method_26_code 200 = .ok (.goto (-98), 3) := by decide +kernel
theorem dd_Ref_constantOf_203 : decode prog_14_method_26_code 203 = .ok (.aload_n 0, 1) := by decide +kernel
theorem dd_Ref_constantOf_204 : decode prog_14_method_26_code 204 = .ok (.iload 4, 2) := by decide +kernel
theorem dd_Ref_constantOf_206 : decode prog_14_method_26_code 206 = .ok (.iload 5, 2) := by decide +kernel
theorem dd_Ref_constantOf_208 : decode prog_14_method_26_code 208 = .ok (.invokevirtual 129, 3) := by decide +kernel
theorem dd_Ref_constantOf_211 : decode prog_14_method_26_code 211 = .ok (.ifCond .lt 12, 3) := by decide +kernel
theorem dd_Ref_constantOf_214 : decode prog_14_method_26_code 214 = .ok (.aload_n 0, 1) := by decide +kernel
theorem dd_Ref_constantOf_215 : decode prog_14_method_26_code 215 = .ok (.iload 4, 2) := by decide +kernel
theorem dd_Ref_constantOf_217 : decode prog_14_method_26_code 217 = .ok (.iload 5, 2) := by decide +kernel
theorem dd_Ref_constantOf_219 : decode prog_14_method_26_code 219 = .ok (.invokevirtual 129, 3) := by decide +kernel
theorem dd_Ref_constantOf_222 : decode prog_14_method_26_code 222 = .ok (.ireturn, 1) := by decide +kernel
theorem dd_Ref_constantOf_223 : decode prog_14_method_26_code 223 = .ok (.aload_n 0, 1) := by decide +kernel
theorem dd_Ref_constantOf_224 : decode prog_14_method_26_code 224 = .ok (.iload_n 1, 1) := by decide +kernel
theorem dd_Ref_constantOf_225 : decode prog_14_method_26_code 225 = .ok (.bipush 6, 2) := by decide +kernel
theorem dd_Ref_constantOf_227 : decode prog_14_method_26_code 227 = .ok (.invokevirtual 148, 3) := by decide +kernel
theorem dd_Ref_constantOf_230 : decode prog_14_method_26_code 230 = .ok (.istore 9, 2) := by decide +kernel
theorem dd_Ref_constantOf_232 : decode prog_14_method_26_code 232 = .ok (.iload 9, 2) := by decide +kernel
theorem dd_Ref_constantOf_234 : decode prog_14_method_26_code 234 = .ok (.ifCond .ge 8, 3) := by decide +kernel
theorem dd_Ref_constantOf_237 : decode prog_14_method_26_code 237 = .ok (.bipush (-3), 2) := by decide +kernel
theorem dd_Ref_constantOf_239 : decode prog_14_method_26_code 239 = .ok (.goto 54, 3) := by decide +kernel
theorem dd_Ref_constantOf_242 : decode prog_14_method_26_code 242 = .ok (.aload_n 0, 1) := by decide +kernel
theorem dd_Ref_constantOf_243 : decode prog_14_method_26_code 243 = .ok (.getfield 44, 3) := by decide +kernel
theorem dd_Ref_constantOf_246 : decode prog_14_method_26_code 246 = .ok (.iload 9, 2) := by decide +kernel
theorem dd_Ref_constantOf_248 : decode prog_14_method_26_code 248 = .ok (.laload, 1) := by decide +kernel
theorem dd_Ref_constantOf_249 : decode prog_14_method_26_code 249 = .ok (.ldc2_w 166, 3) := by decide +kernel
theorem dd_Ref_constantOf_252 : decode prog_14_method_26_code 252 = .ok (.lcmp, 1) := by decide +kernel
theorem dd_Ref_constantOf_253 : decode prog_14_method_26_code 253 = .ok (.ifCond .ne 7, 3) := by decide +kernel
theorem dd_Ref_constantOf_256 : decode prog_14_method_26_code 256 = .ok (.iconst (-1), 1) := by decide +kernel
theorem dd_Ref_constantOf_257 : decode prog_14_method_26_code 257 = .ok (.goto 36, 3) := by decide +kernel
theorem dd_Ref_constantOf_260 : decode prog_14_method_26_code 260 = .ok (.aload_n 0, 1) := by decide +kernel
theorem dd_Ref_constantOf_261 : decode prog_14_method_26_code 261 = .ok (.getfield 44, 3) := by decide +kernel
theorem dd_Ref_constantOf_264 : decode prog_14_method_26_code 264 = .ok (.iload 9, 2) := by decide +kernel
theorem dd_Ref_constantOf_266 : decode prog_14_method_26_code 266 = .ok (.laload, 1) := by decide +kernel
theorem dd_Ref_constantOf_267 : decode prog_14_method_26_code 267 = .ok (.ldc2_w 168, 3) := by decide +kernel
theorem dd_Ref_constantOf_270 : decode prog_14_method_26_code 270 = .ok (.lcmp, 1) := by decide +kernel
theorem dd_Ref_constantOf_271 : decode prog_14_method_26_code 271 = .ok (.ifCond .ne 8, 3) := by decide +kernel
theorem dd_Ref_constantOf_274 : decode prog_14_method_26_code 274 = .ok (.bipush (-2), 2) := by decide +kernel
theorem dd_Ref_constantOf_276 : decode prog_14_method_26_code 276 = .ok (.goto 17, 3) := by decide +kernel
theorem dd_Ref_constantOf_279 : decode prog_14_method_26_code 279 = .ok (.aload_n 0, 1) := by decide +kernel
theorem dd_Ref_constantOf_280 : decode prog_14_method_26_code 280 = .ok (.iload 4, 2) := by decide +kernel
theorem dd_Ref_constantOf_282 : decode prog_14_method_26_code 282 = .ok (.aload_n 0, 1) := by decide +kernel
theorem dd_Ref_constantOf_283 : decode prog_14_method_26_code 283 = .ok (.getfield 44, 3) := by decide +kernel
theorem dd_Ref_constantOf_286 : decode prog_14_method_26_code 286 = .ok (.iload 9, 2) := by decide +kernel
theorem dd_Ref_constantOf_288 : decode prog_14_method_26_code 288 = .ok (.laload, 1) := by decide +kernel
theorem dd_Ref_constantOf_289 : decode prog_14_method_26_code 289 = .ok (.l2i, 1) := by decide +kernel
theorem dd_Ref_constantOf_290 : decode prog_14_method_26_code 290 = .ok (.invokevirtual 129, 3) := by decide +kernel
theorem dd_Ref_constantOf_293 : decode prog_14_method_26_code 293 = .ok (.ireturn, 1) := by decide +kernel
theorem dd_Ref_converts_0 : decode prog_14_method_27_code 0 = .ok (.iload_n 1, 1) := by decide +kernel
theorem dd_Ref_converts_1 : decode prog_14_method_27_code 1 = .ok (.invokestatic 139, 3) := by decide +kernel
theorem dd_Ref_converts_4 : decode prog_14_method_27_code 4 = .ok (.ifCond .eq 43, 3) := by decide +kernel
theorem dd_Ref_converts_7 : decode prog_14_method_27_code 7 = .ok (.iload_n 2, 1) := by decide +kernel
theorem dd_Ref_converts_8 : decode prog_14_method_27_code 8 = .ok (.invokestatic 139, 3) := by decide +kernel
theorem dd_Ref_converts_11 : decode prog_14_method_27_code 11 = .ok (.ifCond .eq 36, 3) := by decide +kernel
theorem dd_Ref_converts_14 : decode prog_14_method_27_code 14 = .ok (.iload_n 1, 1) := by decide +kernel
theorem dd_Ref_converts_15 : decode prog_14_method_27_code 15 = .ok (.invokestatic 142, 3) := by decide +kernel
theorem dd_Ref_converts_18 : decode prog_14_method_27_code 18 = .ok (.iload_n 2, 1) := by decide +kernel
theorem dd_Ref_converts_19 : decode prog_14_method_27_code 19 = .ok (.invokestatic 142, 3) := by decide +kernel
theorem dd_Ref_converts_22 : decode prog_14_method_27_code 22 = .ok (.if_icmp .eq 19, 3) := by decide +kernel
theorem dd_Ref_converts_25 : decode prog_14_method_27_code 25 = .ok (.iload_n 1, 1) := by decide +kernel
theorem dd_Ref_converts_26 : decode prog_14_method_27_code 26 = .ok (.invokestatic 142, 3) := by decide +kernel
theorem dd_Ref_converts_29 : decode prog_14_method_27_code 29 = .ok (.iconst 5, 1) := by decide +kernel
theorem dd_Ref_converts_30 : decode prog_14_method_27_code 30 = .ok (.if_icmp .eq 15, 3) := by decide +kernel
theorem dd_Ref_converts_33 : decode prog_14_method_27_code 33 = .ok (.iload_n 2, 1) := by decide +kernel
theorem dd_Ref_converts_34 : decode prog_14_method_27_code 34 = .ok (.invokestatic 142, 3) := by decide +kernel
theorem dd_Ref_converts_37 : decode prog_14_method_27_code 37 = .ok (.iconst 5, 1) := by decide +kernel
theorem dd_Ref_converts_38 : decode prog_14_method_27_code 38 = .ok (.if_icmp .eq 7, 3) := by decide +kernel
theorem dd_Ref_converts_41 : decode prog_14_method_27_code 41 = .ok (.iconst 1, 1) := by decide +kernel
theorem dd_Ref_converts_42 : decode prog_14_method_27_code 42 = .ok (.goto 4, 3) := by decide +kernel
theorem dd_Ref_converts_45 : decode prog_14_method_27_code 45 = .ok (.iconst 0, 1) := by decide +kernel
theorem dd_Ref_converts_46 : decode prog_14_method_27_code 46 = .ok (.ireturn, 1) := by decide +kernel
theorem dd_Ref_converts_47 : decode prog_14_method_27_code 47 = .ok (.iload_n 1, 1) := by decide +kernel
theorem dd_Ref_converts_48 : decode prog_14_method_27_code 48 = .ok (.invokestatic 139, 3) := by decide +kernel
theorem dd_Ref_converts_51 : decode prog_14_method_27_code 51 = .ok (.ifCond .eq 9, 3) := by decide +kernel
theorem dd_Ref_converts_54 : decode prog_14_method_27_code 54 = .ok (.iload_n 2, 1) := by decide +kernel
theorem dd_Ref_converts_55 : decode prog_14_method_27_code 55 = .ok (.bipush 14, 2) := by decide +kernel
theorem dd_Ref_converts_57 : decode prog_14_method_27_code 57 = .ok (.if_icmp .eq 16, 3) := by decide +kernel
theorem dd_Ref_converts_60 : decode prog_14_method_27_code 60 = .ok (.iload_n 1, 1) := by decide +kernel
theorem dd_Ref_converts_61 : decode prog_14_method_27_code 61 = .ok (.bipush 14, 2) := by decide +kernel
theorem dd_Ref_converts_63 : decode prog_14_method_27_code 63 = .ok (.if_icmp .ne 35, 3) := by decide +kernel
theorem dd_Ref_converts_66 : decode prog_14_method_27_code 66 = .ok (.iload_n 2, 1) := by decide +kernel
theorem dd_Ref_converts_67 : decode prog_14_method_27_code 67 = .ok (.invokestatic 139, 3) := by decide +kernel
theorem dd_Ref_converts_70 : decode prog_14_method_27_code 70 = .ok (.ifCond .eq 28, 3) := by decide +kernel
theorem dd_Ref_converts_73 : decode prog_14_method_27_code 73 = .ok (.iload_n 1, 1) := by decide +kernel
theorem dd_Ref_converts_74 : decode prog_14_method_27_code 74 = .ok (.bipush 14, 2) := by decide +kernel
theorem dd_Ref_converts_76 : decode prog_14_method_27_code 76 = .ok (.if_icmp .ne 7, 3) := by decide +kernel
theorem dd_Ref_converts_79 : decode prog_14_method_27_code 79 = .ok (.iload_n 2, 1) := by decide +kernel
theorem dd_Ref_converts_80 : decode prog_14_method_27_code 80 = .ok (.goto 4, 3) := by decide +kernel
theorem dd_Ref_converts_83 : decode prog_14_method_27_code 83 = .ok (.iload_n 1, 1) := by decide +kernel
theorem dd_Ref_converts_84 : decode prog_14_method_27_code 84 = .ok (.invokestatic 142, 3) := by decide +kernel
theorem dd_Ref_converts_87 : decode prog_14_method_27_code 87 = .ok (.bipush 6, 2) := by decide +kernel
theorem dd_Ref_converts_89 : decode prog_14_method_27_code 89 = .ok (.if_icmp .eq 7, 3) := by decide +kernel
theorem dd_Ref_converts_92 : decode prog_14_method_27_code 92 = .ok (.iconst 1, 1) := by decide +kernel
theorem dd_Ref_converts_93 : decode prog_14_method_27_code 93 = .ok (.goto 4, 3) := by decide +kernel
theorem dd_Ref_converts_96 : decode prog_14_method_27_code 96 = .ok (.iconst 0, 1) := by decide +kernel
theorem dd_Ref_converts_97 : decode prog_14_method_27_code 97 = .ok (.ireturn, 1) := by decide +kernel
theorem dd_Ref_converts_98 : decode prog_14_method_27_code 98 = .ok (.iload_n 1, 1) := by decide +kernel
theorem dd_Ref_converts_99 : decode prog_14_method_27_code 99 = .ok (.bipush 14, 2) := by decide +kernel
theorem dd_Ref_converts_101 : decode prog_14_method_27_code 101 = .ok (.if_icmp .ne 12, 3) := by decide +kernel
theorem dd_Ref_converts_104 : decode prog_14_method_27_code 104 = .ok (.aload_n 0, 1) := by decide +kernel
theorem dd_Ref_converts_105 : decode prog_14_method_27_code 105 = .ok (.iload_n 2, 1) := by decide +kernel
theorem dd_Ref_converts_106 : decode prog_14_method_27_code 106 = .ok (.iconst 3, 1) := by decide +kernel
theorem dd_Ref_converts_107 : decode prog_14_method_27_code 107 = .ok (.invokevirtual 125, 3) := by decide +kernel
theorem dd_Ref_converts_110 : decode prog_14_method_27_code 110 = .ok (.ifCond .ne 18, 3) := by decide +kernel
theorem dd_Ref_converts_113 : decode prog_14_method_27_code 113 = .ok (.iload_n 2, 1) := by decide +kernel
theorem dd_Ref_converts_114 : decode prog_14_method_27_code 114 = .ok (.bipush 14, 2) := by decide +kernel
theorem dd_Ref_converts_116 : decode prog_14_method_27_code 116 = .ok (.if_icmp .ne 16, 3) := by decide +kernel
theorem dd_Ref_converts_119 : decode prog_14_method_27_code 119 = .ok (.aload_n 0, 1) := by decide +kernel
theorem dd_Ref_converts_120 : decode prog_14_method_27_code 120 = .ok (.iload_n 1, 1) := by decide +kernel
theorem dd_Ref_converts_121 : decode prog_14_method_27_code 121 = .ok (.iconst 3, 1) := by decide +kernel
theorem dd_Ref_converts_122 : decode prog_14_method_27_code 122 = .ok (.invokevirtual 125, 3) := by decide +kernel
theorem dd_Ref_converts_125 : decode prog_14_method_27_code 125 = .ok (.ifCond .eq 7, 3) := by decide +kernel
theorem dd_Ref_converts_128 : decode prog_14_method_27_code 128 = .ok (.iconst 1, 1) := by decide +kernel
theorem dd_Ref_converts_129 : decode prog_14_method_27_code 129 = .ok (.goto 4, 3) := by decide +kernel
theorem dd_Ref_converts_132 : decode prog_14_method_27_code 132 = .ok (.iconst 0, 1) := by decide +kernel
theorem dd_Ref_converts_133 : decode prog_14_method_27_code 133 = .ok (.ireturn, 1) := by decide +kernel
theorem dd_Ref_how_0 : decode prog_14_method_28_code 0 = .ok (.iload_n 1, 1) := by decide +kernel
theorem dd_Ref_how_1 : decode prog_14_method_28_code 1 = .ok (.istore_n 3, 1) := by decide +kernel
theorem dd_Ref_how_2 : decode prog_14_method_28_code 2 = .ok (.iload_n 2, 1) := by decide +kernel
theorem dd_Ref_how_3 : decode prog_14_method_28_code 3 = .ok (.istore 4, 2) := by decide +kernel
theorem dd_Ref_how_5 : decode prog_14_method_28_code 5 = .ok (.aload_n 0, 1) := by decide +kernel
theorem dd_Ref_how_6 : decode prog_14_method_28_code 6 = .ok (.iload_n 3, 1) := by decide +kernel
theorem dd_Ref_how_7 : decode prog_14_method_28_code 7 = .ok (.iload 4, 2) := by decide +kernel
theorem dd_Ref_how_9 : decode prog_14_method_28_code 9 = .ok (.invokevirtual 170, 3) := by decide +kernel
theorem dd_Ref_how_12 : decode prog_14_method_28_code 12 = .ok (.istore 5, 2) := by decide +kernel
theorem dd_Ref_how_14 : decode prog_14_method_28_code 14 = .ok (.iload 5, 2) := by decide +kernel
theorem dd_Ref_how_16 : decode prog_14_method_28_code 16 = .ok (.istore 6, 2) := by decide +kernel
theorem dd_Ref_how_18 : decode prog_14_method_28_code 18 = .ok (.iload 5, 2) := by decide +kernel
theorem dd_Ref_how_20 : decode prog_14_method_28_code 20 = .ok (.iconst 2, 1) := by decide +kernel
theorem dd_Ref_how_21 : decode prog_14_method_28_code 21 = .ok (.if_icmp .ne 31, 3) := by decide +kernel
theorem dd_Ref_how_24 : decode prog_14_method_28_code 24 = .ok (.aload_n 0, 1) := by decide +kernel
theorem dd_Ref_how_25 : decode prog_14_method_28_code 25 = .ok (.getfield 26, 3) := by decide +kernel
theorem dd_Ref_how_28 : decode prog_14_method_28_code 28 = .ok (.iload_n 3, 1) := by decide +kernel
theorem dd_Ref_how_29 : decode prog_14_method_28_code 29 = .ok (.iaload, 1) := by decide +kernel
theorem dd_Ref_how_30 : decode prog_14_method_28_code 30 = .ok (.istore_n 3, 1) := by decide +kernel
theorem dd_Ref_how_31 : decode prog_14_method_28_code 31 = .ok (.aload_n 0, 1) := by decide +kernel
theorem dd_Ref_how_32 : decode prog_14_method_28_code 32 = .ok (.getfield 26, 3) := by decide +kernel
theorem dd_Ref_how_35 : decode prog_14_method_28_code 35 = .ok (.iload 4, 2) := by decide +kernel
theorem dd_Ref_how_37 : decode prog_14_method_28_code 37 = .ok (.iaload, 1) := by decide +kernel
theorem dd_Ref_how_38 : decode prog_14_method_28_code 38 = .ok (.istore 4, 2) := by decide +kernel
theorem dd_Ref_how_40 : decode prog_14_method_28_code 40 = .ok (.aload_n 0, 1) := by decide +kernel
theorem dd_Ref_how_41 : decode prog_14_method_28_code 41 = .ok (.iload_n 3, 1) := by decide +kernel
theorem dd_Ref_how_42 : decode prog_14_method_28_code 42 = .ok (.iload 4, 2) := by decide +kernel
theorem dd_Ref_how_44 : decode prog_14_method_28_code 44 = .ok (.invokevirtual 170, 3) := by decide +kernel
theorem dd_Ref_how_47 : decode prog_14_method_28_code 47 = .ok (.istore 5, 2) := by decide +kernel
theorem dd_Ref_how_49 : decode prog_14_method_28_code 49 = .ok (.goto (-31), 3) := by decide +kernel
theorem dd_Ref_how_52 : decode prog_14_method_28_code 52 = .ok (.iload 5, 2) := by decide +kernel
theorem dd_Ref_how_54 : decode prog_14_method_28_code 54 = .ok (.ifCond .ge 8, 3) := by decide +kernel
theorem dd_Ref_how_57 : decode prog_14_method_28_code 57 = .ok (.iload 5, 2) := by decide +kernel
theorem dd_Ref_how_59 : decode prog_14_method_28_code 59 = .ok (.goto 5, 3) := by decide +kernel
theorem dd_Ref_how_62 : decode prog_14_method_28_code 62 = .ok (.iload 6, 2) := by decide +kernel
theorem dd_Ref_how_64 : decode prog_14_method_28_code 64 = .ok (.ireturn, 1) := by decide +kernel
theorem dd_Ref_one_0 : decode prog_14_method_29_code 0 = .ok (.iload_n 1, 1) := by decide +kernel
theorem dd_Ref_one_1 : decode prog_14_method_29_code 1 = .ok (.iload_n 2, 1) := by decide +kernel
theorem dd_Ref_one_2 : decode prog_14_method_29_code 2 = .ok (.if_icmp .ne 5, 3) := by decide +kernel
theorem dd_Ref_one_5 : decode prog_14_method_29_code 5 = .ok (.iconst 0, 1) := by decide +kernel
theorem dd_Ref_one_6 : decode prog_14_method_29_code 6 = .ok (.ireturn, 1) := by decide +kernel
theorem dd_Ref_one_7 : decode prog_14_method_29_code 7 = .ok (.aload_n 0, 1) := by decide +kernel
theorem dd_Ref_one_8 : decode prog_14_method_29_code 8 = .ok (.iload_n 1, 1) := by decide +kernel
theorem dd_Ref_one_9 : decode prog_14_method_29_code 9 = .ok (.iload_n 2, 1) := by decide +kernel
theorem dd_Ref_one_10 : decode prog_14_method_29_code 10 = .ok (.iconst 0, 1) := by decide +kernel
theorem dd_Ref_one_11 : decode prog_14_method_29_code 11 = .ok (.invokevirtual 173, 3) := by decide +kernel
theorem dd_Ref_one_14 : decode prog_14_method_29_code 14 = .ok (.istore_n 3, 1) := by decide +kernel
theorem dd_Ref_one_15 : decode prog_14_method_29_code 15 = .ok (.iload_n 3, 1) := by decide +kernel
theorem dd_Ref_one_16 : decode prog_14_method_29_code 16 = .ok (.iconst (-1), 1) := by decide +kernel
theorem dd_Ref_one_17 : decode prog_14_method_29_code 17 = .ok (.if_icmp .eq 5, 3) := by decide +kernel
theorem dd_Ref_one_20 : decode prog_14_method_29_code 20 = .ok (.iload_n 3, 1) := by decide +kernel
theorem dd_Ref_one_21 : decode prog_14_method_29_code 21 = .ok (.ireturn, 1) := by decide +kernel
theorem dd_Ref_one_22 : decode prog_14_method_29_code 22 = .ok (.iconst (-1), 1) := by decide +kernel
theorem dd_Ref_one_23 : decode prog_14_method_29_code 23 = .ok (.istore 4, 2) := by decide +kernel
theorem dd_Ref_one_25 : decode prog_14_method_29_code 25 = .ok (.iconst 0, 1) := by decide +kernel
theorem dd_Ref_one_26 : decode prog_14_method_29_code 26 = .ok (.istore 5, 2) := by decide +kernel
theorem dd_Ref_one_28 : decode prog_14_method_29_code 28 = .ok (.iload 5, 2) := by decide +kernel
theorem dd_Ref_one_30 : decode prog_14_method_29_code 30 = .ok (.aload_n 0, 1) := by decide +kernel
theorem dd_Ref_one_31 : decode prog_14_method_29_code 31 = .ok (.getfield 136, 3) := by decide +kernel
theorem dd_Ref_one_34 : decode prog_14_method_29_code 34 = .ok (.if_icmp .ge 67, 3) := by decide +kernel
theorem dd_Ref_one_37 : decode prog_14_method_29_code 37 = .ok (.aload_n 0, 1) := by decide +kernel
theorem dd_Ref_one_38 : decode prog_14_method_29_code 38 = .ok (.getfield 29, 3) := by decide +kernel
theorem dd_Ref_one_41 : decode prog_14_method_29_code 41 = .ok (.iload 5, 2) := by decide +kernel
theorem dd_Ref_one_43 : decode prog_14_method_29_code 43 = .ok (.iaload, 1) := by decide +kernel
theorem dd_Ref_one_44 : decode prog_14_method_29_code 44 = .ok (.iload_n 1, 1) := by decide +kernel
theorem dd_Ref_one_45 : decode prog_14_method_29_code 45 = .ok (.if_icmp .ne 18, 3) := by decide +kernel
theorem dd_Ref_one_48 : decode prog_14_method_29_code 48 = .ok (.aload_n 0, 1) := by decide +kernel
theorem dd_Ref_one_49 : decode prog_14_method_29_code 49 = .ok (.getfield 32, 3) := by decide +kernel
theorem dd_Ref_one_52 : decode prog_14_method_29_code 52 = .ok (.iload 5, 2) := by decide +kernel
theorem dd_Ref_one_54 : decode prog_14_method_29_code 54 = .ok (.iaload, 1) := by decide +kernel
theorem dd_Ref_one_55 : decode prog_14_method_29_code 55 = .ok (.iload_n 2, 1) := by decide +kernel
theorem dd_Ref_one_56 : decode prog_14_method_29_code 56 = .ok (.if_icmp .ne 7, 3) := by decide +kernel
theorem dd_Ref_one_59 : decode prog_14_method_29_code 59 = .ok (.iconst 1, 1) := by decide +kernel
theorem dd_Ref_one_60 : decode prog_14_method_29_code 60 = .ok (.goto 4, 3) := by decide +kernel
theorem dd_Ref_one_63 : decode prog_14_method_29_code 63 = .ok (.iconst 0, 1) := by decide +kernel
theorem dd_Ref_one_64 : decode prog_14_method_29_code 64 = .ok (.istore 6, 2) := by decide +kernel
theorem dd_Ref_one_66 : decode prog_14_method_29_code 66 = .ok (.iload 6, 2) := by decide +kernel
theorem dd_Ref_one_68 : decode prog_14_method_29_code 68 = .ok (.ifCond .ne 8, 3) := by decide +kernel
theorem dd_Ref_one_71 : decode prog_14_method_29_code 71 = .ok (.iload 4, 2) := by decide +kernel
theorem dd_Ref_one_73 : decode prog_14_method_29_code 73 = .ok (.goto 20, 3) := by decide +kernel
theorem dd_Ref_one_76 : decode prog_14_method_29_code 76 = .ok (.iload 4, 2) := by decide +kernel
theorem dd_Ref_one_78 : decode prog_14_method_29_code 78 = .ok (.iconst (-1), 1) := by decide +kernel
theorem dd_Ref_one_79 : decode prog_14_method_29_code 79 = .ok (.if_icmp .ne 12, 3) := by decide +kernel
theorem dd_Ref_one_82 : decode prog_14_method_29_code 82 = .ok (.sipush 200, 3) := by decide +kernel
theorem dd_Ref_one_85 : decode prog_14_method_29_code 85 = .ok (.iload 5, 2) := by decide +kernel
theorem dd_Ref_one_87 : decode prog_14_method_29_code 87 = .ok (.iadd, 1) := by decide +kernel
theorem dd_Ref_one_88 : decode prog_14_method_29_code 88 = .ok (.goto 5, 3) := by decide +kernel
theorem dd_Ref_one_91 : decode prog_14_method_29_code 91 = .ok (.bipush (-2), 2) := by decide +kernel
theorem dd_Ref_one_93 : decode prog_14_method_29_code 93 = .ok (.istore 4, 2) := by decide +kernel
theorem dd_Ref_one_95 : decode prog_14_method_29_code 95 = .ok (.iinc 5 1, 3) := by decide +kernel
theorem dd_Ref_one_98 : decode prog_14_method_29_code 98 = .ok (.goto (-70), 3) := by decide +kernel
theorem dd_Ref_one_101 : decode prog_14_method_29_code 101 = .ok (.iload 4, 2) := by decide +kernel
theorem dd_Ref_one_103 : decode prog_14_method_29_code 103 = .ok (.iconst (-1), 1) := by decide +kernel
theorem dd_Ref_one_104 : decode prog_14_method_29_code 104 = .ok (.if_icmp .eq 6, 3) := by decide +kernel
theorem dd_Ref_one_107 : decode prog_14_method_29_code 107 = .ok (.iload 4, 2) := by decide +kernel
theorem dd_Ref_one_109 : decode prog_14_method_29_code 109 = .ok (.ireturn, 1) := by decide +kernel
theorem dd_Ref_one_110 : decode prog_14_method_29_code 110 = .ok (.aload_n 0, 1) := by decide +kernel
theorem dd_Ref_one_111 : decode prog_14_method_29_code 111 = .ok (.iload_n 1, 1) := by decide +kernel
theorem dd_Ref_one_112 : decode prog_14_method_29_code 112 = .ok (.iload_n 2, 1) := by decide +kernel
theorem dd_Ref_one_113 : decode prog_14_method_29_code 113 = .ok (.invokevirtual 177, 3) := by decide +kernel
theorem dd_Ref_one_116 : decode prog_14_method_29_code 116 = .ok (.ifCond .eq 5, 3) := by decide +kernel
theorem dd_Ref_one_119 : decode prog_14_method_29_code 119 = .ok (.iconst 1, 1) := by decide +kernel
theorem dd_Ref_one_120 : decode prog_14_method_29_code 120 = .ok (.ireturn, 1) := by decide +kernel
theorem dd_Ref_one_121 : decode prog_14_method_29_code 121 = .ok (.aload_n 0, 1) := by decide +kernel
theorem dd_Ref_one_122 : decode prog_14_method_29_code 122 = .ok (.iload_n 1, 1) := by decide +kernel
theorem dd_Ref_one_123 : decode prog_14_method_29_code 123 = .ok (.iload_n 2, 1) := by decide +kernel
theorem dd_Ref_one_124 : decode prog_14_method_29_code 124 = .ok (.iconst 1, 1) := by decide +kernel
theorem dd_Ref_one_125 : decode prog_14_method_29_code 125 = .ok (.invokevirtual 173, 3) := by decide +kernel
theorem dd_Ref_one_128 : decode prog_14_method_29_code 128 = .ok (.istore_n 3, 1) := by decide +kernel
theorem dd_Ref_one_129 : decode prog_14_method_29_code 129 = .ok (.iload_n 3, 1) := by decide +kernel
theorem dd_Ref_one_130 : decode prog_14_method_29_code 130 = .ok (.iconst (-1), 1) := by decide +kernel
theorem dd_Ref_one_131 : decode prog_14_method_29_code 131 = .ok (.if_icmp .eq 7, 3) := by decide +kernel
theorem dd_Ref_one_134 : decode prog_14_method_29_code 134 = .ok (.iload_n 3, 1) := by decide +kernel
theorem dd_Ref_one_135 : decode prog_14_method_29_code 135 = .ok (.goto 28, 3) := by decide +kernel
theorem dd_Ref_one_138 : decode prog_14_method_29_code 138 = .ok (.aload_n 0, 1) := by decide +kernel
theorem dd_Ref_one_139 : decode prog_14_method_29_code 139 = .ok (.getfield 13, 3) := by decide +kernel
theorem dd_Ref_one_142 : decode prog_14_method_29_code 142 = .ok (.iload_n 1, 1) := by decide +kernel
theorem dd_Ref_one_143 : decode prog_14_method_29_code 143 = .ok (.iaload, 1) := by decide +kernel
theorem dd_Ref_one_144 : decode prog_14_method_29_code 144 = .ok (.iconst 5, 1) := by decide +kernel
theorem dd_Ref_one_145 : decode prog_14_method_29_code 145 = .ok (.if_icmp .ne 17, 3) := by decide +kernel
theorem dd_Ref_one_148 : decode prog_14_method_29_code 148 = .ok (.aload_n 0, 1) := by decide +kernel
theorem dd_Ref_one_149 : decode prog_14_method_29_code 149 = .ok (.getfield 13, 3) := by decide +kernel
theorem dd_Ref_one_152 : decode prog_14_method_29_code 152 = .ok (.iload_n 2, 1) := by decide +kernel
theorem dd_Ref_one_153 : decode prog_14_method_29_code 153 = .ok (.iaload, 1) := by decide +kernel
theorem dd_Ref_one_154 : decode prog_14_method_29_code 154 = .ok (.iconst 5, 1) := by decide +kernel
theorem dd_Ref_one_155 : decode prog_14_method_29_code 155 = .ok (.if_icmp .ne 7, 3) := by decide +kernel
theorem dd_Ref_one_158 : decode prog_14_method_29_code 158 = .ok (.iconst 2, 1) := by decide +kernel
theorem dd_Ref_one_159 : decode prog_14_method_29_code 159 = .ok (.goto 4, 3) := by decide +kernel
theorem dd_Ref_one_162 : decode prog_14_method_29_code 162 = .ok (.iconst (-1), 1) := by decide +kernel
theorem dd_Ref_one_163 : decode prog_14_method_29_code 163 = .ok (.ireturn, 1) := by decide +kernel
theorem dd_Ref_functionOf_0 : decode prog_14_method_30_code 0 = .ok (.iconst (-1), 1) := by decide +kernel
theorem dd_Ref_functionOf_1 : decode prog_14_method_30_code 1 = .ok (.istore 4, 2) := by decide +kernel
theorem dd_Ref_functionOf_3 : decode prog_14_method_30_code 3 = .ok (.iconst 0, 1) := by decide +kernel
theorem dd_Ref_functionOf_4 : decode prog_14_method_30_code 4 = .ok (.istore 5, 2) := by decide +kernel
theorem dd_Ref_functionOf_6 : decode prog_14_method_30_code 6 = .ok (.iload 5, 2) := by decide +kernel
theorem dd_Ref_functionOf_8 : decode prog_14_method_30_code 8 = .ok (.aload_n 0, 1) := by decide +kernel
theorem dd_Ref_functionOf_9 : decode prog_14_method_30_code 9 = .ok (.getfield 145, 3) := by decide +kernel
theorem dd_Ref_functionOf_12 : decode prog_14_method_30_code 12 = .ok (.if_icmp .ge 107, 3) := by decide +kernel
theorem dd_Ref_functionOf_15 : decode prog_14_method_30_code 15 = .ok (.aload_n 0, 1) := by decide +kernel
theorem dd_Ref_functionOf_16 : decode prog_14_method_30_code 16 = .ok (.getfield 51, 3) := by decide +kernel
theorem dd_Ref_functionOf_19 : decode prog_14_method_30_code 19 = .ok (.iload 5, 2) := by decide +kernel
theorem dd_Ref_functionOf_21 : decode prog_14_method_30_code 21 = .ok (.iaload, 1) := by decide +kernel
theorem dd_Ref_functionOf_22 : decode prog_14_method_30_code 22 = .ok (.iload_n 2, 1) := by decide +kernel
theorem dd_Ref_functionOf_23 : decode prog_14_method_30_code 23 = .ok (.if_icmp .ne 49, 3) := by decide +kernel
theorem dd_Ref_functionOf_26 : decode prog_14_method_30_code 26 = .ok (.aload_n 0, 1) := by decide +kernel
theorem dd_Ref_functionOf_27 : decode prog_14_method_30_code 27 = .ok (.iload 5, 2) := by decide +kernel
theorem dd_Ref_functionOf_29 : decode prog_14_method_30_code 29 = .ok (.invokevirtual 180, 3) := by decide +kernel
theorem dd_Ref_functionOf_32 : decode prog_14_method_30_code 32 = .ok (.ifCond .ne 40, 3) := by decide +kernel
theorem dd_Ref_functionOf_35 : decode prog_14_method_30_code 35 = .ok (.iload_n 3, 1) := by decide +kernel
theorem dd_Ref_functionOf_36 : decode prog_14_method_30_code 36 = .ok (.ifCond .eq 21, 3) := by decide +kernel
theorem dd_Ref_functionOf_39 : decode prog_14_method_30_code 39 = .ok (.aload_n 0, 1) := by decide +kernel
theorem dd_Ref_functionOf_40 : decode prog_14_method_30_code 40 = .ok (.iload_n 1, 1) := by decide +kernel
theorem dd_Ref_functionOf_41 : decode prog_14_method_30_code 41 = .ok (.aload_n 0, 1) := by decide +kernel
theorem dd_Ref_functionOf_42 : decode prog_14_method_30_code 42 = .ok (.getfield 48, 3) := by decide +kernel
theorem dd_Ref_functionOf_45 : decode prog_14_method_30_code 45 = .ok (.iload 5, 2) := by decide +kernel
theorem dd_Ref_functionOf_47 : decode prog_14_method_30_code 47 = .ok (.iaload, 1) := by decide +kernel
theorem dd_Ref_functionOf_48 : decode prog_14_method_30_code 48 = .ok (.invokevirtual 177, 3) := by decide +kernel
theorem dd_Ref_functionOf_51 : decode prog_14_method_30_code 51 = .ok (.ifCond .eq 21, 3) := by decide +kernel
theorem dd_Ref_functionOf_54 : decode prog_14_method_30_code 54 = .ok (.goto 14, 3) := by decide +kernel
theorem dd_Ref_functionOf_57 : decode prog_14_method_30_code 57 = .ok (.aload_n 0, 1) := by decide +kernel
theorem dd_Ref_functionOf_58 : decode prog_14_method_30_code 58 = .ok (.getfield 48, 3) := by decide +kernel
theorem dd_Ref_functionOf_61 : decode prog_14_method_30_code 61 = .ok (.iload 5, 2) := by decide +kernel
theorem dd_Ref_functionOf_63 : decode prog_14_method_30_code 63 = .ok (.iaload, 1) := by decide +kernel
theorem dd_Ref_functionOf_64 : decode prog_14_method_30_code 64 = .ok (.iload_n 1, 1) := by decide +kernel
theorem dd_Ref_functionOf_65 : decode prog_14_method_30_code 65 = .ok (.if_icmp .ne 7, 3) := by decide +kernel
theorem dd_Ref_functionOf_68 : decode prog_14_method_30_code 68 = .ok (.iconst 1, 1) := by decide +kernel
theorem dd_Ref_functionOf_69 : decode prog_14_method_30_code 69 = .ok (.goto 4, 3) := by decide +kernel
theorem dd_Ref_functionOf_72 : decode prog_14_method_30_code 72 = .ok (.iconst 0, 1) := by decide +kernel
theorem dd_Ref_functionOf_73 : decode prog_14_method_30_code 73 = .ok (.istore 6, 2) := by decide +kernel
theorem dd_Ref_functionOf_75 : decode prog_14_method_30_code 75 = .ok (.iload 6, 2) := by decide +kernel
theorem dd_Ref_functionOf_77 : decode prog_14_method_30_code 77 = .ok (.ifCond .ne 8, 3) := by decide +kernel
theorem dd_Ref_functionOf_80 : decode prog_14_method_30_code 80 = .ok (.iload 4, 2) := by decide +kernel
theorem dd_Ref_functionOf_82 : decode prog_14_method_30_code 82 = .ok (.goto 29, 3) := by decide +kernel
theorem dd_Ref_functionOf_85 : decode prog_14_method_30_code 85 = .ok (.iload 4, 2) := by decide +kernel
theorem dd_Ref_functionOf_87 : decode prog_14_method_30_code 87 = .ok (.iconst (-1), 1) := by decide +kernel
theorem dd_Ref_functionOf_88 : decode prog_14_method_30_code 88 = .ok (.if_icmp .ne 21, 3) := by decide +kernel
theorem dd_Ref_functionOf_91 : decode prog_14_method_30_code 91 = .ok (.iload_n 3, 1) := by decide +kernel
theorem dd_Ref_functionOf_92 : decode prog_14_method_30_code 92 = .ok (.ifCond .eq 9, 3) := by decide +kernel
theorem dd_Ref_functionOf_95 : decode prog_14_method_30_code 95 = .ok (.sipush 300, 3) := by decide +kernel
theorem dd_Ref_functionOf_98 : decode prog_14_method_30_code 98 = .ok (.goto 5, 3) := by decide +kernel
theorem dd_Ref_functionOf_101 : decode prog_14_method_30_code 101 = .ok (.bipush 100, 2) := by decide +kernel
theorem dd_Ref_functionOf_103 : decode prog_14_method_30_code 103 = .ok (.iload 5, 2) := by decide +kernel
theorem dd_Ref_functionOf_105 : decode prog_14_method_30_code 105 = .ok (.iadd, 1) := by decide +kernel
theorem dd_Ref_functionOf_106 : decode prog_14_method_30_code 106 = .ok (.goto 5, 3) := by decide +kernel
theorem dd_Ref_functionOf_109 : decode prog_14_method_30_code 109 = .ok (.bipush (-2), 2) := by decide +kernel
theorem dd_Ref_functionOf_111 : decode prog_14_method_30_code 111 = .ok (.istore 4, 2) := by decide +kernel
theorem dd_Ref_functionOf_113 : decode prog_14_method_30_code 113 = .ok (.iinc 5 1, 3) := by decide +kernel
theorem dd_Ref_functionOf_116 : decode prog_14_method_30_code 116 = .ok (.goto (-110), 3) := by decide +kernel
theorem dd_Ref_functionOf_119 : decode prog_14_method_30_code 119 = .ok (.iload 4, 2) := by decide +kernel
theorem dd_Ref_functionOf_121 : decode prog_14_method_30_code 121 = .ok (.ireturn, 1) := by decide +kernel
theorem dd_Ref_faulty_0 : decode prog_14_method_31_code 0 = .ok (.aload_n 0, 1) := by decide +kernel
theorem dd_Ref_faulty_1 : decode prog_14_method_31_code 1 = .ok (.iload_n 1, 1) := by decide +kernel
theorem dd_Ref_faulty_2 : decode prog_14_method_31_code 2 = .ok (.putfield 183, 3) := by decide +kernel
theorem dd_Ref_faulty_5 : decode prog_14_method_31_code 5 = .ok (.aload_n 0, 1) := by decide +kernel
theorem dd_Ref_faulty_6 : decode prog_14_method_31_code 6 = .ok (.iload_n 2, 1) := by decide +kernel
theorem dd_Ref_faulty_7 : decode prog_14_method_31_code 7 = .ok (.putfield 60, 3) := by decide +kernel
theorem dd_Ref_faulty_10 : decode prog_14_method_31_code 10 = .ok (.aload_n 0, 1) := by decide +kernel
theorem dd_Ref_faulty_11 : decode prog_14_method_31_code 11 = .ok (.iload_n 3, 1) := by decide +kernel
theorem dd_Ref_faulty_12 : decode prog_14_method_31_code 12 = .ok (.putfield 63, 3) := by decide +kernel
theorem dd_Ref_faulty_15 : decode prog_14_method_31_code 15 = .ok (.iconst 1, 1) := by decide +kernel
theorem dd_Ref_faulty_16 : decode prog_14_method_31_code 16 = .ok (.ireturn, 1) := by decide +kernel
theorem dd_Ref_isWrongInverse_0 : decode prog_14_method_32_code 0 = .ok (.aload_n 0, 1) := by decide +kernel
theorem dd_Ref_isWrongInverse_1 : decode prog_14_method_32_code 1 = .ok (.iload_n 1, 1) := by decide +kernel
theorem dd_Ref_isWrongInverse_2 : decode prog_14_method_32_code 2 = .ok (.bipush 7, 2) := by decide +kernel
theorem dd_Ref_isWrongInverse_4 : decode prog_14_method_32_code 4 = .ok (.invokevirtual 148, 3) := by decide +kernel
theorem dd_Ref_isWrongInverse_7 : decode prog_14_method_32_code 7 = .ok (.istore_n 2, 1) := by decide +kernel
theorem dd_Ref_isWrongInverse_8 : decode prog_14_method_32_code 8 = .ok (.iload_n 2, 1) := by decide +kernel
theorem dd_Ref_isWrongInverse_9 : decode prog_14_method_32_code 9 = .ok (.ifCond .ge 5, 3) := by decide +kernel
theorem dd_Ref_isWrongInverse_12 : decode prog_14_method_32_code 12 = .ok (.iconst 0, 1) := by decide +kernel
theorem dd_Ref_isWrongInverse_13 : decode prog_14_method_32_code 13 = .ok (.ireturn, 1) := by decide +kernel
theorem dd_Ref_isWrongInverse_14 : decode prog_14_method_32_code 14 = .ok (.aload_n 0, 1) := by decide +kernel
theorem dd_Ref_isWrongInverse_15 : decode prog_14_method_32_code 15 = .ok (.getfield 44, 3) := by decide +kernel
theorem dd_Ref_isWrongInverse_18 : decode prog_14_method_32_code 18 = .ok (.iload_n 2, 1) := by decide +kernel
theorem dd_Ref_isWrongInverse_19 : decode prog_14_method_32_code 19 = .ok (.laload, 1) := by decide +kernel
theorem dd_Ref_isWrongInverse_20 : decode prog_14_method_32_code 20 = .ok (.lstore_n 3, 1) := by decide +kernel
theorem dd_Ref_isWrongInverse_21 : decode prog_14_method_32_code 21 = .ok (.lload_n 3, 1) := by decide +kernel
theorem dd_Ref_isWrongInverse_22 : decode prog_14_method_32_code 22 = .ok (.lconst 0, 1) := by decide +kernel
theorem dd_Ref_isWrongInverse_23 : decode prog_14_method_32_code 23 = .ok (.lcmp, 1) := by decide +kernel
theorem dd_Ref_isWrongInverse_24 : decode prog_14_method_32_code 24 = .ok (.ifCond .lt 13, 3) := by decide +kernel
theorem dd_Ref_isWrongInverse_27 : decode prog_14_method_32_code 27 = .ok (.lload_n 3, 1) := by decide +kernel
theorem dd_Ref_isWrongInverse_28 : decode prog_14_method_32_code 28 = .ok (.aload_n 0, 1) := by decide +kernel
theorem dd_Ref_isWrongInverse_29 : decode prog_14_method_32_code 29 = .ok (.getfield 136, 3) := by decide +kernel
theorem dd_Ref_isWrongInverse_32 : decode prog_14_method_32_code 32 = .ok (.i2l, 1) := by decide +kernel
theorem dd_Ref_isWrongInverse_33 : decode prog_14_method_32_code 33 = .ok (.lcmp, 1) := by decide +kernel
theorem dd_Ref_isWrongInverse_34 : decode prog_14_method_32_code 34 = .ok (.ifCond .lt 5, 3) := by decide +kernel
theorem dd_Ref_isWrongInverse_37 : decode prog_14_method_32_code 37 = .ok (.iconst 1, 1) := by decide +kernel
theorem dd_Ref_isWrongInverse_38 : decode prog_14_method_32_code 38 = .ok (.ireturn, 1) := by decide +kernel
theorem dd_Ref_isWrongInverse_39 : decode prog_14_method_32_code 39 = .ok (.lload_n 3, 1) := by decide +kernel
theorem dd_Ref_isWrongInverse_40 : decode prog_14_method_32_code 40 = .ok (.l2i, 1) := by decide +kernel
theorem dd_Ref_isWrongInverse_41 : decode prog_14_method_32_code 41 = .ok (.istore 5, 2) := by decide +kernel
theorem dd_Ref_isWrongInverse_43 : decode prog_14_method_32_code 43 = .ok (.aload_n 0, 1) := by decide +kernel
theorem dd_Ref_isWrongInverse_44 : decode prog_14_method_32_code 44 = .ok (.getfield 29, 3) := by decide +kernel
theorem dd_Ref_isWrongInverse_47 : decode prog_14_method_32_code 47 = .ok (.iload 5, 2) := by decide +kernel
theorem dd_Ref_isWrongInverse_49 : decode prog_14_method_32_code 49 = .ok (.iaload, 1) := by decide +kernel
theorem dd_Ref_isWrongInverse_50 : decode prog_14_method_32_code 50 = .ok (.aload_n 0, 1) := by decide +kernel
theorem dd_Ref_isWrongInverse_51 : decode prog_14_method_32_code 51 = .ok (.getfield 32, 3) := by decide +kernel
theorem dd_Ref_isWrongInverse_54 : decode prog_14_method_32_code 54 = .ok (.iload_n 1, 1) := by decide +kernel
theorem dd_Ref_isWrongInverse_55 : decode prog_14_method_32_code 55 = .ok (.iaload, 1) := by decide +kernel
theorem dd_Ref_isWrongInverse_56 : decode prog_14_method_32_code 56 = .ok (.if_icmp .ne 30, 3) := by decide +kernel
theorem dd_Ref_isWrongInverse_59 : decode prog_14_method_32_code 59 = .ok (.aload_n 0, 1) := by decide +kernel
theorem dd_Ref_isWrongInverse_60 : decode prog_14_method_32_code 60 = .ok (.getfield 32, 3) := by decide +kernel
theorem dd_Ref_isWrongInverse_63 : decode prog_14_method_32_code 63 = .ok (.iload 5, 2) := by decide +kernel
theorem dd_Ref_isWrongInverse_65 : decode prog_14_method_32_code 65 = .ok (.iaload, 1) := by decide +kernel
theorem dd_Ref_isWrongInverse_66 : decode prog_14_method_32_code 66 = .ok (.aload_n 0, 1) := by decide +kernel
theorem dd_Ref_isWrongInverse_67 : decode prog_14_method_32_code 67 = .ok (.getfield 29, 3) := by decide +kernel
theorem dd_Ref_isWrongInverse_70 : decode prog_14_method_32_code 70 = .ok (.iload_n 1, 1) := by decide +kernel
theorem dd_Ref_isWrongInverse_71 : decode prog_14_method_32_code 71 = .ok (.iaload, 1) := by decide +kernel
theorem dd_Ref_isWrongInverse_72 : decode prog_14_method_32_code 72 = .ok (.if_icmp .ne 14, 3) := by decide +kernel
theorem dd_Ref_isWrongInverse_75 : decode prog_14_method_32_code 75 = .ok (.aload_n 0, 1) := by decide +kernel
theorem dd_Ref_isWrongInverse_76 : decode prog_14_method_32_code 76 = .ok (.iload 5, 2) := by decide +kernel
theorem dd_Ref_isWrongInverse_78 : decode prog_14_method_32_code 78 = .ok (.bipush 7, 2) := by decide +kernel
theorem dd_Ref_isWrongInverse_80 : decode prog_14_method_32_code 80 = .ok (.invokevirtual 148, 3) := by decide +kernel
theorem dd_Ref_isWrongInverse_83 : decode prog_14_method_32_code 83 = .ok (.ifCond .lt 7, 3) := by decide +kernel
theorem dd_Ref_isWrongInverse_86 : decode prog_14_method_32_code 86 = .ok (.iconst 1, 1) := by decide +kernel
theorem dd_Ref_isWrongInverse_87 : decode prog_14_method_32_code 87 = .ok (.goto 4, 3) := by decide +kernel
theorem dd_Ref_isWrongInverse_90 : decode prog_14_method_32_code 90 = .ok (.iconst 0, 1) := by decide +kernel
theorem dd_Ref_isWrongInverse_91 : decode prog_14_method_32_code 91 = .ok (.ireturn, 1) := by decide +kernel
theorem dd_Ref_wrong_0 : decode prog_14_method_33_code 0 = .ok (.aload_n 0, 1) := by decide +kernel
theorem dd_Ref_wrong_1 : decode prog_14_method_33_code 1 = .ok (.getfield 38, 3) := by decide +kernel
theorem dd_Ref_wrong_4 : decode prog_14_method_33_code 4 = .ok (.iload_n 2, 1) := by decide +kernel
theorem dd_Ref_wrong_5 : decode prog_14_method_33_code 5 = .ok (.iaload, 1) := by decide +kernel
theorem dd_Ref_wrong_6 : decode prog_14_method_33_code 6 = .ok (.istore_n 3, 1) := by decide +kernel
theorem dd_Ref_wrong_7 : decode prog_14_method_33_code 7 = .ok (.aload_n 0, 1) := by decide +kernel
theorem dd_Ref_wrong_8 : decode prog_14_method_33_code 8 = .ok (.getfield 13, 3) := by decide +kernel
theorem dd_Ref_wrong_11 : decode prog_14_method_33_code 11 = .ok (.aload_n 0, 1) := by decide +kernel
theorem dd_Ref_wrong_12 : decode prog_14_method_33_code 12 = .ok (.getfield 32, 3) := by decide +kernel
theorem dd_Ref_wrong_15 : decode prog_14_method_33_code 15 = .ok (.iload_n 1, 1) := by decide +kernel
theorem dd_Ref_wrong_16 : decode prog_14_method_33_code 16 = .ok (.iaload, 1) := by decide +kernel
theorem dd_Ref_wrong_17 : decode prog_14_method_33_code 17 = .ok (.iaload, 1) := by decide +kernel
theorem dd_Ref_wrong_18 : decode prog_14_method_33_code 18 = .ok (.iconst 4, 1) := by decide +kernel
theorem dd_Ref_wrong_19 : decode prog_14_method_33_code 19 = .ok (.if_icmp .ne 7, 3) := by decide +kernel
theorem dd_Ref_wrong_22 : decode prog_14_method_33_code 22 = .ok (.iconst 1, 1) := by decide +kernel
theorem dd_Ref_wrong_23 : decode prog_14_method_33_code 23 = .ok (.goto 4, 3) := by decide +kernel
theorem dd_Ref_wrong_26 : decode prog_14_method_33_code 26 = .ok (.iconst 0, 1) := by decide +kernel
theorem dd_Ref_wrong_27 : decode prog_14_method_33_code 27 = .ok (.istore 4, 2) := by decide +kernel
theorem dd_Ref_wrong_29 : decode prog_14_method_33_code 29 = .ok (.bipush 24, 2) := by decide +kernel
theorem dd_Ref_wrong_31 : decode prog_14_method_33_code 31 = .ok (.iload_n 1, 1) := by decide +kernel
theorem dd_Ref_wrong_32 : decode prog_14_method_33_code 32 = .ok (.imul, 1) := by decide +kernel
theorem dd_Ref_wrong_33 : decode prog_14_method_33_code 33 = .ok (.istore 5, 2) := by decide +kernel
theorem dd_Ref_wrong_35 : decode prog_14_method_33_code 35 = .ok (.iload 5, 2) := by decide +kernel
theorem dd_Ref_wrong_37 : decode prog_14_method_33_code 37 = .ok (.iload_n 2, 1) := by decide +kernel
theorem dd_Ref_wrong_38 : decode prog_14_method_33_code 38 = .ok (.if_icmp .ge 72, 3) := by decide +kernel
theorem dd_Ref_wrong_41 : decode prog_14_method_33_code 41 = .ok (.iload_n 3, 1) := by decide +kernel
theorem dd_Ref_wrong_42 : decode prog_14_method_33_code 42 = .ok (.bipush 6, 2) := by decide +kernel
theorem dd_Ref_wrong_44 : decode prog_14_method_33_code 44 = .ok (.if_icmp .ge 66, 3) := by decide +kernel
theorem dd_Ref_wrong_47 : decode prog_14_method_33_code 47 = .ok (.aload_n 0, 1) := by decide +kernel
theorem dd_Ref_wrong_48 : decode prog_14_method_33_code 48 = .ok (.getfield 38, 3) := by decide +kernel
theorem dd_Ref_wrong_51 : decode prog_14_method_33_code 51 = .ok (.iload 5, 2) := by decide +kernel
theorem dd_Ref_wrong_53 : decode prog_14_method_33_code 53 = .ok (.iaload, 1) := by decide +kernel
theorem dd_Ref_wrong_54 : decode prog_14_method_33_code 54 = .ok (.iload_n 3, 1) := by decide +kernel
theorem dd_Ref_wrong_55 : decode prog_14_method_33_code 55 = .ok (.if_icmp .eq 19, 3) := by decide +kernel
theorem dd_Ref_wrong_58 : decode prog_14_method_33_code 58 = .ok (.aload_n 0, 1) := by decide +kernel
theorem dd_Ref_wrong_59 : decode prog_14_method_33_code 59 = .ok (.getfield 38, 3) := by decide +kernel
theorem dd_Ref_wrong_62 : decode prog_14_method_33_code 62 = .ok (.iload 5, 2) := by decide +kernel
theorem dd_Ref_wrong_64 : decode prog_14_method_33_code 64 = .ok (.iaload, 1) := by decide +kernel
theorem dd_Ref_wrong_65 : decode prog_14_method_33_code 65 = .ok (.iconst 3, 1) := by decide +kernel
theorem dd_Ref_wrong_66 : decode prog_14_method_33_code 66 = .ok (.if_icmp .ge 12, 3) := by decide +kernel
theorem dd_Ref_wrong_69 : decode prog_14_method_33_code 69 = .ok (.iload_n 3, 1) := by decide +kernel
theorem dd_Ref_wrong_70 : decode prog_14_method_33_code 70 = .ok (.iconst 3, 1) := by decide +kernel
theorem dd_Ref_wrong_71 : decode prog_14_method_33_code 71 = .ok (.if_icmp .ge 7, 3) := by decide +kernel
theorem dd_Ref_wrong_74 : decode prog_14_method_33_code 74 = .ok (.iconst 1, 1) := by decide +kernel
theorem dd_Ref_wrong_75 : decode prog_14_method_33_code 75 = .ok (.goto 4, 3) := by decide +kernel
theorem dd_Ref_wrong_78 : decode prog_14_method_33_code 78 = .ok (.iconst 0, 1) := by decide +kernel
theorem dd_Ref_wrong_79 : decode prog_14_method_33_code 79 = .ok (.istore 6, 2) := by decide +kernel
theorem dd_Ref_wrong_81 : decode prog_14_method_33_code 81 = .ok (.iload 6, 2) := by decide +kernel
theorem dd_Ref_wrong_83 : decode prog_14_method_33_code 83 = .ok (.ifCond .eq 21, 3) := by decide +kernel
theorem dd_Ref_wrong_86 : decode prog_14_method_33_code 86 = .ok (.aload_n 0, 1) := by decide +kernel
theorem dd_Ref_wrong_87 : decode prog_14_method_33_code 87 = .ok (.getfield 41, 3) := by decide +kernel
theorem dd_Ref_wrong_90 : decode prog_14_method_33_code 90 = .ok (.iload 5, 2) := by decide +kernel
theorem dd_Ref_wrong_92 : decode prog_14_method_33_code 92 = .ok (.iaload, 1) := by decide +kernel
theorem dd_Ref_wrong_93 : decode prog_14_method_33_code 93 = .ok (.aload_n 0, 1) := by decide +kernel
theorem dd_Ref_wrong_94 : decode prog_14_method_33_code 94 = .ok (.getfield 41, 3) := by decide +kernel
theorem dd_Ref_wrong_97 : decode prog_14_method_33_code 97 = .ok (.iload_n 2, 1) := by decide +kernel
theorem dd_Ref_wrong_98 : decode prog_14_method_33_code 98 = .ok (.iaload, 1) := by decide +kernel
theorem dd_Ref_wrong_99 : decode prog_14_method_33_code 99 = .ok (.if_icmp .ne 5, 3) := by decide +kernel
theorem dd_Ref_wrong_102 : decode prog_14_method_33_code 102 = .ok (.iconst 2, 1) := by decide +kernel
theorem dd_Ref_wrong_103 : decode prog_14_method_33_code 103 = .ok (.ireturn, 1) := by decide +kernel
theorem dd_Ref_wrong_104 : decode prog_14_method_33_code 104 = .ok (.iinc 5 1, 3) := by decide +kernel
theorem dd_Ref_wrong_107 : decode prog_14_method_33_code 107 = .ok (.goto (-72), 3) := by decide +kernel
theorem dd_Ref_wrong_110 : decode prog_14_method_33_code 110 = .ok (.iload_n 3, 1) := by decide +kernel
theorem dd_Ref_wrong_111 : decode prog_14_method_33_code 111 = .ok (.iconst 5, 1) := by decide +kernel
theorem dd_Ref_wrong_112 : decode prog_14_method_33_code 112 = .ok (.if_icmp .ge 27, 3) := by decide +kernel
theorem dd_Ref_wrong_115 : decode prog_14_method_33_code 115 = .ok (.iload 4, 2) := by decide +kernel
theorem dd_Ref_wrong_117 : decode prog_14_method_33_code 117 = .ok (.ifCond .eq 51, 3) := by decide +kernel
theorem dd_Ref_wrong_120 : decode prog_14_method_33_code 120 = .ok (.aload_n 0, 1) := by decide +kernel
theorem dd_Ref_wrong_121 : decode prog_14_method_33_code 121 = .ok (.aload_n 0, 1) := by decide +kernel
theorem dd_Ref_wrong_122 : decode prog_14_method_33_code 122 = .ok (.getfield 32, 3) := by decide +kernel
theorem dd_Ref_wrong_125 : decode prog_14_method_33_code 125 = .ok (.iload_n 1, 1) := by decide +kernel
theorem dd_Ref_wrong_126 : decode prog_14_method_33_code 126 = .ok (.iaload, 1) := by decide +kernel
theorem dd_Ref_wrong_127 : decode prog_14_method_33_code 127 = .ok (.aload_n 0, 1) := by decide +kernel
theorem dd_Ref_wrong_128 : decode prog_14_method_33_code 128 = .ok (.getfield 41, 3) := by decide +kernel
theorem dd_Ref_wrong_131 : decode prog_14_method_33_code 131 = .ok (.iload_n 2, 1) := by decide +kernel
theorem dd_Ref_wrong_132 : decode prog_14_method_33_code 132 = .ok (.iaload, 1) := by decide +kernel
theorem dd_Ref_wrong_133 : decode prog_14_method_33_code 133 = .ok (.invokevirtual 129, 3) := by decide +kernel
theorem dd_Ref_wrong_136 : decode prog_14_method_33_code 136 = .ok (.ifCond .lt 32, 3) := by decide +kernel
theorem dd_Ref_wrong_139 : decode prog_14_method_33_code 139 = .ok (.iload_n 3, 1) := by decide +kernel
theorem dd_Ref_wrong_140 : decode prog_14_method_33_code 140 = .ok (.iconst 5, 1) := by decide +kernel
theorem dd_Ref_wrong_141 : decode prog_14_method_33_code 141 = .ok (.if_icmp .ne 29, 3) := by decide +kernel
theorem dd_Ref_wrong_144 : decode prog_14_method_33_code 144 = .ok (.iload 4, 2) := by decide +kernel
theorem dd_Ref_wrong_146 : decode prog_14_method_33_code 146 = .ok (.ifCond .ne 22, 3) := by decide +kernel
theorem dd_Ref_wrong_149 : decode prog_14_method_33_code 149 = .ok (.aload_n 0, 1) := by decide +kernel
theorem dd_Ref_wrong_150 : decode prog_14_method_33_code 150 = .ok (.aload_n 0, 1) := by decide +kernel
theorem dd_Ref_wrong_151 : decode prog_14_method_33_code 151 = .ok (.getfield 29, 3) := by decide +kernel
theorem dd_Ref_wrong_154 : decode prog_14_method_33_code 154 = .ok (.iload_n 1, 1) := by decide +kernel
theorem dd_Ref_wrong_155 : decode prog_14_method_33_code 155 = .ok (.iaload, 1) := by decide +kernel
theorem dd_Ref_wrong_156 : decode prog_14_method_33_code 156 = .ok (.aload_n 0, 1) := by decide +kernel
theorem dd_Ref_wrong_157 : decode prog_14_method_33_code 157 = .ok (.getfield 41, 3) := by decide +kernel
theorem dd_Ref_wrong_160 : decode prog_14_method_33_code 160 = .ok (.iload_n 2, 1) := by decide +kernel
theorem dd_Ref_wrong_161 : decode prog_14_method_33_code 161 = .ok (.iaload, 1) := by decide +kernel
theorem dd_Ref_wrong_162 : decode prog_14_method_33_code 162 = .ok (.invokevirtual 129, 3) := by decide +kernel
theorem dd_Ref_wrong_165 : decode prog_14_method_33_code 165 = .ok (.ifCond .ge 5, 3) := by decide +kernel
theorem dd_Ref_wrong_168 : decode prog_14_method_33_code 168 = .ok (.iconst 3, 1) := by decide +kernel
theorem dd_Ref_wrong_169 : decode prog_14_method_33_code 169 = .ok (.ireturn, 1) := by decide +kernel
theorem dd_Ref_wrong_170 : decode prog_14_method_33_code 170 = .ok (.iload_n 3, 1) := by decide +kernel
theorem dd_Ref_wrong_171 : decode prog_14_method_33_code 171 = .ok (.ifCond .ne 23, 3) := by decide +kernel
theorem dd_Ref_wrong_174 : decode prog_14_method_33_code 174 = .ok (.aload_n 0, 1) := by decide +kernel
theorem dd_Ref_wrong_175 : decode prog_14_method_33_code 175 = .ok (.iload_n 1, 1) := by decide +kernel
theorem dd_Ref_wrong_176 : decode prog_14_method_33_code 176 = .ok (.aload_n 0, 1) := by decide +kernel
theorem dd_Ref_wrong_177 : decode prog_14_method_33_code 177 = .ok (.getfield 44, 3) := by decide +kernel
theorem dd_Ref_wrong_180 : decode prog_14_method_33_code 180 = .ok (.iload_n 2, 1) := by decide +kernel
theorem dd_Ref_wrong_181 : decode prog_14_method_33_code 181 = .ok (.laload, 1) := by decide +kernel
theorem dd_Ref_wrong_182 : decode prog_14_method_33_code 182 = .ok (.invokevirtual 186, 3) := by decide +kernel
theorem dd_Ref_wrong_185 : decode prog_14_method_33_code 185 = .ok (.ifCond .ge 7, 3) := by decide +kernel
theorem dd_Ref_wrong_188 : decode prog_14_method_33_code 188 = .ok (.iconst 4, 1) := by decide +kernel
theorem dd_Ref_wrong_189 : decode prog_14_method_33_code 189 = .ok (.goto 4, 3) := by decide +kernel
theorem dd_Ref_wrong_192 : decode prog_14_method_33_code 192 = .ok (.iconst 0, 1) := by decide +kernel
theorem dd_Ref_wrong_193 : decode prog_14_method_33_code 193 = .ok (.ireturn, 1) := by decide +kernel
theorem dd_Ref_wrong_194 : decode prog_14_method_33_code 194 = .ok (.iload_n 3, 1) := by decide +kernel
theorem dd_Ref_wrong_195 : decode prog_14_method_33_code 195 = .ok (.iconst 4, 1) := by decide +kernel
theorem dd_Ref_wrong_196 : decode prog_14_method_33_code 196 = .ok (.if_icmp .ne 35, 3) := by decide +kernel
theorem dd_Ref_wrong_199 : decode prog_14_method_33_code 199 = .ok (.aload_n 0, 1) := by decide +kernel
theorem dd_Ref_wrong_200 : decode prog_14_method_33_code 200 = .ok (.getfield 44, 3) := by decide +kernel
theorem dd_Ref_wrong_203 : decode prog_14_method_33_code 203 = .ok (.iload_n 2, 1) := by decide +kernel
theorem dd_Ref_wrong_204 : decode prog_14_method_33_code 204 = .ok (.laload, 1) := by decide +kernel
theorem dd_Ref_wrong_205 : decode prog_14_method_33_code 205 = .ok (.lconst 0, 1) := by decide +kernel
theorem dd_Ref_wrong_206 : decode prog_14_method_33_code 206 = .ok (.lcmp, 1) := by decide +kernel
theorem dd_Ref_wrong_207 : decode prog_14_method_33_code 207 = .ok (.ifCond .lt 18, 3) := by decide +kernel
theorem dd_Ref_wrong_210 : decode prog_14_method_33_code 210 = .ok (.aload_n 0, 1) := by decide +kernel
theorem dd_Ref_wrong_211 : decode prog_14_method_33_code 211 = .ok (.getfield 44, 3) := by decide +kernel
theorem dd_Ref_wrong_214 : decode prog_14_method_33_code 214 = .ok (.iload_n 2, 1) := by decide +kernel
theorem dd_Ref_wrong_215 : decode prog_14_method_33_code 215 = .ok (.laload, 1) := by decide +kernel
theorem dd_Ref_wrong_216 : decode prog_14_method_33_code 216 = .ok (.aload_n 0, 1) := by decide +kernel
theorem dd_Ref_wrong_217 : decode prog_14_method_33_code 217 = .ok (.getfield 145, 3) := by decide +kernel
theorem dd_Ref_wrong_220 : decode prog_14_method_33_code 220 = .ok (.i2l, 1) := by decide +kernel
theorem dd_Ref_wrong_221 : decode prog_14_method_33_code 221 = .ok (.lcmp, 1) := by decide +kernel
theorem dd_Ref_wrong_222 : decode prog_14_method_33_code 222 = .ok (.ifCond .lt 7, 3) := by decide +kernel
theorem dd_Ref_wrong_225 : decode prog_14_method_33_code 225 = .ok (.iconst 4, 1) := by decide +kernel
theorem dd_Ref_wrong_226 : decode prog_14_method_33_code 226 = .ok (.goto 4, 3) := by decide +kernel
theorem dd_Ref_wrong_229 : decode prog_14_method_33_code 229 = .ok (.iconst 0, 1) := by decide +kernel
theorem dd_Ref_wrong_230 : decode prog_14_method_33_code 230 = .ok (.ireturn, 1) := by decide +kernel
theorem dd_Ref_wrong_231 : decode prog_14_method_33_code 231 = .ok (.iload_n 3, 1) := by decide +kernel
theorem dd_Ref_wrong_232 : decode prog_14_method_33_code 232 = .ok (.iconst 5, 1) := by decide +kernel
theorem dd_Ref_wrong_233 : decode prog_14_method_33_code 233 = .ok (.if_icmp .eq 9, 3) := by decide +kernel
theorem dd_Ref_wrong_236 : decode prog_14_method_33_code 236 = .ok (.iload_n 3, 1) := by decide +kernel
theorem dd_Ref_wrong_237 : decode prog_14_method_33_code 237 = .ok (.bipush 6, 2) := by decide +kernel
theorem dd_Ref_wrong_239 : decode prog_14_method_33_code 239 = .ok (.if_icmp .ne 120, 3) := by decide +kernel
theorem dd_Ref_wrong_242 : decode prog_14_method_33_code 242 = .ok (.aload_n 0, 1) := by decide +kernel
theorem dd_Ref_wrong_243 : decode prog_14_method_33_code 243 = .ok (.getfield 44, 3) := by decide +kernel
theorem dd_Ref_wrong_246 : decode prog_14_method_33_code 246 = .ok (.iload_n 2, 1) := by decide +kernel
theorem dd_Ref_wrong_247 : decode prog_14_method_33_code 247 = .ok (.laload, 1) := by decide +kernel
theorem dd_Ref_wrong_248 : decode prog_14_method_33_code 248 = .ok (.lconst 0, 1) := by decide +kernel
theorem dd_Ref_wrong_249 : decode prog_14_method_33_code 249 = .ok (.lcmp, 1) := by decide +kernel
theorem dd_Ref_wrong_250 : decode prog_14_method_33_code 250 = .ok (.ifCond .lt 40, 3) := by decide +kernel
theorem dd_Ref_wrong_253 : decode prog_14_method_33_code 253 = .ok (.aload_n 0, 1) := by decide +kernel
theorem dd_Ref_wrong_254 : decode prog_14_method_33_code 254 = .ok (.getfield 44, 3) := by decide +kernel
theorem dd_Ref_wrong_257 : decode prog_14_method_33_code 257 = .ok (.iload_n 2, 1) := by decide +kernel
theorem dd_Ref_wrong_258 : decode prog_14_method_33_code 258 = .ok (.laload, 1) := by decide +kernel
theorem dd_Ref_wrong_259 : decode prog_14_method_33_code 259 = .ok (.ldc2_w 190, 3) := by decide +kernel
theorem dd_Ref_wrong_262 : decode prog_14_method_33_code 262 = .ok (.lcmp, 1) := by decide +kernel
theorem dd_Ref_wrong_263 : decode prog_14_method_33_code 263 = .ok (.ifCond .ge 27, 3) := by decide +kernel
theorem dd_Ref_wrong_266 : decode prog_14_method_33_code 266 = .ok (.aload_n 0, 1) := by decide +kernel
theorem dd_Ref_wrong_267 : decode prog_14_method_33_code 267 = .ok (.aload_n 0, 1) := by decide +kernel
theorem dd_Ref_wrong_268 : decode prog_14_method_33_code 268 = .ok (.getfield 32, 3) := by decide +kernel
theorem dd_Ref_wrong_271 : decode prog_14_method_33_code 271 = .ok (.iload_n 1, 1) := by decide +kernel
theorem dd_Ref_wrong_272 : decode prog_14_method_33_code 272 = .ok (.iaload, 1) := by decide +kernel
theorem dd_Ref_wrong_273 : decode prog_14_method_33_code 273 = .ok (.aload_n 0, 1) := by decide +kernel
theorem dd_Ref_wrong_274 : decode prog_14_method_33_code 274 = .ok (.getfield 44, 3) := by decide +kernel
theorem dd_Ref_wrong_277 : decode prog_14_method_33_code 277 = .ok (.iload_n 2, 1) := by decide +kernel
theorem dd_Ref_wrong_278 : decode prog_14_method_33_code 278 = .ok (.laload, 1) := by decide +kernel
theorem dd_Ref_wrong_279 : decode prog_14_method_33_code 279 = .ok (.l2i, 1) := by decide +kernel
theorem dd_Ref_wrong_280 : decode prog_14_method_33_code 280 = .ok (.invokevirtual 129, 3) := by decide +kernel
theorem dd_Ref_wrong_283 : decode prog_14_method_33_code 283 = .ok (.ifCond .lt 7, 3) := by decide +kernel
theorem dd_Ref_wrong_286 : decode prog_14_method_33_code 286 = .ok (.iconst 1, 1) := by decide +kernel
theorem dd_Ref_wrong_287 : decode prog_14_method_33_code 287 = .ok (.goto 4, 3) := by decide +kernel
theorem dd_Ref_wrong_290 : decode prog_14_method_33_code 290 = .ok (.iconst 0, 1) := by decide +kernel
theorem dd_Ref_wrong_291 : decode prog_14_method_33_code 291 = .ok (.istore 5, 2) := by decide +kernel
theorem dd_Ref_wrong_293 : decode prog_14_method_33_code 293 = .ok (.aload_n 0, 1) := by decide +kernel
theorem dd_Ref_wrong_294 : decode prog_14_method_33_code 294 = .ok (.getfield 44, 3) := by decide +kernel
theorem dd_Ref_wrong_297 : decode prog_14_method_33_code 297 = .ok (.iload_n 2, 1) := by decide +kernel
theorem dd_Ref_wrong_298 : decode prog_14_method_33_code 298 = .ok (.laload, 1) := by decide +kernel
theorem dd_Ref_wrong_299 : decode prog_14_method_33_code 299 = .ok (.ldc2_w 166, 3) := by decide +kernel
theorem dd_Ref_wrong_302 : decode prog_14_method_33_code 302 = .ok (.lcmp, 1) := by decide +kernel
theorem dd_Ref_wrong_303 : decode prog_14_method_33_code 303 = .ok (.ifCond .eq 22, 3) := by decide +kernel
theorem dd_Ref_wrong_306 : decode prog_14_method_33_code 306 = .ok (.iload_n 3, 1) := by decide +kernel
theorem dd_Ref_wrong_307 : decode prog_14_method_33_code 307 = .ok (.bipush 6, 2) := by decide +kernel
theorem dd_Ref_wrong_309 : decode prog_14_method_33_code 309 = .ok (.if_icmp .ne 20, 3) := by decide +kernel
theorem dd_Ref_wrong_312 : decode prog_14_method_33_code 312 = .ok (.aload_n 0, 1) := by decide +kernel
theorem dd_Ref_wrong_313 : decode prog_14_method_33_code 313 = .ok (.getfield 44, 3) := by decide +kernel
theorem dd_Ref_wrong_316 : decode prog_14_method_33_code 316 = .ok (.iload_n 2, 1) := by decide +kernel
theorem dd_Ref_wrong_317 : decode prog_14_method_33_code 317 = .ok (.laload, 1) := by decide +kernel
theorem dd_Ref_wrong_318 : decode prog_14_method_33_code 318 = .ok (.ldc2_w 168, 3) := by decide +kernel
theorem dd_Ref_wrong_321 : decode prog_14_method_33_code 321 = .ok (.lcmp, 1) := by decide +kernel
theorem dd_Ref_wrong_322 : decode prog_14_method_33_code 322 = .ok (.ifCond .ne 7, 3) := by decide +kernel
theorem dd_Ref_wrong_325 : decode prog_14_method_33_code 325 = .ok (.iconst 1, 1) := by decide +kernel
theorem dd_Ref_wrong_326 : decode prog_14_method_33_code 326 = .ok (.goto 4, 3) := by decide +kernel
theorem dd_Ref_wrong_329 : decode prog_14_method_33_code 329 = .ok (.iconst 0, 1) := by decide +kernel
theorem dd_Ref_wrong_330 : decode prog_14_method_33_code 330 = .ok (.istore 6, 2) := by decide +kernel
theorem dd_Ref_wrong_332 : decode prog_14_method_33_code 332 = .ok (.iload_n 3, 1) := by decide +kernel
theorem dd_Ref_wrong_333 : decode prog_14_method_33_code 333 = .ok (.bipush 6, 2) := by decide +kernel
theorem dd_Ref_wrong_335 : decode prog_14_method_33_code 335 = .ok (.if_icmp .ne 8, 3) := by decide +kernel
theorem dd_Ref_wrong_338 : decode prog_14_method_33_code 338 = .ok (.iload 4, 2) := by decide +kernel
theorem dd_Ref_wrong_340 : decode prog_14_method_33_code 340 = .ok (.ifCond .ne 13, 3) := by decide +kernel
theorem dd_Ref_wrong_343 : decode prog_14_method_33_code 343 = .ok (.iload 5, 2) := by decide +kernel
theorem dd_Ref_wrong_345 : decode prog_14_method_33_code 345 = .ok (.ifCond .ne 12, 3) := by decide +kernel
theorem dd_Ref_wrong_348 : decode prog_14_method_33_code 348 = .ok (.iload 6, 2) := by decide +kernel
theorem dd_Ref_wrong_350 : decode prog_14_method_33_code 350 = .ok (.ifCond .ne 7, 3) := by decide +kernel
theorem dd_Ref_wrong_353 : decode prog_14_method_33_code 353 = .ok (.iconst 4, 1) := by decide +kernel
theorem dd_Ref_wrong_354 : decode prog_14_method_33_code 354 = .ok (.goto 4, 3) := by decide +kernel
theorem dd_Ref_wrong_357 : decode prog_14_method_33_code 357 = .ok (.iconst 0, 1) := by decide +kernel
theorem dd_Ref_wrong_358 : decode prog_14_method_33_code 358 = .ok (.ireturn, 1) := by decide +kernel
theorem dd_Ref_wrong_359 : decode prog_14_method_33_code 359 = .ok (.iload_n 3, 1) := by decide +kernel
theorem dd_Ref_wrong_360 : decode prog_14_method_33_code 360 = .ok (.bipush 8, 2) := by decide +kernel
theorem dd_Ref_wrong_362 : decode prog_14_method_33_code 362 = .ok (.if_icmp .ne 12, 3) := by decide +kernel
theorem dd_Ref_wrong_365 : decode prog_14_method_33_code 365 = .ok (.iload 4, 2) := by decide +kernel
theorem dd_Ref_wrong_367 : decode prog_14_method_33_code 367 = .ok (.ifCond .ne 7, 3) := by decide +kernel
theorem dd_Ref_wrong_370 : decode prog_14_method_33_code 370 = .ok (.iconst 4, 1) := by decide +kernel
theorem dd_Ref_wrong_371 : decode prog_14_method_33_code 371 = .ok (.goto 4, 3) := by decide +kernel
theorem dd_Ref_wrong_374 : decode prog_14_method_33_code 374 = .ok (.iconst 0, 1) := by decide +kernel
theorem dd_Ref_wrong_375 : decode prog_14_method_33_code 375 = .ok (.ireturn, 1) := by decide +kernel
theorem dd_Ref_wrongWay_0 : decode prog_14_method_34_code 0 = .ok (.iload_n 0, 1) := by decide +kernel
theorem dd_Ref_wrongWay_1 : decode prog_14_method_34_code 1 = .ok (.iconst (-1), 1) := by decide +kernel
theorem dd_Ref_wrongWay_2 : decode prog_14_method_34_code 2 = .ok (.if_icmp .ne 8, 3) := by decide +kernel
theorem dd_Ref_wrongWay_5 : decode prog_14_method_34_code 5 = .ok (.bipush 6, 2) := by decide +kernel
theorem dd_Ref_wrongWay_7 : decode prog_14_method_34_code 7 = .ok (.goto 15, 3) := by decide +kernel
theorem dd_Ref_wrongWay_10 : decode prog_14_method_34_code 10 = .ok (.iload_n 0, 1) := by decide +kernel
theorem dd_Ref_wrongWay_11 : decode prog_14_method_34_code 11 = .ok (.bipush (-2), 2) := by decide +kernel
theorem dd_Ref_wrongWay_13 : decode prog_14_method_34_code 13 = .ok (.if_icmp .ne 8, 3) := by decide +kernel
theorem dd_Ref_wrongWay_16 : decode prog_14_method_34_code 16 = .ok (.bipush 7, 2) := by decide +kernel
theorem dd_Ref_wrongWay_18 : decode prog_14_method_34_code 18 = .ok (.goto 4, 3) := by decide +kernel
theorem dd_Ref_wrongWay_21 : decode prog_14_method_34_code 21 = .ok (.iconst 0, 1) := by decide +kernel
theorem dd_Ref_wrongWay_22 : decode prog_14_method_34_code 22 = .ok (.ireturn, 1) := by decide +kernel
theorem dd_Ref_wrongProperty_0 : decode prog_14_method_35_code 0 = .ok (.aload_n 0, 1) := by decide +kernel
theorem dd_Ref_wrongProperty_1 : decode prog_14_method_35_code 1 = .ok (.getfield 20, 3) := by decide +kernel
theorem dd_Ref_wrongProperty_4 : decode prog_14_method_35_code 4 = .ok (.bipush 8, 2) := by decide +kernel
theorem dd_Ref_wrongProperty_6 : decode prog_14_method_35_code 6 = .ok (.aload_n 0, 1) := by decide +kernel
theorem dd_Ref_wrongProperty_7 : decode prog_14_method_35_code 7 = .ok (.getfield 32, 3) := by decide +kernel
theorem dd_Ref_wrongProperty_10 : decode prog_14_method_35_code 10 = .ok (.iload_n 1, 1) := by decide +kernel
theorem dd_Ref_wrongProperty_11 : decode prog_14_method_35_code 11 = .ok (.iaload, 1) := by decide +kernel
theorem dd_Ref_wrongProperty_12 : decode prog_14_method_35_code 12 = .ok (.imul, 1) := by decide +kernel
theorem dd_Ref_wrongProperty_13 : decode prog_14_method_35_code 13 = .ok (.iload_n 2, 1) := by decide +kernel
theorem dd_Ref_wrongProperty_14 : decode prog_14_method_35_code 14 = .ok (.iadd, 1) := by decide +kernel
theorem dd_Ref_wrongProperty_15 : decode prog_14_method_35_code 15 = .ok (.iaload, 1) := by decide +kernel
theorem dd_Ref_wrongProperty_16 : decode prog_14_method_35_code 16 = .ok (.istore_n 3, 1) := by decide +kernel
theorem dd_Ref_wrongProperty_17 : decode prog_14_method_35_code 17 = .ok (.aload_n 0, 1) := by decide +kernel
theorem dd_Ref_wrongProperty_18 : decode prog_14_method_35_code 18 = .ok (.getfield 23, 3) := by decide +kernel
theorem dd_Ref_wrongProperty_21 : decode prog_14_method_35_code 21 = .ok (.bipush 8, 2) := by decide +kernel
theorem dd_Ref_wrongProperty_23 : decode prog_14_method_35_code 23 = .ok (.aload_n 0, 1) := by decide +kernel
theorem dd_Ref_wrongProperty_24 : decode prog_14_method_35_code 24 = .ok (.getfield 32, 3) := by decide +kernel
theorem dd_Ref_wrongProperty_27 : decode prog_14_method_35_code 27 = .ok (.iload_n 1, 1) := by decide +kernel
theorem dd_Ref_wrongProperty_28 : decode prog_14_method_35_code 28 = .ok (.iaload, 1) := by decide +kernel
theorem dd_Ref_wrongProperty_29 : decode prog_14_method_35_code 29 = .ok (.imul, 1) := by decide +kernel
theorem dd_Ref_wrongProperty_30 : decode prog_14_method_35_code 30 = .ok (.iload_n 2, 1) := by decide +kernel
theorem dd_Ref_wrongProperty_31 : decode prog_14_method_35_code 31 = .ok (.iadd, 1) := by decide +kernel
theorem dd_Ref_wrongProperty_32 : decode prog_14_method_35_code 32 = .ok (.iaload, 1) := by decide +kernel
theorem dd_Ref_wrongProperty_33 : decode prog_14_method_35_code 33 = .ok (.istore 4, 2) := by decide +kernel
theorem dd_Ref_wrongProperty_35 : decode prog_14_method_35_code 35 = .ok (.aload_n 0, 1) := by decide +kernel
theorem dd_Ref_wrongProperty_36 : decode prog_14_method_35_code 36 = .ok (.iload_n 1, 1) := by decide +kernel
theorem dd_Ref_wrongProperty_37 : decode prog_14_method_35_code 37 = .ok (.iconst 2, 1) := by decide +kernel
theorem dd_Ref_wrongProperty_38 : decode prog_14_method_35_code 38 = .ok (.iload_n 3, 1) := by decide +kernel
theorem dd_Ref_wrongProperty_39 : decode prog_14_method_35_code 39 = .ok (.invokevirtual 151, 3) := by decide +kernel
theorem dd_Ref_wrongProperty_42 : decode prog_14_method_35_code 42 = .ok (.ifCond .lt 5, 3) := by decide +kernel
theorem dd_Ref_wrongProperty_45 : decode prog_14_method_35_code 45 = .ok (.iconst 0, 1) := by decide +kernel
theorem dd_Ref_wrongProperty_46 : decode prog_14_method_35_code 46 = .ok (.ireturn, 1) := by decide +kernel
theorem dd_Ref_wrongProperty_47 : decode prog_14_method_35_code 47 = .ok (.aload_n 0, 1) := by decide +kernel
theorem dd_Ref_wrongProperty_48 : decode prog_14_method_35_code 48 = .ok (.iload_n 1, 1) := by decide +kernel
theorem dd_Ref_wrongProperty_49 : decode prog_14_method_35_code 49 = .ok (.iconst 1, 1) := by decide +kernel
theorem dd_Ref_wrongProperty_50 : decode prog_14_method_35_code 50 = .ok (.iload_n 3, 1) := by decide +kernel
theorem dd_Ref_wrongProperty_51 : decode prog_14_method_35_code 51 = .ok (.invokevirtual 151, 3) := by decide +kernel
theorem dd_Ref_wrongProperty_54 : decode prog_14_method_35_code 54 = .ok (.ifCond .lt 14, 3) := by decide +kernel
theorem dd_Ref_wrongProperty_57 : decode prog_14_method_35_code 57 = .ok (.aload_n 0, 1) := by decide +kernel
theorem dd_Ref_wrongProperty_58 : decode prog_14_method_35_code 58 = .ok (.iconst 4, 1) := by decide +kernel
theorem dd_Ref_wrongProperty_59 : decode prog_14_method_35_code 59 = .ok (.iload 4, 2) := by decide +kernel
theorem dd_Ref_wrongProperty_61 : decode prog_14_method_35_code 61 = .ok (.invokevirtual 192, 3) := by decide +kernel
theorem dd_Ref_wrongProperty_64 : decode prog_14_method_35_code 64 = .ok (.invokestatic 195, 3) := by decide +kernel
theorem dd_Ref_wrongProperty_67 : decode prog_14_method_35_code 67 = .ok (.ireturn, 1) := by decide +kernel
theorem dd_Ref_wrongProperty_68 : decode prog_14_method_35_code 68 = .ok (.aload_n 0, 1) := by decide +kernel
theorem dd_Ref_wrongProperty_69 : decode prog_14_method_35_code 69 = .ok (.iload_n 1, 1) := by decide +kernel
theorem dd_Ref_wrongProperty_70 : decode prog_14_method_35_code 70 = .ok (.iload_n 3, 1) := by decide +kernel
theorem dd_Ref_wrongProperty_71 : decode prog_14_method_35_code 71 = .ok (.invokevirtual 198, 3) := by decide +kernel
theorem dd_Ref_wrongProperty_74 : decode prog_14_method_35_code 74 = .ok (.lstore 5, 2) := by decide +kernel
theorem dd_Ref_wrongProperty_76 : decode prog_14_method_35_code 76 = .ok (.lload 5, 2) := by decide +kernel
theorem dd_Ref_wrongProperty_78 : decode prog_14_method_35_code 78 = .ok (.lconst 0, 1) := by decide +kernel
theorem dd_Ref_wrongProperty_79 : decode prog_14_method_35_code 79 = .ok (.lcmp, 1) := by decide +kernel
theorem dd_Ref_wrongProperty_80 : decode prog_14_method_35_code 80 = .ok (.ifCond .ne 5, 3) := by decide +kernel
theorem dd_Ref_wrongProperty_83 : decode prog_14_method_35_code 83 = .ok (.iconst 5, 1) := by decide +kernel
theorem dd_Ref_wrongProperty_84 : decode prog_14_method_35_code 84 = .ok (.ireturn, 1) := by decide +kernel
theorem dd_Ref_wrongProperty_85 : decode prog_14_method_35_code 85 = .ok (.aload_n 0, 1) := by decide +kernel
theorem dd_Ref_wrongProperty_86 : decode prog_14_method_35_code 86 = .ok (.iload_n 1, 1) := by decide +kernel
theorem dd_Ref_wrongProperty_87 : decode prog_14_method_35_code 87 = .ok (.lload 5, 2) := by decide +kernel
theorem dd_Ref_wrongProperty_89 : decode prog_14_method_35_code 89 = .ok (.invokevirtual 186, 3) := by decide +kernel
theorem dd_Ref_wrongProperty_92 : decode prog_14_method_35_code 92 = .ok (.istore 7, 2) := by decide +kernel
theorem dd_Ref_wrongProperty_94 : decode prog_14_method_35_code 94 = .ok (.aload_n 0, 1) := by decide +kernel
theorem dd_Ref_wrongProperty_95 : decode prog_14_method_35_code 95 = .ok (.iload_n 1, 1) := by decide +kernel
theorem dd_Ref_wrongProperty_96 : decode prog_14_method_35_code 96 = .ok (.iconst 4, 1) := by decide +kernel
theorem dd_Ref_wrongProperty_97 : decode prog_14_method_35_code 97 = .ok (.iload_n 3, 1) := by decide +kernel
theorem dd_Ref_wrongProperty_98 : decode prog_14_method_35_code 98 = .ok (.invokevirtual 151, 3) := by decide +kernel
theorem dd_Ref_wrongProperty_101 : decode prog_14_method_35_code 101 = .ok (.istore 8, 2) := by decide +kernel
theorem dd_Ref_wrongProperty_103 : decode prog_14_method_35_code 103 = .ok (.iload 8, 2) := by decide +kernel
theorem dd_Ref_wrongProperty_105 : decode prog_14_method_35_code 105 = .ok (.ifCond .ge 7, 3) := by decide +kernel
theorem dd_Ref_wrongProperty_108 : decode prog_14_method_35_code 108 = .ok (.iconst 0, 1) := by decide +kernel
theorem dd_Ref_wrongProperty_109 : decode prog_14_method_35_code 109 = .ok (.goto 11, 3) := by decide +kernel
theorem dd_Ref_wrongProperty_112 : decode prog_14_method_35_code 112 = .ok (.aload_n 0, 1) := by decide +kernel
theorem dd_Ref_wrongProperty_113 : decode prog_14_method_35_code 113 = .ok (.getfield 44, 3) := by decide +kernel
theorem dd_Ref_wrongProperty_116 : decode prog_14_method_35_code 116 = .ok (.iload 8, 2) := by decide +kernel
theorem dd_Ref_wrongProperty_118 : decode prog_14_method_35_code 118 = .ok (.laload, 1) := by decide +kernel
theorem dd_Ref_wrongProperty_119 : decode prog_14_method_35_code 119 = .ok (.l2i, 1) := by decide +kernel
theorem dd_Ref_wrongProperty_120 : decode prog_14_method_35_code 120 = .ok (.istore 9, 2) := by decide +kernel
theorem dd_Ref_wrongProperty_122 : decode prog_14_method_35_code 122 = .ok (.iload 8, 2) := by decide +kernel
theorem dd_Ref_wrongProperty_124 : decode prog_14_method_35_code 124 = .ok (.ifCond .ge 17, 3) := by decide +kernel
theorem dd_Ref_wrongProperty_127 : decode prog_14_method_35_code 127 = .ok (.aload_n 0, 1) := by decide +kernel
theorem dd_Ref_wrongProperty_128 : decode prog_14_method_35_code 128 = .ok (.iload 7, 2) := by decide +kernel
theorem dd_Ref_wrongProperty_130 : decode prog_14_method_35_code 130 = .ok (.iload 4, 2) := by decide +kernel
theorem dd_Ref_wrongProperty_132 : decode prog_14_method_35_code 132 = .ok (.invokevirtual 192, 3) := by decide +kernel
theorem dd_Ref_wrongProperty_135 : decode prog_14_method_35_code 135 = .ok (.invokestatic 195, 3) := by decide +kernel
theorem dd_Ref_wrongProperty_138 : decode prog_14_method_35_code 138 = .ok (.goto 33, 3) := by decide +kernel
theorem dd_Ref_wrongProperty_141 : decode prog_14_method_35_code 141 = .ok (.aload_n 0, 1) := by decide +kernel
theorem dd_Ref_wrongProperty_142 : decode prog_14_method_35_code 142 = .ok (.getfield 48, 3) := by decide +kernel
theorem dd_Ref_wrongProperty_145 : decode prog_14_method_35_code 145 = .ok (.iload 9, 2) := by decide +kernel
theorem dd_Ref_wrongProperty_147 : decode prog_14_method_35_code 147 = .ok (.iaload, 1) := by decide +kernel
theorem dd_Ref_wrongProperty_148 : decode prog_14_method_35_code 148 = .ok (.iload 7, 2) := by decide +kernel
theorem dd_Ref_wrongProperty_150 : decode prog_14_method_35_code 150 = .ok (.if_icmp .ne 19, 3) := by decide +kernel
theorem dd_Ref_wrongProperty_153 : decode prog_14_method_35_code 153 = .ok (.aload_n 0, 1) := by decide +kernel
theorem dd_Ref_wrongProperty_154 : decode prog_14_method_35_code 154 = .ok (.getfield 51, 3) := by decide +kernel
theorem dd_Ref_wrongProperty_157 : decode prog_14_method_35_code 157 = .ok (.iload 9, 2) := by decide +kernel
theorem dd_Ref_wrongProperty_159 : decode prog_14_method_35_code 159 = .ok (.iaload, 1) := by decide +kernel
theorem dd_Ref_wrongProperty_160 : decode prog_14_method_35_code 160 = .ok (.iload 4, 2) := by decide +kernel
theorem dd_Ref_wrongProperty_162 : decode prog_14_method_35_code 162 = .ok (.if_icmp .ne 7, 3) := by decide +kernel
theorem dd_Ref_wrongProperty_165 : decode prog_14_method_35_code 165 = .ok (.iconst 0, 1) := by decide +kernel
theorem dd_Ref_wrongProperty_166 : decode prog_14_method_35_code 166 = .ok (.goto 5, 3) := by decide +kernel
theorem dd_Ref_wrongProperty_169 : decode prog_14_method_35_code 169 = .ok (.bipush 6, 2) := by decide +kernel
theorem dd_Ref_wrongProperty_171 : decode prog_14_method_35_code 171 = .ok (.istore 10, 2) := by decide +kernel
theorem dd_Ref_wrongProperty_173 : decode prog_14_method_35_code 173 = .ok (.iload 10, 2) := by decide +kernel
theorem dd_Ref_wrongProperty_175 : decode prog_14_method_35_code 175 = .ok (.ifCond .gt 13, 3) := by decide +kernel
theorem dd_Ref_wrongProperty_178 : decode prog_14_method_35_code 178 = .ok (.aload_n 0, 1) := by decide +kernel
theorem dd_Ref_wrongProperty_179 : decode prog_14_method_35_code 179 = .ok (.iload_n 1, 1) := by decide +kernel
theorem dd_Ref_wrongProperty_180 : decode prog_14_method_35_code 180 = .ok (.iconst 3, 1) := by decide +kernel
theorem dd_Ref_wrongProperty_181 : decode prog_14_method_35_code 181 = .ok (.iload_n 3, 1) := by decide +kernel
theorem dd_Ref_wrongProperty_182 : decode prog_14_method_35_code 182 = .ok (.invokevirtual 151, 3) := by decide +kernel
theorem dd_Ref_wrongProperty_185 : decode prog_14_method_35_code 185 = .ok (.ifCond .ge 8, 3) := by decide +kernel
theorem dd_Ref_wrongProperty_188 : decode prog_14_method_35_code 188 = .ok (.iload 10, 2) := by decide +kernel
theorem dd_Ref_wrongProperty_190 : decode prog_14_method_35_code 190 = .ok (.goto 13, 3) := by decide +kernel
theorem dd_Ref_wrongProperty_193 : decode prog_14_method_35_code 193 = .ok (.aload_n 0, 1) := by decide +kernel
theorem dd_Ref_wrongProperty_194 : decode prog_14_method_35_code 194 = .ok (.iconst 4, 1) := by decide +kernel
theorem dd_Ref_wrongProperty_195 : decode prog_14_method_35_code 195 = .ok (.iload 4, 2) := by decide +kernel
theorem dd_Ref_wrongProperty_197 : decode prog_14_method_35_code 197 = .ok (.invokevirtual 192, 3) := by decide +kernel
theorem dd_Ref_wrongProperty_200 : decode prog_14_method_35_code 200 = .ok (.invokestatic 195, 3) := by decide +kernel
theorem dd_Ref_wrongProperty_203 : decode prog_14_method_35_code 203 = .ok (.ireturn, 1) := by decide +kernel
theorem dd_Ref_isFaulty_0 : decode prog_14_method_36_code 0 = .ok (.aload_n 0, 1) := by decide +kernel
theorem dd_Ref_isFaulty_1 : decode prog_14_method_36_code 1 = .ok (.iload_n 1, 1) := by decide +kernel
theorem dd_Ref_isFaulty_2 : decode prog_14_method_36_code 2 = .ok (.invokevirtual 201, 3) := by decide +kernel
theorem dd_Ref_isFaulty_5 : decode prog_14_method_36_code 5 = .ok (.ifCond .eq 11, 3) := by decide +kernel
theorem dd_Ref_isFaulty_8 : decode prog_14_method_36_code 8 = .ok (.aload_n 0, 1) := by decide +kernel
theorem dd_Ref_isFaulty_9 : decode prog_14_method_36_code 9 = .ok (.iconst 1, 1) := by decide +kernel
theorem dd_Ref_isFaulty_10 : decode prog_14_method_36_code 10 = .ok (.iload_n 1, 1) := by decide +kernel
theorem dd_Ref_isFaulty_11 : decode prog_14_method_36_code 11 = .ok (.iconst (-1), 1) := by decide +kernel
theorem dd_Ref_isFaulty_12 : decode prog_14_method_36_code 12 = .ok (.invokevirtual 204, 3) := by decide +kernel
theorem dd_Ref_isFaulty_15 : decode prog_14_method_36_code 15 = .ok (.ireturn, 1) := by decide +kernel
theorem dd_Ref_isFaulty_16 : decode prog_14_method_36_code 16 = .ok (.bipush 24, 2) := by decide +kernel
theorem dd_Ref_isFaulty_18 : decode prog_14_method_36_code 18 = .ok (.iload_n 1, 1) := by decide +kernel
theorem dd_Ref_isFaulty_19 : decode prog_14_method_36_code 19 = .ok (.imul, 1) := by decide +kernel
theorem dd_Ref_isFaulty_20 : decode prog_14_method_36_code 20 = .ok (.istore_n 2, 1) := by decide +kernel
theorem dd_Ref_isFaulty_21 : decode prog_14_method_36_code 21 = .ok (.iload_n 2, 1) := by decide +kernel
theorem dd_Ref_isFaulty_22 : decode prog_14_method_36_code 22 = .ok (.bipush 24, 2) := by decide +kernel
theorem dd_Ref_isFaulty_24 : decode prog_14_method_36_code 24 = .ok (.iload_n 1, 1) := by decide +kernel
theorem dd_Ref_isFaulty_25 : decode prog_14_method_36_code 25 = .ok (.imul, 1) := by decide +kernel
theorem dd_Ref_isFaulty_26 : decode prog_14_method_36_code 26 = .ok (.aload_n 0, 1) := by decide +kernel
theorem dd_Ref_isFaulty_27 : decode prog_14_method_36_code 27 = .ok (.getfield 35, 3) := by decide +kernel
theorem dd_Ref_isFaulty_30 : decode prog_14_method_36_code 30 = .ok (.iload_n 1, 1) := by decide +kernel
theorem dd_Ref_isFaulty_31 : decode prog_14_method_36_code 31 = .ok (.iaload, 1) := by decide +kernel
theorem dd_Ref_isFaulty_32 : decode prog_14_method_36_code 32 = .ok (.iadd, 1) := by decide +kernel
theorem dd_Ref_isFaulty_33 : decode prog_14_method_36_code 33 = .ok (.if_icmp .ge 33, 3) := by decide +kernel
theorem dd_Ref_isFaulty_36 : decode prog_14_method_36_code 36 = .ok (.aload_n 0, 1) := by decide +kernel
theorem dd_Ref_isFaulty_37 : decode prog_14_method_36_code 37 = .ok (.iload_n 1, 1) := by decide +kernel
theorem dd_Ref_isFaulty_38 : decode prog_14_method_36_code 38 = .ok (.iload_n 2, 1) := by decide +kernel
theorem dd_Ref_isFaulty_39 : decode prog_14_method_36_code 39 = .ok (.invokevirtual 208, 3) := by decide +kernel
theorem dd_Ref_isFaulty_42 : decode prog_14_method_36_code 42 = .ok (.istore_n 3, 1) := by decide +kernel
theorem dd_Ref_isFaulty_43 : decode prog_14_method_36_code 43 = .ok (.iload_n 3, 1) := by decide +kernel
theorem dd_Ref_isFaulty_44 : decode prog_14_method_36_code 44 = .ok (.ifCond .le 16, 3) := by decide +kernel
theorem dd_Ref_isFaulty_47 : decode prog_14_method_36_code 47 = .ok (.aload_n 0, 1) := by decide +kernel
theorem dd_Ref_isFaulty_48 : decode prog_14_method_36_code 48 = .ok (.iload_n 3, 1) := by decide +kernel
theorem dd_Ref_isFaulty_49 : decode prog_14_method_36_code 49 = .ok (.iload_n 1, 1) := by decide +kernel
theorem dd_Ref_isFaulty_50 : decode prog_14_method_36_code 50 = .ok (.iload_n 2, 1) := by decide +kernel
theorem dd_Ref_isFaulty_51 : decode prog_14_method_36_code 51 = .ok (.bipush 24, 2) := by decide +kernel
theorem dd_Ref_isFaulty_53 : decode prog_14_method_36_code 53 = .ok (.iload_n 1, 1) := by decide +kernel
theorem dd_Ref_isFaulty_54 : decode prog_14_method_36_code 54 = .ok (.imul, 1) := by decide +kernel
theorem dd_Ref_isFaulty_55 : decode prog_14_method_36_code 55 = .ok (.isub, 1) := by decide +kernel
theorem dd_Ref_isFaulty_56 : decode prog_14_method_36_code 56 = .ok (.invokevirtual 204, 3) := by decide +kernel
theorem dd_Ref_isFaulty_59 : decode prog_14_method_36_code 59 = .ok (.ireturn, 1) := by decide +kernel
theorem dd_Ref_isFaulty_60 : decode prog_14_method_36_code 60 = .ok (.iinc 2 1, 3) := by decide +kernel
theorem dd_Ref_isFaulty_63 : decode prog_14_method_36_code 63 = .ok (.goto (-42), 3) := by decide +kernel
theorem dd_Ref_isFaulty_66 : decode prog_14_method_36_code 66 = .ok (.aload_n 0, 1) := by decide +kernel
theorem dd_Ref_isFaulty_67 : decode prog_14_method_36_code 67 = .ok (.getfield 13, 3) := by decide +kernel
theorem dd_Ref_isFaulty_70 : decode prog_14_method_36_code 70 = .ok (.aload_n 0, 1) := by decide +kernel
theorem dd_Ref_isFaulty_71 : decode prog_14_method_36_code 71 = .ok (.getfield 32, 3) := by decide +kernel
theorem dd_Ref_isFaulty_74 : decode prog_14_method_36_code 74 = .ok (.iload_n 1, 1) := by decide +kernel
theorem dd_Ref_isFaulty_75 : decode prog_14_method_36_code 75 = .ok (.iaload, 1) := by decide +kernel
theorem dd_Ref_isFaulty_76 : decode prog_14_method_36_code 76 = .ok (.iaload, 1) := by decide +kernel
theorem dd_Ref_isFaulty_77 : decode prog_14_method_36_code 77 = .ok (.iconst 4, 1) := by decide +kernel
theorem dd_Ref_isFaulty_78 : decode prog_14_method_36_code 78 = .ok (.if_icmp .ne 7, 3) := by decide +kernel
theorem dd_Ref_isFaulty_81 : decode prog_14_method_36_code 81 = .ok (.iconst 1, 1) := by decide +kernel
theorem dd_Ref_isFaulty_82 : decode prog_14_method_36_code 82 = .ok (.goto 4, 3) := by decide +kernel
theorem dd_Ref_isFaulty_85 : decode prog_14_method_36_code 85 = .ok (.iconst 0, 1) := by decide +kernel
theorem dd_Ref_isFaulty_86 : decode prog_14_method_36_code 86 = .ok (.istore_n 2, 1) := by decide +kernel
theorem dd_Ref_isFaulty_87 : decode prog_14_method_36_code 87 = .ok (.aload_n 0, 1) := by decide +kernel
theorem dd_Ref_isFaulty_88 : decode prog_14_method_36_code 88 = .ok (.getfield 17, 3) := by decide +kernel
theorem dd_Ref_isFaulty_91 : decode prog_14_method_36_code 91 = .ok (.iload_n 2, 1) := by decide +kernel
theorem dd_Ref_isFaulty_92 : decode prog_14_method_36_code 92 = .ok (.ifCond .eq 12, 3) := by decide +kernel
theorem dd_Ref_isFaulty_95 : decode prog_14_method_36_code 95 = .ok (.aload_n 0, 1) := by decide +kernel
theorem dd_Ref_isFaulty_96 : decode prog_14_method_36_code 96 = .ok (.getfield 32, 3) := by decide +kernel
theorem dd_Ref_isFaulty_99 : decode prog_14_method_36_code 99 = .ok (.iload_n 1, 1) := by decide +kernel
theorem dd_Ref_isFaulty_100 : decode prog_14_method_36_code 100 = .ok (.iaload, 1) := by decide +kernel
theorem dd_Ref_isFaulty_101 : decode prog_14_method_36_code 101 = .ok (.goto 9, 3) := by decide +kernel
theorem dd_Ref_isFaulty_104 : decode prog_14_method_36_code 104 = .ok (.aload_n 0, 1) := by decide +kernel
theorem dd_Ref_isFaulty_105 : decode prog_14_method_36_code 105 = .ok (.getfield 29, 3) := by decide +kernel
theorem dd_Ref_isFaulty_108 : decode prog_14_method_36_code 108 = .ok (.iload_n 1, 1) := by decide +kernel
theorem dd_Ref_isFaulty_109 : decode prog_14_method_36_code 109 = .ok (.iaload, 1) := by decide +kernel
theorem dd_Ref_isFaulty_110 : decode prog_14_method_36_code 110 = .ok (.iaload, 1) := by decide +kernel
theorem dd_Ref_isFaulty_111 : decode prog_14_method_36_code 111 = .ok (.istore_n 3, 1) := by decide +kernel
theorem dd_Ref_isFaulty_112 : decode prog_14_method_36_code 112 = .ok (.iconst 0, 1) := by decide +kernel
theorem dd_Ref_isFaulty_113 : decode prog_14_method_36_code 113 = .ok (.istore 4, 2) := by decide +kernel
theorem dd_Ref_isFaulty_115 : decode prog_14_method_36_code 115 = .ok (.iload 4, 2) := by decide +kernel
theorem dd_Ref_isFaulty_117 : decode prog_14_method_36_code 117 = .ok (.iload_n 3, 1) := by decide +kernel
theorem dd_Ref_isFaulty_118 : decode prog_14_method_36_code 118 = .ok (.if_icmp .ge 57, 3) := by decide +kernel
theorem dd_Ref_isFaulty_121 : decode prog_14_method_36_code 121 = .ok (.iload_n 2, 1) := by decide +kernel
theorem dd_Ref_isFaulty_122 : decode prog_14_method_36_code 122 = .ok (.ifCond .eq 13, 3) := by decide +kernel
theorem dd_Ref_isFaulty_125 : decode prog_14_method_36_code 125 = .ok (.aload_n 0, 1) := by decide +kernel
theorem dd_Ref_isFaulty_126 : decode prog_14_method_36_code 126 = .ok (.iload_n 1, 1) := by decide +kernel
theorem dd_Ref_isFaulty_127 : decode prog_14_method_36_code 127 = .ok (.iload 4, 2) := by decide +kernel
theorem dd_Ref_isFaulty_129 : decode prog_14_method_36_code 129 = .ok (.invokevirtual 211, 3) := by decide +kernel
theorem dd_Ref_isFaulty_132 : decode prog_14_method_36_code 132 = .ok (.goto 20, 3) := by decide +kernel
theorem dd_Ref_isFaulty_135 : decode prog_14_method_36_code 135 = .ok (.aload_n 0, 1) := by decide +kernel
theorem dd_Ref_isFaulty_136 : decode prog_14_method_36_code 136 = .ok (.iload_n 1, 1) := by decide +kernel
theorem dd_Ref_isFaulty_137 : decode prog_14_method_36_code 137 = .ok (.iload 4, 2) := by decide +kernel
theorem dd_Ref_isFaulty_139 : decode prog_14_method_36_code 139 = .ok (.invokevirtual 214, 3) := by decide +kernel
theorem dd_Ref_isFaulty_142 : decode prog_14_method_36_code 142 = .ok (.bipush (-3), 2) := by decide +kernel
theorem dd_Ref_isFaulty_144 : decode prog_14_method_36_code 144 = .ok (.if_icmp .ne 7, 3) := by decide +kernel
theorem dd_Ref_isFaulty_147 : decode prog_14_method_36_code 147 = .ok (.iconst 5, 1) := by decide +kernel
theorem dd_Ref_isFaulty_148 : decode prog_14_method_36_code 148 = .ok (.goto 4, 3) := by decide +kernel
theorem dd_Ref_isFaulty_151 : decode prog_14_method_36_code 151 = .ok (.iconst 0, 1) := by decide +kernel
theorem dd_Ref_isFaulty_152 : decode prog_14_method_36_code 152 = .ok (.istore 5, 2) := by decide +kernel
theorem dd_Ref_isFaulty_154 : decode prog_14_method_36_code 154 = .ok (.iload 5, 2) := by decide +kernel
theorem dd_Ref_isFaulty_156 : decode prog_14_method_36_code 156 = .ok (.ifCond .le 13, 3) := by decide +kernel
theorem dd_Ref_isFaulty_159 : decode prog_14_method_36_code 159 = .ok (.aload_n 0, 1) := by decide +kernel
theorem dd_Ref_isFaulty_160 : decode prog_14_method_36_code 160 = .ok (.iload 5, 2) := by decide +kernel
theorem dd_Ref_isFaulty_162 : decode prog_14_method_36_code 162 = .ok (.iload_n 1, 1) := by decide +kernel
theorem dd_Ref_isFaulty_163 : decode prog_14_method_36_code 163 = .ok (.iload 4, 2) := by decide +kernel
theorem dd_Ref_isFaulty_165 : decode prog_14_method_36_code 165 = .ok (.invokevirtual 204, 3) := by decide +kernel
theorem dd_Ref_isFaulty_168 : decode prog_14_method_36_code 168 = .ok (.ireturn, 1) := by decide +kernel
theorem dd_Ref_isFaulty_169 : decode prog_14_method_36_code 169 = .ok (.iinc 4 1, 3) := by decide +kernel
theorem dd_Ref_isFaulty_172 : decode prog_14_method_36_code 172 = .ok (.goto (-57), 3) := by decide +kernel
theorem dd_Ref_isFaulty_175 : decode prog_14_method_36_code 175 = .ok (.iconst 0, 1) := by decide +kernel
theorem dd_Ref_isFaulty_176 : decode prog_14_method_36_code 176 = .ok (.ireturn, 1) := by decide +kernel
theorem dd_Ref_build_0 : decode prog_14_method_37_code 0 = .ok (.aload_n 0, 1) := by decide +kernel
theorem dd_Ref_build_1 : decode prog_14_method_37_code 1 = .ok (.getfield 118, 3) := by decide +kernel
theorem dd_Ref_build_4 : decode prog_14_method_37_code 4 = .ok (.ifCond .eq 9, 3) := by decide +kernel
theorem dd_Ref_build_7 : decode prog_14_method_37_code 7 = .ok (.aload_n 0, 1) := by decide +kernel
theorem dd_Ref_build_8 : decode prog_14_method_37_code 8 = .ok (.iconst 2, 1) := by decide +kernel
theorem dd_Ref_build_9 : decode prog_14_method_37_code 9 = .ok (.invokevirtual 109, 3) := by decide +kernel
theorem dd_Ref_build_12 : decode prog_14_method_37_code 12 = .ok (.ireturn, 1) := by decide +kernel
theorem dd_Ref_build_13 : decode prog_14_method_37_code 13 = .ok (.aload_n 0, 1) := by decide +kernel
theorem dd_Ref_build_14 : decode prog_14_method_37_code 14 = .ok (.iconst 0, 1) := by decide +kernel
theorem dd_Ref_build_15 : decode prog_14_method_37_code 15 = .ok (.iconst (-1), 1) := by decide +kernel
theorem dd_Ref_build_16 : decode prog_14_method_37_code 16 = .ok (.iconst (-1), 1) := by decide +kernel
theorem dd_Ref_build_17 : decode prog_14_method_37_code 17 = .ok (.invokevirtual 204, 3) := by decide +kernel
theorem dd_Ref_build_20 : decode prog_14_method_37_code 20 = .ok (.istore_n 1, 1) := by decide +kernel
theorem dd_Ref_build_21 : decode prog_14_method_37_code 21 = .ok (.iconst 0, 1) := by decide +kernel
theorem dd_Ref_build_22 : decode prog_14_method_37_code 22 = .ok (.istore_n 1, 1) := by decide +kernel
theorem dd_Ref_build_23 : decode prog_14_method_37_code 23 = .ok (.iconst 0, 1) := by decide +kernel
theorem dd_Ref_build_24 : decode prog_14_method_37_code 24 = .ok (.istore_n 2, 1) := by decide +kernel
theorem dd_Ref_build_25 : decode prog_14_method_37_code 25 = .ok (.iload_n 2, 1) := by decide +kernel
theorem dd_Ref_build_26 : decode prog_14_method_37_code 26 = .ok (.aload_n 0, 1) := by decide +kernel
theorem dd_Ref_build_27 : decode prog_14_method_37_code 27 = .ok (.getfield 136, 3) := by decide +kernel
theorem dd_Ref_build_30 : decode prog_14_method_37_code 30 = .ok (.if_icmp .ge 19, 3) := by decide +kernel
theorem dd_Ref_build_33 : decode prog_14_method_37_code 33 = .ok (.iload_n 1, 1) := by decide +kernel
theorem dd_Ref_build_34 : decode prog_14_method_37_code 34 = .ok (.ifCond .ne 15, 3) := by decide +kernel
theorem dd_Ref_build_37 : decode prog_14_method_37_code 37 = .ok (.aload_n 0, 1) := by decide +kernel
theorem dd_Ref_build_38 : decode prog_14_method_37_code 38 = .ok (.iload_n 2, 1) := by decide +kernel
theorem dd_Ref_build_39 : decode prog_14_method_37_code 39 = .ok (.invokevirtual 217, 3) := by decide +kernel
theorem dd_Ref_build_42 : decode prog_14_method_37_code 42 = .ok (.istore_n 1, 1) := by decide +kernel
theorem dd_Ref_build_43 : decode prog_14_method_37_code 43 = .ok (.iinc 2 1, 3) := by decide +kernel
theorem dd_Ref_build_46 : decode prog_14_method_37_code 46 = .ok (.goto (-21), 3) := by decide +kernel
theorem dd_Ref_build_49 : decode prog_14_method_37_code 49 = .ok (.iload_n 1, 1) := by decide +kernel
theorem dd_Ref_build_50 : decode prog_14_method_37_code 50 = .ok (.ifCond .eq 9, 3) := by decide +kernel
theorem dd_Ref_build_53 : decode prog_14_method_37_code 53 = .ok (.aload_n 0, 1) := by decide +kernel
theorem dd_Ref_build_54 : decode prog_14_method_37_code 54 = .ok (.iconst 1, 1) := by decide +kernel
theorem dd_Ref_build_55 : decode prog_14_method_37_code 55 = .ok (.invokevirtual 109, 3) := by decide +kernel
theorem dd_Ref_build_58 : decode prog_14_method_37_code 58 = .ok (.ireturn, 1) := by decide +kernel
theorem dd_Ref_build_59 : decode prog_14_method_37_code 59 = .ok (.aload_n 0, 1) := by decide +kernel
theorem dd_Ref_build_60 : decode prog_14_method_37_code 60 = .ok (.iconst 0, 1) := by decide +kernel
theorem dd_Ref_build_61 : decode prog_14_method_37_code 61 = .ok (.putfield 102, 3) := by decide +kernel
theorem dd_Ref_build_64 : decode prog_14_method_37_code 64 = .ok (.aload_n 0, 1) := by decide +kernel
theorem dd_Ref_build_65 : decode prog_14_method_37_code 65 = .ok (.iconst 1, 1) := by decide +kernel
theorem dd_Ref_build_66 : decode prog_14_method_37_code 66 = .ok (.putfield 118, 3) := by decide +kernel
theorem dd_Ref_build_69 : decode prog_14_method_37_code 69 = .ok (.aload_n 0, 1) := by decide +kernel
theorem dd_Ref_build_70 : decode prog_14_method_37_code 70 = .ok (.getfield 136, 3) := by decide +kernel
theorem dd_Ref_build_73 : decode prog_14_method_37_code 73 = .ok (.ireturn, 1) := by decide +kernel
theorem dd_Ref_diagnosis_0 : decode prog_14_method_38_code 0 = .ok (.aload_n 0, 1) := by decide +kernel
theorem dd_Ref_diagnosis_1 : decode prog_14_method_38_code 1 = .ok (.iconst 0, 1) := by decide +kernel
theorem dd_Ref_diagnosis_2 : decode prog_14_method_38_code 2 = .ok (.putfield 102, 3) := by decide +kernel
theorem dd_Ref_diagnosis_5 : decode prog_14_method_38_code 5 = .ok (.iload_n 1, 1) := by decide +kernel
theorem dd_Ref_diagnosis_6 : decode prog_14_method_38_code 6 = .ok (.ifCond .ne 10, 3) := by decide +kernel
theorem dd_Ref_diagnosis_9 : decode prog_14_method_38_code 9 = .ok (.aload_n 0, 1) := by decide +kernel
theorem dd_Ref_diagnosis_10 : decode prog_14_method_38_code 10 = .ok (.getfield 183, 3) := by decide +kernel
theorem dd_Ref_diagnosis_13 : decode prog_14_method_38_code 13 = .ok (.goto 28, 3) := by decide +kernel
theorem dd_Ref_diagnosis_16 : decode prog_14_method_38_code 16 = .ok (.iload_n 1, 1) := by decide +kernel
theorem dd_Ref_diagnosis_17 : decode prog_14_method_38_code 17 = .ok (.iconst 1, 1) := by decide +kernel
theorem dd_Ref_diagnosis_18 : decode prog_14_method_38_code 18 = .ok (.if_icmp .ne 10, 3) := by decide +kernel
theorem dd_Ref_diagnosis_21 : decode prog_14_method_38_code 21 = .ok (.aload_n 0, 1) := by decide +kernel
theorem dd_Ref_diagnosis_22 : decode prog_14_method_38_code 22 = .ok (.getfield 60, 3) := by decide +kernel
theorem dd_Ref_diagnosis_25 : decode prog_14_method_38_code 25 = .ok (.goto 16, 3) := by decide +kernel
theorem dd_Ref_diagnosis_28 : decode prog_14_method_38_code 28 = .ok (.iload_n 1, 1) := by decide +kernel
theorem dd_Ref_diagnosis_29 : decode prog_14_method_38_code 29 = .ok (.iconst 2, 1) := by decide +kernel
theorem dd_Ref_diagnosis_30 : decode prog_14_method_38_code 30 = .ok (.if_icmp .ne 10, 3) := by decide +kernel
theorem dd_Ref_diagnosis_33 : decode prog_14_method_38_code 33 = .ok (.aload_n 0, 1) := by decide +kernel
theorem dd_Ref_diagnosis_34 : decode prog_14_method_38_code 34 = .ok (.getfield 63, 3) := by decide +kernel
theorem dd_Ref_diagnosis_37 : decode prog_14_method_38_code 37 = .ok (.goto 4, 3) := by decide +kernel
theorem dd_Ref_diagnosis_40 : decode prog_14_method_38_code 40 = .ok (.iconst (-1), 1) := by decide +kernel
theorem dd_Ref_diagnosis_41 : decode prog_14_method_38_code 41 = .ok (.ireturn, 1) := by decide +kernel
theorem dd_Ref_cast_0 : decode prog_14_method_39_code 0 = .ok (.iload_n 2, 1) := by decide +kernel
theorem dd_Ref_cast_1 : decode prog_14_method_39_code 1 = .ok (.ifCond .ne 10, 3) := by decide +kernel
theorem dd_Ref_cast_4 : decode prog_14_method_39_code 4 = .ok (.lload_n 0, 1) := by decide +kernel
theorem dd_Ref_cast_5 : decode prog_14_method_39_code 5 = .ok (.l2i, 1) := by decide +kernel
theorem dd_Ref_cast_6 : decode prog_14_method_39_code 6 = .ok (.i2b, 1) := by decide +kernel
theorem dd_Ref_cast_7 : decode prog_14_method_39_code 7 = .ok (.i2l, 1) := by decide +kernel
theorem dd_Ref_cast_8 : decode prog_14_method_39_code 8 = .ok (.goto 50, 3) := by decide +kernel
theorem dd_Ref_cast_11 : decode prog_14_method_39_code 11 = .ok (.iload_n 2, 1) := by decide +kernel
theorem dd_Ref_cast_12 : decode prog_14_method_39_code 12 = .ok (.iconst 1, 1) := by decide +kernel
theorem dd_Ref_cast_13 : decode prog_14_method_39_code 13 = .ok (.if_icmp .ne 10, 3) := by decide +kernel
theorem dd_Ref_cast_16 : decode prog_14_method_39_code 16 = .ok (.lload_n 0, 1) := by decide +kernel
theorem dd_Ref_cast_17 : decode prog_14_method_39_code 17 = .ok (.l2i, 1) := by decide +kernel
theorem dd_Ref_cast_18 : decode prog_14_method_39_code 18 = .ok (.i2s, 1) := by decide +kernel
theorem dd_Ref_cast_19 : decode prog_14_method_39_code 19 = .ok (.i2l, 1) := by decide +kernel
theorem dd_Ref_cast_20 : decode prog_14_method_39_code 20 = .ok (.goto 38, 3) := by decide +kernel
theorem dd_Ref_cast_23 : decode prog_14_method_39_code 23 = .ok (.iload_n 2, 1) := by decide +kernel
theorem dd_Ref_cast_24 : decode prog_14_method_39_code 24 = .ok (.iconst 2, 1) := by decide +kernel
theorem dd_Ref_cast_25 : decode prog_14_method_39_code 25 = .ok (.if_icmp .ne 10, 3) := by decide +kernel
theorem dd_Ref_cast_28 : decode prog_14_method_39_code 28 = .ok (.lload_n 0, 1) := by decide +kernel
theorem dd_Ref_cast_29 : decode prog_14_method_39_code 29 = .ok (.l2i, 1) := by decide +kernel
theorem dd_Ref_cast_30 : decode prog_14_method_39_code 30 = .ok (.i2c, 1) := by decide +kernel
theorem dd_Ref_cast_31 : decode prog_14_method_39_code 31 = .ok (.i2l, 1) := by decide +kernel
theorem dd_Ref_cast_32 : decode prog_14_method_39_code 32 = .ok (.goto 26, 3) := by decide +kernel
theorem dd_Ref_cast_35 : decode prog_14_method_39_code 35 = .ok (.iload_n 2, 1) := by decide +kernel
theorem dd_Ref_cast_36 : decode prog_14_method_39_code 36 = .ok (.iconst 3, 1) := by decide +kernel
theorem dd_Ref_cast_37 : decode prog_14_method_39_code 37 = .ok (.if_icmp .ne 9, 3) := by decide +kernel
theorem dd_Ref_cast_40 : decode prog_14_method_39_code 40 = .ok (.lload_n 0, 1) := by decide +kernel
theorem dd_Ref_cast_41 : decode prog_14_method_39_code 41 = .ok (.l2i, 1) := by decide +kernel
theorem dd_Ref_cast_42 : decode prog_14_method_39_code 42 = .ok (.i2l, 1) := by decide +kernel
theorem dd_Ref_cast_43 : decode prog_14_method_39_code 43 = .ok (.goto 15, 3) := by decide +kernel
theorem dd_Ref_cast_46 : decode prog_14_method_39_code 46 = .ok (.iload_n 2, 1) := by decide +kernel
theorem dd_Ref_cast_47 : decode prog_14_method_39_code 47 = .ok (.iconst 5, 1) := by decide +kernel
theorem dd_Ref_cast_48 : decode prog_14_method_39_code 48 = .ok (.if_icmp .ne 9, 3) := by decide +kernel
theorem dd_Ref_cast_51 : decode prog_14_method_39_code 51 = .ok (.lload_n 0, 1) := by decide +kernel
theorem dd_Ref_cast_52 : decode prog_14_method_39_code 52 = .ok (.lconst 1, 1) := by decide +kernel
theorem dd_Ref_cast_53 : decode prog_14_method_39_code 53 = .ok (.land, 1) := by decide +kernel
theorem dd_Ref_cast_54 : decode prog_14_method_39_code 54 = .ok (.goto 4, 3) := by decide +kernel
theorem dd_Ref_cast_57 : decode prog_14_method_39_code 57 = .ok (.lload_n 0, 1) := by decide +kernel
theorem dd_Ref_cast_58 : decode prog_14_method_39_code 58 = .ok (.lreturn, 1) := by decide +kernel
theorem dd_Ref_isValue_0 : decode prog_14_method_40_code 0 = .ok (.aload_n 0, 1) := by decide +kernel
theorem dd_Ref_isValue_1 : decode prog_14_method_40_code 1 = .ok (.getfield 13, 3) := by decide +kernel
theorem dd_Ref_isValue_4 : decode prog_14_method_40_code 4 = .ok (.iload_n 1, 1) := by decide +kernel
theorem dd_Ref_isValue_5 : decode prog_14_method_40_code 5 = .ok (.iaload, 1) := by decide +kernel
theorem dd_Ref_isValue_6 : decode prog_14_method_40_code 6 = .ok (.ifCond .ne 45, 3) := by decide +kernel
theorem dd_Ref_isValue_9 : decode prog_14_method_40_code 9 = .ok (.iload_n 1, 1) := by decide +kernel
theorem dd_Ref_isValue_10 : decode prog_14_method_40_code 10 = .ok (.bipush 6, 2) := by decide +kernel
theorem dd_Ref_isValue_12 : decode prog_14_method_40_code 12 = .ok (.if_icmp .ne 23, 3) := by decide +kernel
theorem dd_Ref_isValue_15 : decode prog_14_method_40_code 15 = .ok (.lload_n 2, 1) := by decide +kernel
theorem dd_Ref_isValue_16 : decode prog_14_method_40_code 16 = .ok (.ldc2_w 220, 3) := by decide +kernel
theorem dd_Ref_isValue_19 : decode prog_14_method_40_code 19 = .ok (.land, 1) := by decide +kernel
theorem dd_Ref_isValue_20 : decode prog_14_method_40_code 20 = .ok (.ldc2_w 222, 3) := by decide +kernel
theorem dd_Ref_isValue_23 : decode prog_14_method_40_code 23 = .ok (.lcmp, 1) := by decide +kernel
theorem dd_Ref_isValue_24 : decode prog_14_method_40_code 24 = .ok (.ifCond .gt 7, 3) := by decide +kernel
theorem dd_Ref_isValue_27 : decode prog_14_method_40_code 27 = .ok (.iconst 1, 1) := by decide +kernel
theorem dd_Ref_isValue_28 : decode prog_14_method_40_code 28 = .ok (.goto 22, 3) := by decide +kernel
theorem dd_Ref_isValue_31 : decode prog_14_method_40_code 31 = .ok (.iconst 0, 1) := by decide +kernel
theorem dd_Ref_isValue_32 : decode prog_14_method_40_code 32 = .ok (.goto 18, 3) := by decide +kernel
theorem dd_Ref_isValue_35 : decode prog_14_method_40_code 35 = .ok (.lload_n 2, 1) := by decide +kernel
theorem dd_Ref_isValue_36 : decode prog_14_method_40_code 36 = .ok (.lload_n 2, 1) := by decide +kernel
theorem dd_Ref_isValue_37 : decode prog_14_method_40_code 37 = .ok (.iload_n 1, 1) := by decide +kernel
theorem dd_Ref_isValue_38 : decode prog_14_method_40_code 38 = .ok (.invokestatic 224, 3) := by decide +kernel
theorem dd_Ref_isValue_41 : decode prog_14_method_40_code 41 = .ok (.lcmp, 1) := by decide +kernel
theorem dd_Ref_isValue_42 : decode prog_14_method_40_code 42 = .ok (.ifCond .ne 7, 3) := by decide +kernel
theorem dd_Ref_isValue_45 : decode prog_14_method_40_code 45 = .ok (.iconst 1, 1) := by decide +kernel
theorem dd_Ref_isValue_46 : decode prog_14_method_40_code 46 = .ok (.goto 4, 3) := by decide +kernel
theorem dd_Ref_isValue_49 : decode prog_14_method_40_code 49 = .ok (.iconst 0, 1) := by decide +kernel
theorem dd_Ref_isValue_50 : decode prog_14_method_40_code 50 = .ok (.ireturn, 1) := by decide +kernel
theorem dd_Ref_isValue_51 : decode prog_14_method_40_code 51 = .ok (.lload_n 2, 1) := by decide +kernel
theorem dd_Ref_isValue_52 : decode prog_14_method_40_code 52 = .ok (.ldc2_w 166, 3) := by decide +kernel
theorem dd_Ref_isValue_55 : decode prog_14_method_40_code 55 = .ok (.lcmp, 1) := by decide +kernel
theorem dd_Ref_isValue_56 : decode prog_14_method_40_code 56 = .ok (.ifCond .ne 5, 3) := by decide +kernel
theorem dd_Ref_isValue_59 : decode prog_14_method_40_code 59 = .ok (.iconst 1, 1) := by decide +kernel
theorem dd_Ref_isValue_60 : decode prog_14_method_40_code 60 = .ok (.ireturn, 1) := by decide +kernel
theorem dd_Ref_isValue_61 : decode prog_14_method_40_code 61 = .ok (.aload_n 0, 1) := by decide +kernel
theorem dd_Ref_isValue_62 : decode prog_14_method_40_code 62 = .ok (.getfield 13, 3) := by decide +kernel
theorem dd_Ref_isValue_65 : decode prog_14_method_40_code 65 = .ok (.iload_n 1, 1) := by decide +kernel
theorem dd_Ref_isValue_66 : decode prog_14_method_40_code 66 = .ok (.iaload, 1) := by decide +kernel
theorem dd_Ref_isValue_67 : decode prog_14_method_40_code 67 = .ok (.iconst 3, 1) := by decide +kernel
theorem dd_Ref_isValue_68 : decode prog_14_method_40_code 68 = .ok (.if_icmp .ne 29, 3) := by decide +kernel
theorem dd_Ref_isValue_71 : decode prog_14_method_40_code 71 = .ok (.lload_n 2, 1) := by decide +kernel
theorem dd_Ref_isValue_72 : decode prog_14_method_40_code 72 = .ok (.lconst 0, 1) := by decide +kernel
theorem dd_Ref_isValue_73 : decode prog_14_method_40_code 73 = .ok (.lcmp, 1) := by decide +kernel
theorem dd_Ref_isValue_74 : decode prog_14_method_40_code 74 = .ok (.ifCond .lt 19, 3) := by decide +kernel
theorem dd_Ref_isValue_77 : decode prog_14_method_40_code 77 = .ok (.lload_n 2, 1) := by decide +kernel
theorem dd_Ref_isValue_78 : decode prog_14_method_40_code 78 = .ok (.aload_n 0, 1) := by decide +kernel
theorem dd_Ref_isValue_79 : decode prog_14_method_40_code 79 = .ok (.getfield 17, 3) := by decide +kernel
theorem dd_Ref_isValue_82 : decode prog_14_method_40_code 82 = .ok (.iload_n 1, 1) := by decide +kernel
theorem dd_Ref_isValue_83 : decode prog_14_method_40_code 83 = .ok (.iaload, 1) := by decide +kernel
theorem dd_Ref_isValue_84 : decode prog_14_method_40_code 84 = .ok (.i2l, 1) := by decide +kernel
theorem dd_Ref_isValue_85 : decode prog_14_method_40_code 85 = .ok (.lcmp, 1) := by decide +kernel
theorem dd_Ref_isValue_86 : decode prog_14_method_40_code 86 = .ok (.ifCond .ge 7, 3) := by decide +kernel
theorem dd_Ref_isValue_89 : decode prog_14_method_40_code 89 = .ok (.iconst 1, 1) := by decide +kernel
theorem dd_Ref_isValue_90 : decode prog_14_method_40_code 90 = .ok (.goto 59, 3) := by decide +kernel
theorem dd_Ref_isValue_93 : decode prog_14_method_40_code 93 = .ok (.iconst 0, 1) := by decide +kernel
theorem dd_Ref_isValue_94 : decode prog_14_method_40_code 94 = .ok (.goto 55, 3) := by decide +kernel
theorem dd_Ref_isValue_97 : decode prog_14_method_40_code 97 = .ok (.lload_n 2, 1) := by decide +kernel
theorem dd_Ref_isValue_98 : decode prog_14_method_40_code 98 = .ok (.lconst 0, 1) := by decide +kernel
theorem dd_Ref_isValue_99 : decode prog_14_method_40_code 99 = .ok (.lcmp, 1) := by decide +kernel
theorem dd_Ref_isValue_100 : decode prog_14_method_40_code 100 = .ok (.ifCond .lt 48, 3) := by decide +kernel
theorem dd_Ref_isValue_103 : decode prog_14_method_40_code 103 = .ok (.lload_n 2, 1) := by decide +kernel
theorem dd_Ref_isValue_104 : decode prog_14_method_40_code 104 = .ok (.aload_n 0, 1) := by decide +kernel
theorem dd_Ref_isValue_105 : decode prog_14_method_40_code 105 = .ok (.getfield 133, 3) := by decide +kernel
theorem dd_Ref_isValue_108 : decode prog_14_method_40_code 108 = .ok (.i2l, 1) := by decide +kernel
theorem dd_Ref_isValue_109 : decode prog_14_method_40_code 109 = .ok (.lcmp, 1) := by decide +kernel
theorem dd_Ref_isValue_110 : decode prog_14_method_40_code 110 = .ok (.ifCond .ge 38, 3) := by decide +kernel
theorem dd_Ref_isValue_113 : decode prog_14_method_40_code 113 = .ok (.aload_n 0, 1) := by decide +kernel
theorem dd_Ref_isValue_114 : decode prog_14_method_40_code 114 = .ok (.getfield 66, 3) := by decide +kernel
theorem dd_Ref_isValue_117 : decode prog_14_method_40_code 117 = .ok (.lload_n 2, 1) := by decide +kernel
theorem dd_Ref_isValue_118 : decode prog_14_method_40_code 118 = .ok (.lconst 0, 1) := by decide +kernel
theorem dd_Ref_isValue_119 : decode prog_14_method_40_code 119 = .ok (.lcmp, 1) := by decide +kernel
theorem dd_Ref_isValue_120 : decode prog_14_method_40_code 120 = .ok (.ifCond .lt 17, 3) := by decide +kernel
theorem dd_Ref_isValue_123 : decode prog_14_method_40_code 123 = .ok (.lload_n 2, 1) := by decide +kernel
theorem dd_Ref_isValue_124 : decode prog_14_method_40_code 124 = .ok (.aload_n 0, 1) := by decide +kernel
theorem dd_Ref_isValue_125 : decode prog_14_method_40_code 125 = .ok (.getfield 133, 3) := by decide +kernel
theorem dd_Ref_isValue_128 : decode prog_14_method_40_code 128 = .ok (.i2l, 1) := by decide +kernel
theorem dd_Ref_isValue_129 : decode prog_14_method_40_code 129 = .ok (.lcmp, 1) := by decide +kernel
theorem dd_Ref_isValue_130 : decode prog_14_method_40_code 130 = .ok (.ifCond .ge 7, 3) := by decide +kernel
theorem dd_Ref_isValue_133 : decode prog_14_method_40_code 133 = .ok (.lload_n 2, 1) := by decide +kernel
theorem dd_Ref_isValue_134 : decode prog_14_method_40_code 134 = .ok (.goto 4, 3) := by decide +kernel
theorem dd_Ref_isValue_137 : decode prog_14_method_40_code 137 = .ok (.lconst 0, 1) := by decide +kernel
theorem dd_Ref_isValue_138 : decode prog_14_method_40_code 138 = .ok (.l2i, 1) := by decide +kernel
theorem dd_Ref_isValue_139 : decode prog_14_method_40_code 139 = .ok (.iaload, 1) := by decide +kernel
theorem dd_Ref_isValue_140 : decode prog_14_method_40_code 140 = .ok (.iload_n 1, 1) := by decide +kernel
theorem dd_Ref_isValue_141 : decode prog_14_method_40_code 141 = .ok (.if_icmp .ne 7, 3) := by decide +kernel
theorem dd_Ref_isValue_144 : decode prog_14_method_40_code 144 = .ok (.iconst 1, 1) := by decide +kernel
theorem dd_Ref_isValue_145 : decode prog_14_method_40_code 145 = .ok (.goto 4, 3) := by decide +kernel
theorem dd_Ref_isValue_148 : decode prog_14_method_40_code 148 = .ok (.iconst 0, 1) := by decide +kernel
theorem dd_Ref_isValue_149 : decode prog_14_method_40_code 149 = .ok (.ireturn, 1) := by decide +kernel
theorem dd_Ref_empty_0 : decode prog_14_method_41_code 0 = .ok (.aload_n 0, 1) := by decide +kernel
theorem dd_Ref_empty_1 : decode prog_14_method_41_code 1 = .ok (.getfield 13, 3) := by decide +kernel
theorem dd_Ref_empty_4 : decode prog_14_method_41_code 4 = .ok (.iload_n 1, 1) := by decide +kernel
theorem dd_Ref_empty_5 : decode prog_14_method_41_code 5 = .ok (.iaload, 1) := by decide +kernel
theorem dd_Ref_empty_6 : decode prog_14_method_41_code 6 = .ok (.ifCond .ne 7, 3) := by decide +kernel
theorem dd_Ref_empty_9 : decode prog_14_method_41_code 9 = .ok (.lconst 0, 1) := by decide +kernel
theorem dd_Ref_empty_10 : decode prog_14_method_41_code 10 = .ok (.goto 6, 3) := by decide +kernel
theorem dd_Ref_empty_13 : decode prog_14_method_41_code 13 = .ok (.ldc2_w 166, 3) := by decide +kernel
theorem dd_Ref_empty_16 : decode prog_14_method_41_code 16 = .ok (.lreturn, 1) := by decide +kernel
theorem dd_Ref_object_0 : decode prog_14_method_42_code 0 = .ok (.aload_n 0, 1) := by decide +kernel
theorem dd_Ref_object_1 : decode prog_14_method_42_code 1 = .ok (.getfield 133, 3) := by decide +kernel
theorem dd_Ref_object_4 : decode prog_14_method_42_code 4 = .ok (.sipush 400, 3) := by decide +kernel
theorem dd_Ref_object_7 : decode prog_14_method_42_code 7 = .ok (.if_icmp .ne 10, 3) := by decide +kernel
theorem dd_Ref_object_10 : decode prog_14_method_42_code 10 = .ok (.aload_n 0, 1) := by decide +kernel
theorem dd_Ref_object_11 : decode prog_14_method_42_code 11 = .ok (.iconst 1, 1) := by decide +kernel
theorem dd_Ref_object_12 : decode prog_14_method_42_code 12 = .ok (.putfield 228, 3) := by decide +kernel
theorem dd_Ref_object_15 : decode prog_14_method_42_code 15 = .ok (.iconst (-1), 1) := by decide +kernel
theorem dd_Ref_object_16 : decode prog_14_method_42_code 16 = .ok (.ireturn, 1) := by decide +kernel
theorem dd_Ref_object_17 : decode prog_14_method_42_code 17 = .ok (.aload_n 0, 1) := by decide +kernel
theorem dd_Ref_object_18 : decode prog_14_method_42_code 18 = .ok (.getfield 66, 3) := by decide +kernel
theorem dd_Ref_object_21 : decode prog_14_method_42_code 21 = .ok (.aload_n 0, 1) := by decide +kernel
theorem dd_Ref_object_22 : decode prog_14_method_42_code 22 = .ok (.getfield 133, 3) := by decide +kernel
theorem dd_Ref_object_25 : decode prog_14_method_42_code 25 = .ok (.iload_n 1, 1) := by decide +kernel
theorem dd_Ref_object_26 : decode prog_14_method_42_code 26 = .ok (.iastore, 1) := by decide +kernel
theorem dd_Ref_object_27 : decode prog_14_method_42_code 27 = .ok (.aload_n 0, 1) := by decide +kernel
theorem dd_Ref_object_28 : decode prog_14_method_42_code 28 = .ok (.getfield 69, 3) := by decide +kernel
theorem dd_Ref_object_31 : decode prog_14_method_42_code 31 = .ok (.aload_n 0, 1) := by decide +kernel
theorem dd_Ref_object_32 : decode prog_14_method_42_code 32 = .ok (.getfield 133, 3) := by decide +kernel
theorem dd_Ref_object_35 : decode prog_14_method_42_code 35 = .ok (.aload_n 0, 1) := by decide +kernel
theorem dd_Ref_object_36 : decode prog_14_method_42_code 36 = .ok (.getfield 13, 3) := by decide +kernel
theorem dd_Ref_object_39 : decode prog_14_method_42_code 39 = .ok (.iload_n 1, 1) := by decide +kernel
theorem dd_Ref_object_40 : decode prog_14_method_42_code 40 = .ok (.iaload, 1) := by decide +kernel
theorem dd_Ref_object_41 : decode prog_14_method_42_code 41 = .ok (.iconst 4, 1) := by decide +kernel
theorem dd_Ref_object_42 : decode prog_14_method_42_code 42 = .ok (.if_icmp .ne 12, 3) := by decide +kernel
theorem dd_Ref_object_45 : decode prog_14_method_42_code 45 = .ok (.aload_n 0, 1) := by decide +kernel
theorem dd_Ref_object_46 : decode prog_14_method_42_code 46 = .ok (.getfield 17, 3) := by decide +kernel
theorem dd_Ref_object_49 : decode prog_14_method_42_code 49 = .ok (.iload_n 1, 1) := by decide +kernel
theorem dd_Ref_object_50 : decode prog_14_method_42_code 50 = .ok (.iaload, 1) := by decide +kernel
theorem dd_Ref_object_51 : decode prog_14_method_42_code 51 = .ok (.goto 18, 3) := by decide +kernel
theorem dd_Ref_object_54 : decode prog_14_method_42_code 54 = .ok (.aload_n 0, 1) := by decide +kernel
theorem dd_Ref_object_55 : decode prog_14_method_42_code 55 = .ok (.getfield 13, 3) := by decide +kernel
theorem dd_Ref_object_58 : decode prog_14_method_42_code 58 = .ok (.iload_n 1, 1) := by decide +kernel
theorem dd_Ref_object_59 : decode prog_14_method_42_code 59 = .ok (.iaload, 1) := by decide +kernel
theorem dd_Ref_object_60 : decode prog_14_method_42_code 60 = .ok (.iconst 1, 1) := by decide +kernel
theorem dd_Ref_object_61 : decode prog_14_method_42_code 61 = .ok (.if_icmp .ne 7, 3) := by decide +kernel
theorem dd_Ref_object_64 : decode prog_14_method_42_code 64 = .ok (.iconst 1, 1) := by decide +kernel
theorem dd_Ref_object_65 : decode prog_14_method_42_code 65 = .ok (.goto 4, 3) := by decide +kernel
theorem dd_Ref_object_68 : decode prog_14_method_42_code 68 = .ok (.iconst 0, 1) := by decide +kernel
theorem dd_Ref_object_69 : decode prog_14_method_42_code 69 = .ok (.iastore, 1) := by decide +kernel
theorem dd_Ref_object_70 : decode prog_14_method_42_code 70 = .ok (.iconst 0, 1) := by decide +kernel
theorem dd_Ref_object_71 : decode prog_14_method_42_code 71 = .ok (.istore_n 2, 1) := by decide +kernel
theorem dd_Ref_object_72 : decode prog_14_method_42_code 72 = .ok (.iload_n 2, 1) := by decide +kernel
theorem dd_Ref_object_73 : decode prog_14_method_42_code 73 = .ok (.bipush 16, 2) := by decide +kernel
theorem dd_Ref_object_75 : decode prog_14_method_42_code 75 = .ok (.if_icmp .ge 62, 3) := by decide +kernel
theorem dd_Ref_object_78 : decode prog_14_method_42_code 78 = .ok (.aload_n 0, 1) := by decide +kernel
theorem dd_Ref_object_79 : decode prog_14_method_42_code 79 = .ok (.getfield 72, 3) := by decide +kernel
theorem dd_Ref_object_82 : decode prog_14_method_42_code 82 = .ok (.bipush 16, 2) := by decide +kernel
theorem dd_Ref_object_84 : decode prog_14_method_42_code 84 = .ok (.aload_n 0, 1) := by decide +kernel
theorem dd_Ref_object_85 : decode prog_14_method_42_code 85 = .ok (.getfield 133, 3) := by decide +kernel
theorem dd_Ref_object_88 : decode prog_14_method_42_code 88 = .ok (.imul, 1) := by decide +kernel
theorem dd_Ref_object_89 : decode prog_14_method_42_code 89 = .ok (.iload_n 2, 1) := by decide +kernel
theorem dd_Ref_object_90 : decode prog_14_method_42_code 90 = .ok (.iadd, 1) := by decide +kernel
theorem dd_Ref_object_91 : decode prog_14_method_42_code 91 = .ok (.aload_n 0, 1) := by decide +kernel
theorem dd_Ref_object_92 : decode prog_14_method_42_code 92 = .ok (.getfield 13, 3) := by decide +kernel
theorem dd_Ref_object_95 : decode prog_14_method_42_code 95 = .ok (.iload_n 1, 1) := by decide +kernel
theorem dd_Ref_object_96 : decode prog_14_method_42_code 96 = .ok (.iaload, 1) := by decide +kernel
theorem dd_Ref_object_97 : decode prog_14_method_42_code 97 = .ok (.iconst 4, 1) := by decide +kernel
theorem dd_Ref_object_98 : decode prog_14_method_42_code 98 = .ok (.if_icmp .ne 31, 3) := by decide +kernel
theorem dd_Ref_object_101 : decode prog_14_method_42_code 101 = .ok (.iload_n 2, 1) := by decide +kernel
theorem dd_Ref_object_102 : decode prog_14_method_42_code 102 = .ok (.aload_n 0, 1) := by decide +kernel
theorem dd_Ref_object_103 : decode prog_14_method_42_code 103 = .ok (.getfield 17, 3) := by decide +kernel
theorem dd_Ref_object_106 : decode prog_14_method_42_code 106 = .ok (.iload_n 1, 1) := by decide +kernel
theorem dd_Ref_object_107 : decode prog_14_method_42_code 107 = .ok (.iaload, 1) := by decide +kernel
theorem dd_Ref_object_108 : decode prog_14_method_42_code 108 = .ok (.if_icmp .ge 21, 3) := by decide +kernel
theorem dd_Ref_object_111 : decode prog_14_method_42_code 111 = .ok (.aload_n 0, 1) := by decide +kernel
theorem dd_Ref_object_112 : decode prog_14_method_42_code 112 = .ok (.aload_n 0, 1) := by decide +kernel
theorem dd_Ref_object_113 : decode prog_14_method_42_code 113 = .ok (.getfield 23, 3) := by decide +kernel
theorem dd_Ref_object_116 : decode prog_14_method_42_code 116 = .ok (.bipush 8, 2) := by decide +kernel
theorem dd_Ref_object_118 : decode prog_14_method_42_code 118 = .ok (.iload_n 1, 1) := by decide +kernel
theorem dd_Ref_object_119 : decode prog_14_method_42_code 119 = .ok (.imul, 1) := by decide +kernel
theorem dd_Ref_object_120 : decode prog_14_method_42_code 120 = .ok (.iload_n 2, 1) := by decide +kernel
theorem dd_Ref_object_121 : decode prog_14_method_42_code 121 = .ok (.iadd, 1) := by decide +kernel
theorem dd_Ref_object_122 : decode prog_14_method_42_code 122 = .ok (.iaload, 1) := by decide +kernel
theorem dd_Ref_object_123 : decode prog_14_method_42_code 123 = .ok (.invokevirtual 231, 3) := by decide +kernel
theorem dd_Ref_object_126 : decode prog_14_method_42_code 126 = .ok (.goto 4, 3) := by decide +kernel
theorem dd_Ref_object_129 : decode prog_14_method_42_code 129 = .ok (.lconst 0, 1) := by decide +kernel
theorem dd_Ref_object_130 : decode prog_14_method_42_code 130 = .ok (.lastore, 1) := by decide +kernel
theorem dd_Ref_object_131 : decode prog_14_method_42_code 131 = .ok (.iinc 2 1, 3) := by decide +kernel
theorem dd_Ref_object_134 : decode prog_14_method_42_code 134 = .ok (.goto (-62), 3) := by decide +kernel
theorem dd_Ref_object_137 : decode prog_14_method_42_code 137 = .ok (.aload_n 0, 1) := by decide +kernel
theorem dd_Ref_object_138 : decode prog_14_method_42_code 138 = .ok (.dup, 1) := by decide +kernel
theorem dd_Ref_object_139 : decode prog_14_method_42_code 139 = .ok (.getfield 133, 3) := by decide +kernel
theorem dd_Ref_object_142 : decode prog_14_method_42_code 142 = .ok (.iconst 1, 1) := by decide +kernel
theorem dd_Ref_object_143 : decode prog_14_method_42_code 143 = .ok (.iadd, 1) := by decide +kernel
theorem dd_Ref_object_144 : decode prog_14_method_42_code 144 = .ok (.putfield 133, 3) := by decide +kernel
theorem dd_Ref_object_147 : decode prog_14_method_42_code 147 = .ok (.aload_n 0, 1) := by decide +kernel
theorem dd_Ref_object_148 : decode prog_14_method_42_code 148 = .ok (.getfield 133, 3) := by decide +kernel
theorem dd_Ref_object_151 : decode prog_14_method_42_code 151 = .ok (.iconst 1, 1) := by decide +kernel
theorem dd_Ref_object_152 : decode prog_14_method_42_code 152 = .ok (.isub, 1) := by decide +kernel
theorem dd_Ref_object_153 : decode prog_14_method_42_code 153 = .ok (.ireturn, 1) := by decide +kernel
theorem dd_Ref_make_0 : decode prog_14_method_43_code 0 = .ok (.aload_n 0, 1) := by decide +kernel
theorem dd_Ref_make_1 : decode prog_14_method_43_code 1 = .ok (.iload_n 1, 1) := by decide +kernel
theorem dd_Ref_make_2 : decode prog_14_method_43_code 2 = .ok (.invokevirtual 105, 3) := by decide +kernel
theorem dd_Ref_make_5 : decode prog_14_method_43_code 5 = .ok (.ifCond .eq 50, 3) := by decide +kernel
theorem dd_Ref_make_8 : decode prog_14_method_43_code 8 = .ok (.aload_n 0, 1) := by decide +kernel
theorem dd_Ref_make_9 : decode prog_14_method_43_code 9 = .ok (.getfield 13, 3) := by decide +kernel
theorem dd_Ref_make_12 : decode prog_14_method_43_code 12 = .ok (.aload_n 0, 1) := by decide +kernel
theorem dd_Ref_make_13 : decode prog_14_method_43_code 13 = .ok (.iload_n 1, 1) := by decide +kernel
theorem dd_Ref_make_14 : decode prog_14_method_43_code 14 = .ok (.invokevirtual 105, 3) := by decide +kernel
theorem dd_Ref_make_17 : decode prog_14_method_43_code 17 = .ok (.ifCond .eq 7, 3) := by decide +kernel
theorem dd_Ref_make_20 : decode prog_14_method_43_code 20 = .ok (.iload_n 1, 1) := by decide +kernel
theorem dd_Ref_make_21 : decode prog_14_method_43_code 21 = .ok (.goto 4, 3) := by decide +kernel
theorem dd_Ref_make_24 : decode prog_14_method_43_code 24 = .ok (.iconst 0, 1) := by decide +kernel
theorem dd_Ref_make_25 : decode prog_14_method_43_code 25 = .ok (.iaload, 1) := by decide +kernel
theorem dd_Ref_make_26 : decode prog_14_method_43_code 26 = .ok (.ifCond .eq 29, 3) := by decide +kernel
theorem dd_Ref_make_29 : decode prog_14_method_43_code 29 = .ok (.aload_n 0, 1) := by decide +kernel
theorem dd_Ref_make_30 : decode prog_14_method_43_code 30 = .ok (.getfield 13, 3) := by decide +kernel
theorem dd_Ref_make_33 : decode prog_14_method_43_code 33 = .ok (.aload_n 0, 1) := by decide +kernel
theorem dd_Ref_make_34 : decode prog_14_method_43_code 34 = .ok (.iload_n 1, 1) := by decide +kernel
theorem dd_Ref_make_35 : decode prog_14_method_43_code 35 = .ok (.invokevirtual 105, 3) := by decide +kernel
theorem dd_Ref_make_38 : decode prog_14_method_43_code 38 = .ok (.ifCond .eq 7, 3) := by decide +kernel
theorem dd_Ref_make_41 : decode prog_14_method_43_code 41 = .ok (.iload_n 1, 1) := by decide +kernel
theorem dd_Ref_make_42 : decode prog_14_method_43_code 42 = .ok (.goto 4, 3) := by decide +kernel
theorem dd_Ref_make_45 : decode prog_14_method_43_code 45 = .ok (.iconst 0, 1) := by decide +kernel
theorem dd_Ref_make_46 : decode prog_14_method_43_code 46 = .ok (.iaload, 1) := by decide +kernel
theorem dd_Ref_make_47 : decode prog_14_method_43_code 47 = .ok (.iconst 3, 1) := by decide +kernel
theorem dd_Ref_make_48 : decode prog_14_method_43_code 48 = .ok (.if_icmp .eq 7, 3) := by decide +kernel
theorem dd_Ref_make_51 : decode prog_14_method_43_code 51 = .ok (.iconst 1, 1) := by decide +kernel
theorem dd_Ref_make_52 : decode prog_14_method_43_code 52 = .ok (.goto 4, 3) := by decide +kernel
theorem dd_Ref_make_55 : decode prog_14_method_43_code 55 = .ok (.iconst 0, 1) := by decide +kernel
theorem dd_Ref_make_56 : decode prog_14_method_43_code 56 = .ok (.istore 4, 2) := by decide +kernel
theorem dd_Ref_make_58 : decode prog_14_method_43_code 58 = .ok (.iload 4, 2) := by decide +kernel
theorem dd_Ref_make_60 : decode prog_14_method_43_code 60 = .ok (.ifCond .eq 25, 3) := by decide +kernel
theorem dd_Ref_make_63 : decode prog_14_method_43_code 63 = .ok (.aload_n 0, 1) := by decide +kernel
theorem dd_Ref_make_64 : decode prog_14_method_43_code 64 = .ok (.getfield 13, 3) := by decide +kernel
theorem dd_Ref_make_67 : decode prog_14_method_43_code 67 = .ok (.iload_n 1, 1) := by decide +kernel
theorem dd_Ref_make_68 : decode prog_14_method_43_code 68 = .ok (.iaload, 1) := by decide +kernel
theorem dd_Ref_make_69 : decode prog_14_method_43_code 69 = .ok (.iconst 1, 1) := by decide +kernel
theorem dd_Ref_make_70 : decode prog_14_method_43_code 70 = .ok (.if_icmp .ne 21, 3) := by decide +kernel
theorem dd_Ref_make_73 : decode prog_14_method_43_code 73 = .ok (.aload_n 0, 1) := by decide +kernel
theorem dd_Ref_make_74 : decode prog_14_method_43_code 74 = .ok (.iload_n 1, 1) := by decide +kernel
theorem dd_Ref_make_75 : decode prog_14_method_43_code 75 = .ok (.bipush 7, 2) := by decide +kernel
theorem dd_Ref_make_77 : decode prog_14_method_43_code 77 = .ok (.isub, 1) := by decide +kernel
theorem dd_Ref_make_78 : decode prog_14_method_43_code 78 = .ok (.lload_n 2, 1) := by decide +kernel
theorem dd_Ref_make_79 : decode prog_14_method_43_code 79 = .ok (.invokevirtual 235, 3) := by decide +kernel
theorem dd_Ref_make_82 : decode prog_14_method_43_code 82 = .ok (.ifCond .ne 9, 3) := by decide +kernel
theorem dd_Ref_make_85 : decode prog_14_method_43_code 85 = .ok (.aload_n 0, 1) := by decide +kernel
theorem dd_Ref_make_86 : decode prog_14_method_43_code 86 = .ok (.iconst 1, 1) := by decide +kernel
theorem dd_Ref_make_87 : decode prog_14_method_43_code 87 = .ok (.invokevirtual 109, 3) := by decide +kernel
theorem dd_Ref_make_90 : decode prog_14_method_43_code 90 = .ok (.ireturn, 1) := by decide +kernel
theorem dd_Ref_make_91 : decode prog_14_method_43_code 91 = .ok (.aload_n 0, 1) := by decide +kernel
theorem dd_Ref_make_92 : decode prog_14_method_43_code 92 = .ok (.getfield 133, 3) := by decide +kernel
theorem dd_Ref_make_95 : decode prog_14_method_43_code 95 = .ok (.sipush 400, 3) := by decide +kernel
theorem dd_Ref_make_98 : decode prog_14_method_43_code 98 = .ok (.if_icmp .ne 9, 3) := by decide +kernel
theorem dd_Ref_make_101 : decode prog_14_method_43_code 101 = .ok (.aload_n 0, 1) := by decide +kernel
theorem dd_Ref_make_102 : decode prog_14_method_43_code 102 = .ok (.iconst 2, 1) := by decide +kernel
theorem dd_Ref_make_103 : decode prog_14_method_43_code 103 = .ok (.invokevirtual 109, 3) := by decide +kernel
theorem dd_Ref_make_106 : decode prog_14_method_43_code 106 = .ok (.ireturn, 1) := by decide +kernel
theorem dd_Ref_make_107 : decode prog_14_method_43_code 107 = .ok (.aload_n 0, 1) := by decide +kernel
theorem dd_Ref_make_108 : decode prog_14_method_43_code 108 = .ok (.iconst 0, 1) := by decide +kernel
theorem dd_Ref_make_109 : decode prog_14_method_43_code 109 = .ok (.putfield 102, 3) := by decide +kernel
theorem dd_Ref_make_112 : decode prog_14_method_43_code 112 = .ok (.aload_n 0, 1) := by decide +kernel
theorem dd_Ref_make_113 : decode prog_14_method_43_code 113 = .ok (.iload_n 1, 1) := by decide +kernel
theorem dd_Ref_make_114 : decode prog_14_method_43_code 114 = .ok (.invokevirtual 239, 3) := by decide +kernel
theorem dd_Ref_make_117 : decode prog_14_method_43_code 117 = .ok (.istore 5, 2) := by decide +kernel
theorem dd_Ref_make_119 : decode prog_14_method_43_code 119 = .ok (.aload_n 0, 1) := by decide +kernel
theorem dd_Ref_make_120 : decode prog_14_method_43_code 120 = .ok (.getfield 72, 3) := by decide +kernel
theorem dd_Ref_make_123 : decode prog_14_method_43_code 123 = .ok (.bipush 16, 2) := by decide +kernel
theorem dd_Ref_make_125 : decode prog_14_method_43_code 125 = .ok (.iload 5, 2) := by decide +kernel
theorem dd_Ref_make_127 : decode prog_14_method_43_code 127 = .ok (.imul, 1) := by decide +kernel
theorem dd_Ref_make_128 : decode prog_14_method_43_code 128 = .ok (.aload_n 0, 1) := by decide +kernel
theorem dd_Ref_make_129 : decode prog_14_method_43_code 129 = .ok (.getfield 13, 3) := by decide +kernel
theorem dd_Ref_make_132 : decode prog_14_method_43_code 132 = .ok (.iload_n 1, 1) := by decide +kernel
theorem dd_Ref_make_133 : decode prog_14_method_43_code 133 = .ok (.iaload, 1) := by decide +kernel
theorem dd_Ref_make_134 : decode prog_14_method_43_code 134 = .ok (.iconst 1, 1) := by decide +kernel
theorem dd_Ref_make_135 : decode prog_14_method_43_code 135 = .ok (.if_icmp .ne 7, 3) := by decide +kernel
theorem dd_Ref_make_138 : decode prog_14_method_43_code 138 = .ok (.lload_n 2, 1) := by decide +kernel
theorem dd_Ref_make_139 : decode prog_14_method_43_code 139 = .ok (.goto 13, 3) := by decide +kernel
theorem dd_Ref_make_142 : decode prog_14_method_43_code 142 = .ok (.aload_n 0, 1) := by decide +kernel
theorem dd_Ref_make_143 : decode prog_14_method_43_code 143 = .ok (.getfield 72, 3) := by decide +kernel
theorem dd_Ref_make_146 : decode prog_14_method_43_code 146 = .ok (.bipush 16, 2) := by decide +kernel
theorem dd_Ref_make_148 : decode prog_14_method_43_code 148 = .ok (.iload 5, 2) := by decide +kernel
theorem dd_Ref_make_150 : decode prog_14_method_43_code 150 = .ok (.imul, 1) := by decide +kernel
theorem dd_Ref_make_151 : decode prog_14_method_43_code 151 = .ok (.laload, 1) := by decide +kernel
theorem dd_Ref_make_152 : decode prog_14_method_43_code 152 = .ok (.lastore, 1) := by decide +kernel
theorem dd_Ref_make_153 : decode prog_14_method_43_code 153 = .ok (.iconst 0, 1) := by decide +kernel
theorem dd_Ref_make_154 : decode prog_14_method_43_code 154 = .ok (.istore 6, 2) := by decide +kernel
theorem dd_Ref_make_156 : decode prog_14_method_43_code 156 = .ok (.iload 6, 2) := by decide +kernel
theorem dd_Ref_make_158 : decode prog_14_method_43_code 158 = .ok (.bipush 8, 2) := by decide +kernel
theorem dd_Ref_make_160 : decode prog_14_method_43_code 160 = .ok (.if_icmp .ge 67, 3) := by decide +kernel
theorem dd_Ref_make_163 : decode prog_14_method_43_code 163 = .ok (.iload_n 1, 1) := by decide +kernel
theorem dd_Ref_make_164 : decode prog_14_method_43_code 164 = .ok (.bipush 14, 2) := by decide +kernel
theorem dd_Ref_make_166 : decode prog_14_method_43_code 166 = .ok (.if_icmp .ne 61, 3) := by decide +kernel
theorem dd_Ref_make_169 : decode prog_14_method_43_code 169 = .ok (.lload_n 2, 1) := by decide +kernel
theorem dd_Ref_make_170 : decode prog_14_method_43_code 170 = .ok (.bipush 8, 2) := by decide +kernel
theorem dd_Ref_make_172 : decode prog_14_method_43_code 172 = .ok (.iload 6, 2) := by decide +kernel
theorem dd_Ref_make_174 : decode prog_14_method_43_code 174 = .ok (.imul, 1) := by decide +kernel
theorem dd_Ref_make_175 : decode prog_14_method_43_code 175 = .ok (.lshr, 1) := by decide +kernel
theorem dd_Ref_make_176 : decode prog_14_method_43_code 176 = .ok (.ldc2_w 113, 3) := by decide +kernel
theorem dd_Ref_make_179 : decode prog_14_method_43_code 179 = .ok (.land, 1) := by decide +kernel
theorem dd_Ref_make_180 : decode prog_14_method_43_code 180 = .ok (.lconst 0, 1) := by decide +kernel
theorem dd_Ref_make_181 : decode prog_14_method_43_code 181 = .ok (.lcmp, 1) := by decide +kernel
theorem dd_Ref_make_182 : decode prog_14_method_43_code 182 = .ok (.ifCond .eq 45, 3) := by decide +kernel
theorem dd_Ref_make_185 : decode prog_14_method_43_code 185 = .ok (.aload_n 0, 1) := by decide +kernel
theorem dd_Ref_make_186 : decode prog_14_method_43_code 186 = .ok (.getfield 75, 3) := by decide +kernel
theorem dd_Ref_make_189 : decode prog_14_method_43_code 189 = .ok (.bipush 24, 2) := by decide +kernel
theorem dd_Ref_make_191 : decode prog_14_method_43_code 191 = .ok (.iload 5, 2) := by decide +kernel
theorem dd_Ref_make_193 : decode prog_14_method_43_code 193 = .ok (.imul, 1) := by decide +kernel
theorem dd_Ref_make_194 : decode prog_14_method_43_code 194 = .ok (.iload 6, 2) := by decide +kernel
theorem dd_Ref_make_196 : decode prog_14_method_43_code 196 = .ok (.iadd, 1) := by decide +kernel
theorem dd_Ref_make_197 : decode prog_14_method_43_code 197 = .ok (.lload_n 2, 1) := by decide +kernel
theorem dd_Ref_make_198 : decode prog_14_method_43_code 198 = .ok (.bipush 8, 2) := by decide +kernel
theorem dd_Ref_make_200 : decode prog_14_method_43_code 200 = .ok (.iload 6, 2) := by decide +kernel
theorem dd_Ref_make_202 : decode prog_14_method_43_code 202 = .ok (.imul, 1) := by decide +kernel
theorem dd_Ref_make_203 : decode prog_14_method_43_code 203 = .ok (.lshr, 1) := by decide +kernel
theorem dd_Ref_make_204 : decode prog_14_method_43_code 204 = .ok (.ldc2_w 113, 3) := by decide +kernel
theorem dd_Ref_make_207 : decode prog_14_method_43_code 207 = .ok (.land, 1) := by decide +kernel
theorem dd_Ref_make_208 : decode prog_14_method_43_code 208 = .ok (.l2i, 1) := by decide +kernel
theorem dd_Ref_make_209 : decode prog_14_method_43_code 209 = .ok (.iastore, 1) := by decide +kernel
theorem dd_Ref_make_210 : decode prog_14_method_43_code 210 = .ok (.aload_n 0, 1) := by decide +kernel
theorem dd_Ref_make_211 : decode prog_14_method_43_code 211 = .ok (.getfield 69, 3) := by decide +kernel
theorem dd_Ref_make_214 : decode prog_14_method_43_code 214 = .ok (.iload 5, 2) := by decide +kernel
theorem dd_Ref_make_216 : decode prog_14_method_43_code 216 = .ok (.dup2, 1) := by decide +kernel
theorem dd_Ref_make_217 : decode prog_14_method_43_code 217 = .ok (.iaload, 1) := by decide +kernel
theorem dd_Ref_make_218 : decode prog_14_method_43_code 218 = .ok (.iconst 1, 1) := by decide +kernel
theorem dd_Ref_make_219 : decode prog_14_method_43_code 219 = .ok (.iadd, 1) := by decide +kernel
theorem dd_Ref_make_220 : decode prog_14_method_43_code 220 = .ok (.iastore, 1) := by decide +kernel
theorem dd_Ref_make_221 : decode prog_14_method_43_code 221 = .ok (.iinc 6 1, 3) := by decide +kernel
theorem dd_Ref_make_224 : decode prog_14_method_43_code 224 = .ok (.goto (-68), 3) := by decide +kernel
theorem dd_Ref_make_227 : decode prog_14_method_43_code 227 = .ok (.iload 5, 2) := by decide +kernel
theorem dd_Ref_make_229 : decode prog_14_method_43_code 229 = .ok (.ireturn, 1) := by decide +kernel
theorem dd_Ref_isObject_0 : decode prog_14_method_44_code 0 = .ok (.iload_n 1, 1) := by decide +kernel
theorem dd_Ref_isObject_1 : decode prog_14_method_44_code 1 = .ok (.ifCond .lt 15, 3) := by decide +kernel
theorem dd_Ref_isObject_4 : decode prog_14_method_44_code 4 = .ok (.iload_n 1, 1) := by decide +kernel
theorem dd_Ref_isObject_5 : decode prog_14_method_44_code 5 = .ok (.aload_n 0, 1) := by decide +kernel
theorem dd_Ref_isObject_6 : decode prog_14_method_44_code 6 = .ok (.getfield 133, 3) := by decide +kernel
theorem dd_Ref_isObject_9 : decode prog_14_method_44_code 9 = .ok (.if_icmp .ge 7, 3) := by decide +kernel
theorem dd_Ref_isObject_12 : decode prog_14_method_44_code 12 = .ok (.iconst 1, 1) := by decide +kernel
theorem dd_Ref_isObject_13 : decode prog_14_method_44_code 13 = .ok (.goto 4, 3) := by decide +kernel
theorem dd_Ref_isObject_16 : decode prog_14_method_44_code 16 = .ok (.iconst 0, 1) := by decide +kernel
theorem dd_Ref_isObject_17 : decode prog_14_method_44_code 17 = .ok (.ireturn, 1) := by decide +kernel
theorem dd_Ref_put_0 : decode prog_14_method_45_code 0 = .ok (.aload_n 0, 1) := by decide +kernel
theorem dd_Ref_put_1 : decode prog_14_method_45_code 1 = .ok (.iconst 0, 1) := by decide +kernel
theorem dd_Ref_put_2 : decode prog_14_method_45_code 2 = .ok (.putfield 102, 3) := by decide +kernel
theorem dd_Ref_put_5 : decode prog_14_method_45_code 5 = .ok (.aload_n 0, 1) := by decide +kernel
theorem dd_Ref_put_6 : decode prog_14_method_45_code 6 = .ok (.iload_n 1, 1) := by decide +kernel
theorem dd_Ref_put_7 : decode prog_14_method_45_code 7 = .ok (.invokevirtual 242, 3) := by decide +kernel
theorem dd_Ref_put_10 : decode prog_14_method_45_code 10 = .ok (.ifCond .eq 33, 3) := by decide +kernel
theorem dd_Ref_put_13 : decode prog_14_method_45_code 13 = .ok (.aload_n 0, 1) := by decide +kernel
theorem dd_Ref_put_14 : decode prog_14_method_45_code 14 = .ok (.getfield 13, 3) := by decide +kernel
theorem dd_Ref_put_17 : decode prog_14_method_45_code 17 = .ok (.aload_n 0, 1) := by decide +kernel
theorem dd_Ref_put_18 : decode prog_14_method_45_code 18 = .ok (.getfield 66, 3) := by decide +kernel
theorem dd_Ref_put_21 : decode prog_14_method_45_code 21 = .ok (.iload_n 1, 1) := by decide +kernel
theorem dd_Ref_put_22 : decode prog_14_method_45_code 22 = .ok (.iaload, 1) := by decide +kernel
theorem dd_Ref_put_23 : decode prog_14_method_45_code 23 = .ok (.iaload, 1) := by decide +kernel
theorem dd_Ref_put_24 : decode prog_14_method_45_code 24 = .ok (.iconst 4, 1) := by decide +kernel
theorem dd_Ref_put_25 : decode prog_14_method_45_code 25 = .ok (.if_icmp .eq 20, 3) := by decide +kernel
theorem dd_Ref_put_28 : decode prog_14_method_45_code 28 = .ok (.aload_n 0, 1) := by decide +kernel
theorem dd_Ref_put_29 : decode prog_14_method_45_code 29 = .ok (.getfield 13, 3) := by decide +kernel
theorem dd_Ref_put_32 : decode prog_14_method_45_code 32 = .ok (.aload_n 0, 1) := by decide +kernel
theorem dd_Ref_put_33 : decode prog_14_method_45_code 33 = .ok (.getfield 66, 3) := by decide +kernel
theorem dd_Ref_put_36 : decode prog_14_method_45_code 36 = .ok (.iload_n 1, 1) := by decide +kernel
theorem dd_Ref_put_37 : decode prog_14_method_45_code 37 = .ok (.iaload, 1) := by decide +kernel
theorem dd_Ref_put_38 : decode prog_14_method_45_code 38 = .ok (.iaload, 1) := by decide +kernel
theorem dd_Ref_put_39 : decode prog_14_method_45_code 39 = .ok (.iconst 5, 1) := by decide +kernel
theorem dd_Ref_put_40 : decode prog_14_method_45_code 40 = .ok (.if_icmp .eq 5, 3) := by decide +kernel
theorem dd_Ref_put_43 : decode prog_14_method_45_code 43 = .ok (.iconst 0, 1) := by decide +kernel
theorem dd_Ref_put_44 : decode prog_14_method_45_code 44 = .ok (.ireturn, 1) := by decide +kernel
theorem dd_Ref_put_45 : decode prog_14_method_45_code 45 = .ok (.aload_n 0, 1) := by decide +kernel
theorem dd_Ref_put_46 : decode prog_14_method_45_code 46 = .ok (.getfield 13, 3) := by decide +kernel
theorem dd_Ref_put_49 : decode prog_14_method_45_code 49 = .ok (.aload_n 0, 1) := by decide +kernel
theorem dd_Ref_put_50 : decode prog_14_method_45_code 50 = .ok (.getfield 66, 3) := by decide +kernel
theorem dd_Ref_put_53 : decode prog_14_method_45_code 53 = .ok (.iload_n 1, 1) := by decide +kernel
theorem dd_Ref_put_54 : decode prog_14_method_45_code 54 = .ok (.iaload, 1) := by decide +kernel
theorem dd_Ref_put_55 : decode prog_14_method_45_code 55 = .ok (.iaload, 1) := by decide +kernel
theorem dd_Ref_put_56 : decode prog_14_method_45_code 56 = .ok (.iconst 5, 1) := by decide +kernel
theorem dd_Ref_put_57 : decode prog_14_method_45_code 57 = .ok (.if_icmp .ne 7, 3) := by decide +kernel
theorem dd_Ref_put_60 : decode prog_14_method_45_code 60 = .ok (.iconst 1, 1) := by decide +kernel
theorem dd_Ref_put_61 : decode prog_14_method_45_code 61 = .ok (.goto 4, 3) := by decide +kernel
theorem dd_Ref_put_64 : decode prog_14_method_45_code 64 = .ok (.iconst 0, 1) := by decide +kernel
theorem dd_Ref_put_65 : decode prog_14_method_45_code 65 = .ok (.istore 5, 2) := by decide +kernel
theorem dd_Ref_put_67 : decode prog_14_method_45_code 67 = .ok (.iload 5, 2) := by decide +kernel
theorem dd_Ref_put_69 : decode prog_14_method_45_code 69 = .ok (.ifCond .ne 22, 3) := by decide +kernel
theorem dd_Ref_put_72 : decode prog_14_method_45_code 72 = .ok (.iload_n 2, 1) := by decide +kernel
theorem dd_Ref_put_73 : decode prog_14_method_45_code 73 = .ok (.ifCond .lt 34, 3) := by decide +kernel
theorem dd_Ref_put_76 : decode prog_14_method_45_code 76 = .ok (.iload_n 2, 1) := by decide +kernel
theorem dd_Ref_put_77 : decode prog_14_method_45_code 77 = .ok (.aload_n 0, 1) := by decide +kernel
theorem dd_Ref_put_78 : decode prog_14_method_45_code 78 = .ok (.getfield 17, 3) := by decide +kernel
theorem dd_Ref_put_81 : decode prog_14_method_45_code 81 = .ok (.aload_n 0, 1) := by decide +kernel
theorem dd_Ref_put_82 : decode prog_14_method_45_code 82 = .ok (.getfield 66, 3) := by decide +kernel
theorem dd_Ref_put_85 : decode prog_14_method_45_code 85 = .ok (.iload_n 1, 1) := by decide +kernel
theorem dd_Ref_put_86 : decode prog_14_method_45_code 86 = .ok (.iaload, 1) := by decide +kernel
theorem dd_Ref_put_87 : decode prog_14_method_45_code 87 = .ok (.iaload, 1) := by decide +kernel
theorem dd_Ref_put_88 : decode prog_14_method_45_code 88 = .ok (.if_icmp .ge 19, 3) := by decide +kernel
theorem dd_Ref_put_91 : decode prog_14_method_45_code 91 = .ok (.iload 5, 2) := by decide +kernel
theorem dd_Ref_put_93 : decode prog_14_method_45_code 93 = .ok (.ifCond .eq 16, 3) := by decide +kernel
theorem dd_Ref_put_96 : decode prog_14_method_45_code 96 = .ok (.aload_n 0, 1) := by decide +kernel
theorem dd_Ref_put_97 : decode prog_14_method_45_code 97 = .ok (.getfield 69, 3) := by decide +kernel
theorem dd_Ref_put_100 : decode prog_14_method_45_code 100 = .ok (.iload_n 1, 1) := by decide +kernel
theorem dd_Ref_put_101 : decode prog_14_method_45_code 101 = .ok (.iaload, 1) := by decide +kernel
theorem dd_Ref_put_102 : decode prog_14_method_45_code 102 = .ok (.bipush 16, 2) := by decide +kernel
theorem dd_Ref_put_104 : decode prog_14_method_45_code 104 = .ok (.if_icmp .ne 5, 3) := by decide +kernel
theorem dd_Ref_put_107 : decode prog_14_method_45_code 107 = .ok (.iconst 0, 1) := by decide +kernel
theorem dd_Ref_put_108 : decode prog_14_method_45_code 108 = .ok (.ireturn, 1) := by decide +kernel
theorem dd_Ref_put_109 : decode prog_14_method_45_code 109 = .ok (.iload 5, 2) := by decide +kernel
theorem dd_Ref_put_111 : decode prog_14_method_45_code 111 = .ok (.ifCond .eq 12, 3) := by decide +kernel
theorem dd_Ref_put_114 : decode prog_14_method_45_code 114 = .ok (.aload_n 0, 1) := by decide +kernel
theorem dd_Ref_put_115 : decode prog_14_method_45_code 115 = .ok (.getfield 69, 3) := by decide +kernel
theorem dd_Ref_put_118 : decode prog_14_method_45_code 118 = .ok (.iload_n 1, 1) := by decide +kernel
theorem dd_Ref_put_119 : decode prog_14_method_45_code 119 = .ok (.iaload, 1) := by decide +kernel
theorem dd_Ref_put_120 : decode prog_14_method_45_code 120 = .ok (.goto 4, 3) := by decide +kernel
theorem dd_Ref_put_123 : decode prog_14_method_45_code 123 = .ok (.iload_n 2, 1) := by decide +kernel
theorem dd_Ref_put_124 : decode prog_14_method_45_code 124 = .ok (.istore 6, 2) := by decide +kernel
theorem dd_Ref_put_126 : decode prog_14_method_45_code 126 = .ok (.aload_n 0, 1) := by decide +kernel
theorem dd_Ref_put_127 : decode prog_14_method_45_code 127 = .ok (.iload 5, 2) := by decide +kernel
theorem dd_Ref_put_129 : decode prog_14_method_45_code 129 = .ok (.ifCond .eq 17, 3) := by decide +kernel
theorem dd_Ref_put_132 : decode prog_14_method_45_code 132 = .ok (.aload_n 0, 1) := by decide +kernel
theorem dd_Ref_put_133 : decode prog_14_method_45_code 133 = .ok (.getfield 26, 3) := by decide +kernel
theorem dd_Ref_put_136 : decode prog_14_method_45_code 136 = .ok (.aload_n 0, 1) := by decide +kernel
theorem dd_Ref_put_137 : decode prog_14_method_45_code 137 = .ok (.getfield 66, 3) := by decide +kernel
theorem dd_Ref_put_140 : decode prog_14_method_45_code 140 = .ok (.iload_n 1, 1) := by decide +kernel
theorem dd_Ref_put_141 : decode prog_14_method_45_code 141 = .ok (.iaload, 1) := by decide +kernel
theorem dd_Ref_put_142 : decode prog_14_method_45_code 142 = .ok (.iaload, 1) := by decide +kernel
theorem dd_Ref_put_143 : decode prog_14_method_45_code 143 = .ok (.goto 20, 3) := by decide +kernel
theorem dd_Ref_put_146 : decode prog_14_method_45_code 146 = .ok (.aload_n 0, 1) := by decide +kernel
theorem dd_Ref_put_147 : decode prog_14_method_45_code 147 = .ok (.getfield 23, 3) := by decide +kernel
theorem dd_Ref_put_150 : decode prog_14_method_45_code 150 = .ok (.bipush 8, 2) := by decide +kernel
theorem dd_Ref_put_152 : decode prog_14_method_45_code 152 = .ok (.aload_n 0, 1) := by decide +kernel
theorem dd_Ref_put_153 : decode prog_14_method_45_code 153 = .ok (.getfield 66, 3) := by decide +kernel
theorem dd_Ref_put_156 : decode prog_14_method_45_code 156 = .ok (.iload_n 1, 1) := by decide +kernel
theorem dd_Ref_put_157 : decode prog_14_method_45_code 157 = .ok (.iaload, 1) := by decide +kernel
theorem dd_Ref_put_158 : decode prog_14_method_45_code 158 = .ok (.imul, 1) := by decide +kernel
theorem dd_Ref_put_159 : decode prog_14_method_45_code 159 = .ok (.iload 6, 2) := by decide +kernel
theorem dd_Ref_put_161 : decode prog_14_method_45_code 161 = .ok (.iadd, 1) := by decide +kernel
theorem dd_Ref_put_162 : decode prog_14_method_45_code 162 = .ok (.iaload, 1) := by decide +kernel
theorem dd_Ref_put_163 : decode prog_14_method_45_code 163 = .ok (.lload_n 3, 1) := by decide +kernel
theorem dd_Ref_put_164 : decode prog_14_method_45_code 164 = .ok (.invokevirtual 235, 3) := by decide +kernel
theorem dd_Ref_put_167 : decode prog_14_method_45_code 167 = .ok (.ifCond .ne 5, 3) := by decide +kernel
theorem dd_Ref_put_170 : decode prog_14_method_45_code 170 = .ok (.iconst 0, 1) := by decide +kernel
theorem dd_Ref_put_171 : decode prog_14_method_45_code 171 = .ok (.ireturn, 1) := by decide +kernel
theorem dd_Ref_put_172 : decode prog_14_method_45_code 172 = .ok (.aload_n 0, 1) := by decide +kernel
theorem dd_Ref_put_173 : decode prog_14_method_45_code 173 = .ok (.getfield 72, 3) := by decide +kernel
theorem dd_Ref_put_176 : decode prog_14_method_45_code 176 = .ok (.bipush 16, 2) := by decide +kernel
theorem dd_Ref_put_178 : decode prog_14_method_45_code 178 = .ok (.iload_n 1, 1) := by decide +kernel
theorem dd_Ref_put_179 : decode prog_14_method_45_code 179 = .ok (.imul, 1) := by decide +kernel
theorem dd_Ref_put_180 : decode prog_14_method_45_code 180 = .ok (.iload 6, 2) := by decide +kernel
theorem dd_Ref_put_182 : decode prog_14_method_45_code 182 = .ok (.iadd, 1) := by decide +kernel
theorem dd_Ref_put_183 : decode prog_14_method_45_code 183 = .ok (.lload_n 3, 1) := by decide +kernel
theorem dd_Ref_put_184 : decode prog_14_method_45_code 184 = .ok (.lastore, 1) := by decide +kernel
theorem dd_Ref_put_185 : decode prog_14_method_45_code 185 = .ok (.aload_n 0, 1) := by decide +kernel
theorem dd_Ref_put_186 : decode prog_14_method_45_code 186 = .ok (.getfield 69, 3) := by decide +kernel
theorem dd_Ref_put_189 : decode prog_14_method_45_code 189 = .ok (.iload_n 1, 1) := by decide +kernel
theorem dd_Ref_put_190 : decode prog_14_method_45_code 190 = .ok (.iload 5, 2) := by decide +kernel
theorem dd_Ref_put_192 : decode prog_14_method_45_code 192 = .ok (.ifCond .eq 10, 3) := by decide +kernel
theorem dd_Ref_put_195 : decode prog_14_method_45_code 195 = .ok (.iload 6, 2) := by decide +kernel
theorem dd_Ref_put_197 : decode prog_14_method_45_code 197 = .ok (.iconst 1, 1) := by decide +kernel
theorem dd_Ref_put_198 : decode prog_14_method_45_code 198 = .ok (.iadd, 1) := by decide +kernel
theorem dd_Ref_put_199 : decode prog_14_method_45_code 199 = .ok (.goto 9, 3) := by decide +kernel
theorem dd_Ref_put_202 : decode prog_14_method_45_code 202 = .ok (.aload_n 0, 1) := by decide +kernel
theorem dd_Ref_put_203 : decode prog_14_method_45_code 203 = .ok (.getfield 69, 3) := by decide +kernel
theorem dd_Ref_put_206 : decode prog_14_method_45_code 206 = .ok (.iload_n 1, 1) := by decide +kernel
theorem dd_Ref_put_207 : decode prog_14_method_45_code 207 = .ok (.iaload, 1) := by decide +kernel
theorem dd_Ref_put_208 : decode prog_14_method_45_code 208 = .ok (.iastore, 1) := by decide +kernel
theorem dd_Ref_put_209 : decode prog_14_method_45_code 209 = .ok (.iconst 1, 1) := by decide +kernel
theorem dd_Ref_put_210 : decode prog_14_method_45_code 210 = .ok (.ireturn, 1) := by decide +kernel
theorem dd_Ref_doubled_0 : decode prog_14_method_46_code 0 = .ok (.lload_n 0, 1) := by decide +kernel
theorem dd_Ref_doubled_1 : decode prog_14_method_46_code 1 = .ok (.lconst 0, 1) := by decide +kernel
theorem dd_Ref_doubled_2 : decode prog_14_method_46_code 2 = .ok (.lcmp, 1) := by decide +kernel
theorem dd_Ref_doubled_3 : decode prog_14_method_46_code 3 = .ok (.ifCond .ne 5, 3) := by decide +kernel
theorem dd_Ref_doubled_6 : decode prog_14_method_46_code 6 = .ok (.lconst 0, 1) := by decide +kernel
theorem dd_Ref_doubled_7 : decode prog_14_method_46_code 7 = .ok (.lreturn, 1) := by decide +kernel
theorem dd_Ref_doubled_8 : decode prog_14_method_46_code 8 = .ok (.lload_n 0, 1) := by decide +kernel
theorem dd_Ref_doubled_9 : decode prog_14_method_46_code 9 = .ok (.lconst 0, 1) := by decide +kernel
theorem dd_Ref_doubled_10 : decode prog_14_method_46_code 10 = .ok (.lcmp, 1) := by decide +kernel
theorem dd_Ref_doubled_11 : decode prog_14_method_46_code 11 = .ok (.ifCond .ge 7, 3) := by decide +kernel
theorem dd_Ref_doubled_14 : decode prog_14_method_46_code 14 = .ok (.iconst 1, 1) := by decide +kernel
theorem dd_Ref_doubled_15 : decode prog_14_method_46_code 15 = .ok (.goto 4, 3) := by decide +kernel
theorem dd_Ref_doubled_18 : decode prog_14_method_46_code 18 = .ok (.iconst 0, 1) := by decide +kernel
theorem dd_Ref_doubled_19 : decode prog_14_method_46_code 19 = .ok (.istore_n 2, 1) := by decide +kernel
theorem dd_Ref_doubled_20 : decode prog_14_method_46_code 20 = .ok (.iload_n 2, 1) := by decide +kernel
theorem dd_Ref_doubled_21 : decode prog_14_method_46_code 21 = .ok (.ifCond .eq 8, 3) := by decide +kernel
theorem dd_Ref_doubled_24 : decode prog_14_method_46_code 24 = .ok (.lload_n 0, 1) := by decide +kernel
theorem dd_Ref_doubled_25 : decode prog_14_method_46_code 25 = .ok (.lneg, 1) := by decide +kernel
theorem dd_Ref_doubled_26 : decode prog_14_method_46_code 26 = .ok (.goto 4, 3) := by decide +kernel
theorem dd_Ref_doubled_29 : decode prog_14_method_46_code 29 = .ok (.lload_n 0, 1) := by decide +kernel
theorem dd_Ref_doubled_30 : decode prog_14_method_46_code 30 = .ok (.lstore_n 3, 1) := by decide +kernel
theorem dd_Ref_doubled_31 : decode prog_14_method_46_code 31 = .ok (.bipush 63, 2) := by decide +kernel
theorem dd_Ref_doubled_33 : decode prog_14_method_46_code 33 = .ok (.istore 5, 2) := by decide +kernel
theorem dd_Ref_doubled_35 : decode prog_14_method_46_code 35 = .ok (.lload_n 3, 1) := by decide +kernel
theorem dd_Ref_doubled_36 : decode prog_14_method_46_code 36 = .ok (.lconst 0, 1) := by decide +kernel
theorem dd_Ref_doubled_37 : decode prog_14_method_46_code 37 = .ok (.lcmp, 1) := by decide +kernel
theorem dd_Ref_doubled_38 : decode prog_14_method_46_code 38 = .ok (.ifCond .lt 13, 3) := by decide +kernel
theorem dd_Ref_doubled_41 : decode prog_14_method_46_code 41 = .ok (.lload_n 3, 1) := by decide +kernel
theorem dd_Ref_doubled_42 : decode prog_14_method_46_code 42 = .ok (.iconst 1, 1) := by decide +kernel
theorem dd_Ref_doubled_43 : decode prog_14_method_46_code 43 = .ok (.lshl, 1) := by decide +kernel
theorem dd_Ref_doubled_44 : decode prog_14_method_46_code 44 = .ok (.lstore_n 3, 1) := by decide +kernel
theorem dd_Ref_doubled_45 : decode prog_14_method_46_code 45 = .ok (.iinc 5 (-1), 3) := by decide +kernel
theorem dd_Ref_doubled_48 : decode prog_14_method_46_code 48 = .ok (.goto (-13), 3) := by decide +kernel
theorem dd_Ref_doubled_51 : decode prog_14_method_46_code 51 = .ok (.lload_n 3, 1) := by decide +kernel
theorem dd_Ref_doubled_52 : decode prog_14_method_46_code 52 = .ok (.bipush 11, 2) := by decide +kernel
theorem dd_Ref_doubled_54 : decode prog_14_method_46_code 54 = .ok (.lushr, 1) := by decide +kernel
theorem dd_Ref_doubled_55 : decode prog_14_method_46_code 55 = .ok (.lstore 6, 2) := by decide +kernel
theorem dd_Ref_doubled_57 : decode prog_14_method_46_code 57 = .ok (.lload_n 3, 1) := by decide +kernel
theorem dd_Ref_doubled_58 : decode prog_14_method_46_code 58 = .ok (.ldc2_w 245, 3) := by decide +kernel
theorem dd_Ref_doubled_61 : decode prog_14_method_46_code 61 = .ok (.land, 1) := by decide +kernel
theorem dd_Ref_doubled_62 : decode prog_14_method_46_code 62 = .ok (.lstore 8, 2) := by decide +kernel
theorem dd_Ref_doubled_64 : decode prog_14_method_46_code 64 = .ok (.lload 6, 2) := by decide +kernel
theorem dd_Ref_doubled_66 : decode prog_14_method_46_code 66 = .ok (.lload 8, 2) := by decide +kernel
theorem dd_Ref_doubled_68 : decode prog_14_method_46_code 68 = .ok (.ldc2_w 247, 3) := by decide +kernel
theorem dd_Ref_doubled_71 : decode prog_14_method_46_code 71 = .ok (.lcmp, 1) := by decide +kernel
theorem dd_Ref_doubled_72 : decode prog_14_method_46_code 72 = .ok (.ifCond .gt 21, 3) := by decide +kernel
theorem dd_Ref_doubled_75 : decode prog_14_method_46_code 75 = .ok (.lload 8, 2) := by decide +kernel
theorem dd_Ref_doubled_77 : decode prog_14_method_46_code 77 = .ok (.ldc2_w 247, 3) := by decide +kernel
theorem dd_Ref_doubled_80 : decode prog_14_method_46_code 80 = .ok (.lcmp, 1) := by decide +kernel
theorem dd_Ref_doubled_81 : decode prog_14_method_46_code 81 = .ok (.ifCond .ne 16, 3) := by decide +kernel
theorem dd_Ref_doubled_84 : decode prog_14_method_46_code 84 = .ok (.lload 6, 2) := by decide +kernel
theorem dd_Ref_doubled_86 : decode prog_14_method_46_code 86 = .ok (.lconst 1, 1) := by decide +kernel
theorem dd_Ref_doubled_87 : decode prog_14_method_46_code 87 = .ok (.land, 1) := by decide +kernel
theorem dd_Ref_doubled_88 : decode prog_14_method_46_code 88 = .ok (.lconst 1, 1) := by decide +kernel
theorem dd_Ref_doubled_89 : decode prog_14_method_46_code 89 = .ok (.lcmp, 1) := by decide +kernel
theorem dd_Ref_doubled_90 : decode prog_14_method_46_code 90 = .ok (.ifCond .ne 7, 3) := by decide +kernel
theorem dd_Ref_doubled_93 : decode prog_14_method_46_code 93 = .ok (.lconst 1, 1) := by decide +kernel
theorem dd_Ref_doubled_94 : decode prog_14_method_46_code 94 = .ok (.goto 4, 3) := by decide +kernel
theorem dd_Ref_doubled_97 : decode prog_14_method_46_code 97 = .ok (.lconst 0, 1) := by decide +kernel
theorem dd_Ref_doubled_98 : decode prog_14_method_46_code 98 = .ok (.ladd, 1) := by decide +kernel
theorem dd_Ref_doubled_99 : decode prog_14_method_46_code 99 = .ok (.lstore 6, 2) := by decide +kernel
theorem dd_Ref_doubled_101 : decode prog_14_method_46_code 101 = .ok (.iload 5, 2) := by decide +kernel
theorem dd_Ref_doubled_103 : decode prog_14_method_46_code 103 = .ok (.sipush 1023, 3) := by decide +kernel
theorem dd_Ref_doubled_106 : decode prog_14_method_46_code 106 = .ok (.iadd, 1) := by decide +kernel
theorem dd_Ref_doubled_107 : decode prog_14_method_46_code 107 = .ok (.i2l, 1) := by decide +kernel
theorem dd_Ref_doubled_108 : decode prog_14_method_46_code 108 = .ok (.bipush 52, 2) := by decide +kernel
theorem dd_Ref_doubled_110 : decode prog_14_method_46_code 110 = .ok (.lshl, 1) := by decide +kernel
theorem dd_Ref_doubled_111 : decode prog_14_method_46_code 111 = .ok (.lload 6, 2) := by decide +kernel
theorem dd_Ref_doubled_113 : decode prog_14_method_46_code 113 = .ok (.ldc2_w 249, 3) := by decide +kernel
theorem dd_Ref_doubled_116 : decode prog_14_method_46_code 116 = .ok (.lsub, 1) := by decide +kernel
theorem dd_Ref_doubled_117 : decode prog_14_method_46_code 117 = .ok (.ladd, 1) := by decide +kernel
theorem dd_Ref_doubled_118 : decode prog_14_method_46_code 118 = .ok (.lstore 10, 2) := by decide +kernel
theorem dd_Ref_doubled_120 : decode prog_14_method_46_code 120 = .ok (.iload_n 2, 1) := by decide +kernel
theorem dd_Ref_doubled_121 : decode prog_14_method_46_code 121 = .ok (.ifCond .eq 12, 3) := by decide +kernel
theorem dd_Ref_doubled_124 : decode prog_14_method_46_code 124 = .ok (.lload 10, 2) := by decide +kernel
theorem dd_Ref_doubled_126 : decode prog_14_method_46_code 126 = .ok (.ldc2_w 251, 3) := by decide +kernel
theorem dd_Ref_doubled_129 : decode prog_14_method_46_code 129 = .ok (.lor, 1) := by decide +kernel
theorem dd_Ref_doubled_130 : decode prog_14_method_46_code 130 = .ok (.goto 5, 3) := by decide +kernel
theorem dd_Ref_doubled_133 : decode prog_14_method_46_code 133 = .ok (.lload 10, 2) := by decide +kernel
theorem dd_Ref_doubled_135 : decode prog_14_method_46_code 135 = .ok (.lreturn, 1) := by decide +kernel
theorem dd_Ref_whole_0 : decode prog_14_method_47_code 0 = .ok (.lload_n 0, 1) := by decide +kernel
theorem dd_Ref_whole_1 : decode prog_14_method_47_code 1 = .ok (.lconst 0, 1) := by decide +kernel
theorem dd_Ref_whole_2 : decode prog_14_method_47_code 2 = .ok (.lcmp, 1) := by decide +kernel
theorem dd_Ref_whole_3 : decode prog_14_method_47_code 3 = .ok (.ifCond .ge 7, 3) := by decide +kernel
theorem dd_Ref_whole_6 : decode prog_14_method_47_code 6 = .ok (.iconst 1, 1) := by decide +kernel
theorem dd_Ref_whole_7 : decode prog_14_method_47_code 7 = .ok (.goto 4, 3) := by decide +kernel
theorem dd_Ref_whole_10 : decode prog_14_method_47_code 10 = .ok (.iconst 0, 1) := by decide +kernel
theorem dd_Ref_whole_11 : decode prog_14_method_47_code 11 = .ok (.istore 6, 2) := by decide +kernel
theorem dd_Ref_whole_13 : decode prog_14_method_47_code 13 = .ok (.lload_n 0, 1) := by decide +kernel
theorem dd_Ref_whole_14 : decode prog_14_method_47_code 14 = .ok (.bipush 52, 2) := by decide +kernel
theorem dd_Ref_whole_16 : decode prog_14_method_47_code 16 = .ok (.lshr, 1) := by decide +kernel
theorem dd_Ref_whole_17 : decode prog_14_method_47_code 17 = .ok (.ldc2_w 245, 3) := by decide +kernel
theorem dd_Ref_whole_20 : decode prog_14_method_47_code 20 = .ok (.land, 1) := by decide +kernel
theorem dd_Ref_whole_21 : decode prog_14_method_47_code 21 = .ok (.l2i, 1) := by decide +kernel
theorem dd_Ref_whole_22 : decode prog_14_method_47_code 22 = .ok (.sipush 1023, 3) := by decide +kernel
theorem dd_Ref_whole_25 : decode prog_14_method_47_code 25 = .ok (.isub, 1) := by decide +kernel
theorem dd_Ref_whole_26 : decode prog_14_method_47_code 26 = .ok (.istore 7, 2) := by decide +kernel
theorem dd_Ref_whole_28 : decode prog_14_method_47_code 28 = .ok (.lload_n 0, 1) := by decide +kernel
theorem dd_Ref_whole_29 : decode prog_14_method_47_code 29 = .ok (.ldc2_w 253, 3) := by decide +kernel
theorem dd_Ref_whole_32 : decode prog_14_method_47_code 32 = .ok (.land, 1) := by decide +kernel
theorem dd_Ref_whole_33 : decode prog_14_method_47_code 33 = .ok (.ldc2_w 249, 3) := by decide +kernel
theorem dd_Ref_whole_36 : decode prog_14_method_47_code 36 = .ok (.lor, 1) := by decide +kernel
theorem dd_Ref_whole_37 : decode prog_14_method_47_code 37 = .ok (.lstore 8, 2) := by decide +kernel
theorem dd_Ref_whole_39 : decode prog_14_method_47_code 39 = .ok (.iload 7, 2) := by decide +kernel
theorem dd_Ref_whole_41 : decode prog_14_method_47_code 41 = .ok (.ifCond .ge 5, 3) := by decide +kernel
theorem dd_Ref_whole_44 : decode prog_14_method_47_code 44 = .ok (.lconst 0, 1) := by decide +kernel
theorem dd_Ref_whole_45 : decode prog_14_method_47_code 45 = .ok (.lreturn, 1) := by decide +kernel
theorem dd_Ref_whole_46 : decode prog_14_method_47_code 46 = .ok (.iload 7, 2) := by decide +kernel
theorem dd_Ref_whole_48 : decode prog_14_method_47_code 48 = .ok (.bipush 62, 2) := by decide +kernel
theorem dd_Ref_whole_50 : decode prog_14_method_47_code 50 = .ok (.if_icmp .le 15, 3) := by decide +kernel
theorem dd_Ref_whole_53 : decode prog_14_method_47_code 53 = .ok (.iload 6, 2) := by decide +kernel
theorem dd_Ref_whole_55 : decode prog_14_method_47_code 55 = .ok (.ifCond .eq 7, 3) := by decide +kernel
theorem dd_Ref_whole_58 : decode prog_14_method_47_code 58 = .ok (.lload_n 2, 1) := by decide +kernel
theorem dd_Ref_whole_59 : decode prog_14_method_47_code 59 = .ok (.goto 5, 3) := by decide +kernel
theorem dd_Ref_whole_62 : decode prog_14_method_47_code 62 = .ok (.lload 4, 2) := by decide +kernel
theorem dd_Ref_whole_64 : decode prog_14_method_47_code 64 = .ok (.lreturn, 1) := by decide +kernel
theorem dd_Ref_whole_65 : decode prog_14_method_47_code 65 = .ok (.iload 7, 2) := by decide +kernel
theorem dd_Ref_whole_67 : decode prog_14_method_47_code 67 = .ok (.bipush 52, 2) := by decide +kernel
theorem dd_Ref_whole_69 : decode prog_14_method_47_code 69 = .ok (.if_icmp .le 14, 3) := by decide +kernel
theorem dd_Ref_whole_72 : decode prog_14_method_47_code 72 = .ok (.lload 8, 2) := by decide +kernel
theorem dd_Ref_whole_74 : decode prog_14_method_47_code 74 = .ok (.iload 7, 2) := by decide +kernel
theorem dd_Ref_whole_76 : decode prog_14_method_47_code 76 = .ok (.bipush 52, 2) := by decide +kernel
theorem dd_Ref_whole_78 : decode prog_14_method_47_code 78 = .ok (.isub, 1) := by decide +kernel
theorem dd_Ref_whole_79 : decode prog_14_method_47_code 79 = .ok (.lshl, 1) := by decide +kernel
theorem dd_Ref_whole_80 : decode prog_14_method_47_code 80 = .ok (.goto 11, 3) := by decide +kernel
theorem dd_Ref_whole_83 : decode prog_14_method_47_code 83 = .ok (.lload 8, 2) := by decide +kernel
theorem dd_Ref_whole_85 : decode prog_14_method_47_code 85 = .ok (.bipush 52, 2) := by decide +kernel
theorem dd_Ref_whole_87 : decode prog_14_method_47_code 87 = .ok (.iload 7, 2) := by decide +kernel
theorem dd_Ref_whole_89 : decode prog_14_method_47_code 89 = .ok (.isub, 1) := by decide +kernel
theorem dd_Ref_whole_90 : decode prog_14_method_47_code 90 = .ok (.lshr, 1) := by decide +kernel
theorem dd_Ref_whole_91 : decode prog_14_method_47_code 91 = .ok (.lstore 10, 2) := by decide +kernel
theorem dd_Ref_whole_93 : decode prog_14_method_47_code 93 = .ok (.iload 6, 2) := by decide +kernel
theorem dd_Ref_whole_95 : decode prog_14_method_47_code 95 = .ok (.ifCond .eq 9, 3) := by decide +kernel
theorem dd_Ref_whole_98 : decode prog_14_method_47_code 98 = .ok (.lload 10, 2) := by decide +kernel
theorem dd_Ref_whole_100 : decode prog_14_method_47_code 100 = .ok (.lneg, 1) := by decide +kernel
theorem dd_Ref_whole_101 : decode prog_14_method_47_code 101 = .ok (.goto 5, 3) := by decide +kernel
theorem dd_Ref_whole_104 : decode prog_14_method_47_code 104 = .ok (.lload 10, 2) := by decide +kernel
theorem dd_Ref_whole_106 : decode prog_14_method_47_code 106 = .ok (.lstore 10, 2) := by decide +kernel
theorem dd_Ref_whole_108 : decode prog_14_method_47_code 108 = .ok (.lload 10, 2) := by decide +kernel
theorem dd_Ref_whole_110 : decode prog_14_method_47_code 110 = .ok (.lload_n 2, 1) := by decide +kernel
theorem dd_Ref_whole_111 : decode prog_14_method_47_code 111 = .ok (.lcmp, 1) := by decide +kernel
theorem dd_Ref_whole_112 : decode prog_14_method_47_code 112 = .ok (.ifCond .ge 7, 3) := by decide +kernel
theorem dd_Ref_whole_115 : decode prog_14_method_47_code 115 = .ok (.lload_n 2, 1) := by decide +kernel
theorem dd_Ref_whole_116 : decode prog_14_method_47_code 116 = .ok (.goto 18, 3) := by decide +kernel
theorem dd_Ref_whole_119 : decode prog_14_method_47_code 119 = .ok (.lload 10, 2) := by decide +kernel
theorem dd_Ref_whole_121 : decode prog_14_method_47_code 121 = .ok (.lload 4, 2) := by decide +kernel
theorem dd_Ref_whole_123 : decode prog_14_method_47_code 123 = .ok (.lcmp, 1) := by decide +kernel
theorem dd_Ref_whole_124 : decode prog_14_method_47_code 124 = .ok (.ifCond .le 8, 3) := by decide +kernel
theorem dd_Ref_whole_127 : decode prog_14_method_47_code 127 = .ok (.lload 4, 2) := by decide +kernel
theorem dd_Ref_whole_129 : decode prog_14_method_47_code 129 = .ok (.goto 5, 3) := by decide +kernel
theorem dd_Ref_whole_132 : decode prog_14_method_47_code 132 = .ok (.lload 10, 2) := by decide +kernel
theorem dd_Ref_whole_134 : decode prog_14_method_47_code 134 = .ok (.lreturn, 1) := by decide +kernel
theorem dd_Ref_castFrom_0 : decode prog_14_method_48_code 0 = .ok (.iload_n 2, 1) := by decide +kernel
theorem dd_Ref_castFrom_1 : decode prog_14_method_48_code 1 = .ok (.iload_n 3, 1) := by decide +kernel
theorem dd_Ref_castFrom_2 : decode prog_14_method_48_code 2 = .ok (.if_icmp .ne 5, 3) := by decide +kernel
theorem dd_Ref_castFrom_5 : decode prog_14_method_48_code 5 = .ok (.lload_n 0, 1) := by decide +kernel
theorem dd_Ref_castFrom_6 : decode prog_14_method_48_code 6 = .ok (.lreturn, 1) := by decide +kernel
theorem dd_Ref_castFrom_7 : decode prog_14_method_48_code 7 = .ok (.iload_n 3, 1) := by decide +kernel
theorem dd_Ref_castFrom_8 : decode prog_14_method_48_code 8 = .ok (.bipush 6, 2) := by decide +kernel
theorem dd_Ref_castFrom_10 : decode prog_14_method_48_code 10 = .ok (.if_icmp .ne 8, 3) := by decide +kernel
theorem dd_Ref_castFrom_13 : decode prog_14_method_48_code 13 = .ok (.lload_n 0, 1) := by decide +kernel
theorem dd_Ref_castFrom_14 : decode prog_14_method_48_code 14 = .ok (.invokestatic 255, 3) := by decide +kernel
theorem dd_Ref_castFrom_17 : decode prog_14_method_48_code 17 = .ok (.lreturn, 1) := by decide +kernel
theorem dd_Ref_castFrom_18 : decode prog_14_method_48_code 18 = .ok (.iload_n 2, 1) := by decide +kernel
theorem dd_Ref_castFrom_19 : decode prog_14_method_48_code 19 = .ok (.bipush 6, 2) := by decide +kernel
theorem dd_Ref_castFrom_21 : decode prog_14_method_48_code 21 = .ok (.if_icmp .eq 7, 3) := by decide +kernel
theorem dd_Ref_castFrom_24 : decode prog_14_method_48_code 24 = .ok (.lload_n 0, 1) := by decide +kernel
theorem dd_Ref_castFrom_25 : decode prog_14_method_48_code 25 = .ok (.goto 31, 3) := by decide +kernel
theorem dd_Ref_castFrom_28 : decode prog_14_method_48_code 28 = .ok (.iload_n 3, 1) := by decide +kernel
theorem dd_Ref_castFrom_29 : decode prog_14_method_48_code 29 = .ok (.iconst 4, 1) := by decide +kernel
theorem dd_Ref_castFrom_30 : decode prog_14_method_48_code 30 = .ok (.if_icmp .ne 16, 3) := by decide +kernel
theorem dd_Ref_castFrom_33 : decode prog_14_method_48_code 33 = .ok (.lload_n 0, 1) := by decide +kernel
theorem dd_Ref_castFrom_34 : decode prog_14_method_48_code 34 = .ok (.ldc2_w 251, 3) := by decide +kernel
theorem dd_Ref_castFrom_37 : decode prog_14_method_48_code 37 = .ok (.ldc2_w 220, 3) := by decide +kernel
theorem dd_Ref_castFrom_40 : decode prog_14_method_48_code 40 = .ok (.invokestatic 259, 3) := by decide +kernel
theorem dd_Ref_castFrom_43 : decode prog_14_method_48_code 43 = .ok (.goto 13, 3) := by decide +kernel
theorem dd_Ref_castFrom_46 : decode prog_14_method_48_code 46 = .ok (.lload_n 0, 1) := by decide +kernel
theorem dd_Ref_castFrom_47 : decode prog_14_method_48_code 47 = .ok (.ldc2_w 263, 3) := by decide +kernel
theorem dd_Ref_castFrom_50 : decode prog_14_method_48_code 50 = .ok (.ldc2_w 265, 3) := by decide +kernel
theorem dd_Ref_castFrom_53 : decode prog_14_method_48_code 53 = .ok (.invokestatic 259, 3) := by decide +kernel
theorem dd_Ref_castFrom_56 : decode prog_14_method_48_code 56 = .ok (.lstore 4, 2) := by decide +kernel
theorem dd_Ref_castFrom_58 : decode prog_14_method_48_code 58 = .ok (.lload 4, 2) := by decide +kernel
theorem dd_Ref_castFrom_60 : decode prog_14_method_48_code 60 = .ok (.iload_n 3, 1) := by decide +kernel
theorem dd_Ref_castFrom_61 : decode prog_14_method_48_code 61 = .ok (.invokestatic 224, 3) := by decide +kernel
theorem dd_Ref_castFrom_64 : decode prog_14_method_48_code 64 = .ok (.lreturn, 1) := by decide +kernel
theorem dd_Ref_write_0 : decode prog_14_method_49_code 0 = .ok (.aload_n 0, 1) := by decide +kernel
theorem dd_Ref_write_1 : decode prog_14_method_49_code 1 = .ok (.getfield 99, 3) := by decide +kernel
theorem dd_Ref_write_4 : decode prog_14_method_49_code 4 = .ok (.aload_n 0, 1) := by decide +kernel
theorem dd_Ref_write_5 : decode prog_14_method_49_code 5 = .ok (.getfield 267, 3) := by decide +kernel
theorem dd_Ref_write_8 : decode prog_14_method_49_code 8 = .ok (.iload_n 1, 1) := by decide +kernel
theorem dd_Ref_write_9 : decode prog_14_method_49_code 9 = .ok (.iastore, 1) := by decide +kernel
theorem dd_Ref_write_10 : decode prog_14_method_49_code 10 = .ok (.aload_n 0, 1) := by decide +kernel
theorem dd_Ref_write_11 : decode prog_14_method_49_code 11 = .ok (.dup, 1) := by decide +kernel
theorem dd_Ref_write_12 : decode prog_14_method_49_code 12 = .ok (.getfield 267, 3) := by decide +kernel
theorem dd_Ref_write_15 : decode prog_14_method_49_code 15 = .ok (.iconst 1, 1) := by decide +kernel
theorem dd_Ref_write_16 : decode prog_14_method_49_code 16 = .ok (.iadd, 1) := by decide +kernel
theorem dd_Ref_write_17 : decode prog_14_method_49_code 17 = .ok (.putfield 267, 3) := by decide +kernel
theorem dd_Ref_write_20 : decode prog_14_method_49_code 20 = .ok (.return_, 1) := by decide +kernel
theorem dd_Ref_writeNumber_0 : decode prog_14_method_50_code 0 = .ok (.lload_n 1, 1) := by decide +kernel
theorem dd_Ref_writeNumber_1 : decode prog_14_method_50_code 1 = .ok (.lconst 0, 1) := by decide +kernel
theorem dd_Ref_writeNumber_2 : decode prog_14_method_50_code 2 = .ok (.lcmp, 1) := by decide +kernel
theorem dd_Ref_writeNumber_3 : decode prog_14_method_50_code 3 = .ok (.ifCond .ge 9, 3) := by decide +kernel
theorem dd_Ref_writeNumber_6 : decode prog_14_method_50_code 6 = .ok (.aload_n 0, 1) := by decide +kernel
theorem dd_Ref_writeNumber_7 : decode prog_14_method_50_code 7 = .ok (.bipush 45, 2) := by decide +kernel
theorem dd_Ref_writeNumber_9 : decode prog_14_method_50_code 9 = .ok (.invokevirtual 270, 3) := by decide +kernel
theorem dd_Ref_writeNumber_12 : decode prog_14_method_50_code 12 = .ok (.lconst 1, 1) := by decide +kernel
theorem dd_Ref_writeNumber_13 : decode prog_14_method_50_code 13 = .ok (.lstore_n 3, 1) := by decide +kernel
theorem dd_Ref_writeNumber_14 : decode prog_14_method_50_code 14 = .ok (.lload_n 1, 1) := by decide +kernel
theorem dd_Ref_writeNumber_15 : decode prog_14_method_50_code 15 = .ok (.lload_n 3, 1) := by decide +kernel
theorem dd_Ref_writeNumber_16 : decode prog_14_method_50_code 16 = .ok (.ldiv, 1) := by decide +kernel
theorem dd_Ref_writeNumber_17 : decode prog_14_method_50_code 17 = .ok (.ldc2_w 274, 3) := by decide +kernel
theorem dd_Ref_writeNumber_20 : decode prog_14_method_50_code 20 = .ok (.lcmp, 1) := by decide +kernel
theorem dd_Ref_writeNumber_21 : decode prog_14_method_50_code 21 = .ok (.ifCond .gt 13, 3) := by decide +kernel
theorem dd_Ref_writeNumber_24 : decode prog_14_method_50_code 24 = .ok (.lload_n 1, 1) := by decide +kernel
theorem dd_Ref_writeNumber_25 : decode prog_14_method_50_code 25 = .ok (.lload_n 3, 1) := by decide +kernel
theorem dd_Ref_writeNumber_26 : decode prog_14_method_50_code 26 = .ok (.ldiv, 1) := by decide +kernel
theorem dd_Ref_writeNumber_27 : decode prog_14_method_50_code 27 = .ok (.ldc2_w 276, 3) := by decide +kernel
theorem dd_Ref_writeNumber_30 : decode prog_14_method_50_code 30 = .ok (.lcmp, 1) := by decide +kernel
theorem dd_Ref_writeNumber_31 : decode prog_14_method_50_code 31 = .ok (.ifCond .ge 12, 3) := by decide +kernel
theorem dd_Ref_writeNumber_34 : decode prog_14_method_50_code 34 = .ok (.lload_n 3, 1) := by decide +kernel
theorem dd_Ref_writeNumber_35 : decode prog_14_method_50_code 35 = .ok (.ldc2_w 278, 3) := by decide +kernel
theorem dd_Ref_writeNumber_38 : decode prog_14_method_50_code 38 = .ok (.lmul, 1) := by decide +kernel
theorem dd_Ref_writeNumber_39 : decode prog_14_method_50_code 39 = .ok (.lstore_n 3, 1) := by decide +kernel
theorem dd_Ref_writeNumber_40 : decode prog_14_method_50_code 40 = .ok (.goto (-26), 3) := by decide +kernel
theorem dd_Ref_writeNumber_43 : decode prog_14_method_50_code 43 = .ok (.lload_n 3, 1) := by decide +kernel
theorem dd_Ref_writeNumber_44 : decode prog_14_method_50_code 44 = .ok (.lconst 0, 1) := by decide +kernel
theorem dd_Ref_writeNumber_45 : decode prog_14_method_50_code 45 = .ok (.lcmp, 1) := by decide +kernel
theorem dd_Ref_writeNumber_46 : decode prog_14_method_50_code 46 = .ok (.ifCond .le 45, 3) := by decide +kernel
theorem dd_Ref_writeNumber_49 : decode prog_14_method_50_code 49 = .ok (.lload_n 1, 1) := by decide +kernel
theorem dd_Ref_writeNumber_50 : decode prog_14_method_50_code 50 = .ok (.lload_n 3, 1) := by decide +kernel
theorem dd_Ref_writeNumber_51 : decode prog_14_method_50_code 51 = .ok (.ldiv, 1) := by decide +kernel
theorem dd_Ref_writeNumber_52 : decode prog_14_method_50_code 52 = .ok (.ldc2_w 278, 3) := by decide +kernel
theorem dd_Ref_writeNumber_55 : decode prog_14_method_50_code 55 = .ok (.lrem, 1) := by decide +kernel
theorem dd_Ref_writeNumber_56 : decode prog_14_method_50_code 56 = .ok (.lstore 5, 2) := by decide +kernel
theorem dd_Ref_writeNumber_58 : decode prog_14_method_50_code 58 = .ok (.aload_n 0, 1) := by decide +kernel
theorem dd_Ref_writeNumber_59 : decode prog_14_method_50_code 59 = .ok (.ldc2_w 280, 3) := by decide +kernel
theorem dd_Ref_writeNumber_62 : decode prog_14_method_50_code 62 = .ok (.lload 5, 2) := by decide +kernel
theorem dd_Ref_writeNumber_64 : decode prog_14_method_50_code 64 = .ok (.lconst 0, 1) := by decide +kernel
theorem dd_Ref_writeNumber_65 : decode prog_14_method_50_code 65 = .ok (.lcmp, 1) := by decide +kernel
theorem dd_Ref_writeNumber_66 : decode prog_14_method_50_code 66 = .ok (.ifCond .ge 9, 3) := by decide +kernel
theorem dd_Ref_writeNumber_69 : decode prog_14_method_50_code 69 = .ok (.lload 5, 2) := by decide +kernel
theorem dd_Ref_writeNumber_71 : decode prog_14_method_50_code 71 = .ok (.lneg, 1) := by decide +kernel
theorem dd_Ref_writeNumber_72 : decode prog_14_method_50_code 72 = .ok (.goto 5, 3) := by decide +kernel
theorem dd_Ref_writeNumber_75 : decode prog_14_method_50_code 75 = .ok (.lload 5, 2) := by decide +kernel
theorem dd_Ref_writeNumber_77 : decode prog_14_method_50_code 77 = .ok (.ladd, 1) := by decide +kernel
theorem dd_Ref_writeNumber_78 : decode prog_14_method_50_code 78 = .ok (.l2i, 1) := by decide +kernel
theorem dd_Ref_writeNumber_79 : decode prog_14_method_50_code 79 = .ok (.invokevirtual 270, 3) := by decide +kernel
theorem dd_Ref_writeNumber_82 : decode prog_14_method_50_code 82 = .ok (.lload_n 3, 1) := by decide +kernel
theorem dd_Ref_writeNumber_83 : decode prog_14_method_50_code 83 = .ok (.ldc2_w 278, 3) := by decide +kernel
theorem dd_Ref_writeNumber_86 : decode prog_14_method_50_code 86 = .ok (.ldiv, 1) := by decide +kernel
theorem dd_Ref_writeNumber_87 : decode prog_14_method_50_code 87 = .ok (.lstore_n 3, 1) := by decide +kernel
theorem dd_Ref_writeNumber_88 : decode prog_14_method_50_code 88 = .ok (.goto (-45), 3) := by decide +kernel
theorem dd_Ref_writeNumber_91 : decode prog_14_method_50_code 91 = .ok (.return_, 1) := by decide +kernel
theorem dd_Ref_writeFour_0 : decode prog_14_method_51_code 0 = .ok (.aload_n 0, 1) := by decide +kernel
theorem dd_Ref_writeFour_1 : decode prog_14_method_51_code 1 = .ok (.iload_n 1, 1) := by decide +kernel
theorem dd_Ref_writeFour_2 : decode prog_14_method_51_code 2 = .ok (.invokevirtual 270, 3) := by decide +kernel
theorem dd_Ref_writeFour_5 : decode prog_14_method_51_code 5 = .ok (.aload_n 0, 1) := by decide +kernel
theorem dd_Ref_writeFour_6 : decode prog_14_method_51_code 6 = .ok (.iload_n 2, 1) := by decide +kernel
theorem dd_Ref_writeFour_7 : decode prog_14_method_51_code 7 = .ok (.invokevirtual 270, 3) := by decide +kernel
theorem dd_Ref_writeFour_10 : decode prog_14_method_51_code 10 = .ok (.aload_n 0, 1) := by decide +kernel
theorem dd_Ref_writeFour_11 : decode prog_14_method_51_code 11 = .ok (.iload_n 3, 1) := by decide +kernel
theorem dd_Ref_writeFour_12 : decode prog_14_method_51_code 12 = .ok (.invokevirtual 270, 3) := by decide +kernel
theorem dd_Ref_writeFour_15 : decode prog_14_method_51_code 15 = .ok (.aload_n 0, 1) := by decide +kernel
theorem dd_Ref_writeFour_16 : decode prog_14_method_51_code 16 = .ok (.iload 4, 2) := by decide +kernel
theorem dd_Ref_writeFour_18 : decode prog_14_method_51_code 18 = .ok (.invokevirtual 270, 3) := by decide +kernel
theorem dd_Ref_writeFour_21 : decode prog_14_method_51_code 21 = .ok (.return_, 1) := by decide +kernel
theorem dd_Ref_newText_0 : decode prog_14_method_52_code 0 = .ok (.aload_n 0, 1) := by decide +kernel
theorem dd_Ref_newText_1 : decode prog_14_method_52_code 1 = .ok (.bipush 14, 2) := by decide +kernel
theorem dd_Ref_newText_3 : decode prog_14_method_52_code 3 = .ok (.invokevirtual 239, 3) := by decide +kernel
theorem dd_Ref_newText_6 : decode prog_14_method_52_code 6 = .ok (.istore_n 1, 1) := by decide +kernel
theorem dd_Ref_newText_7 : decode prog_14_method_52_code 7 = .ok (.iconst 0, 1) := by decide +kernel
theorem dd_Ref_newText_8 : decode prog_14_method_52_code 8 = .ok (.istore_n 2, 1) := by decide +kernel
theorem dd_Ref_newText_9 : decode prog_14_method_52_code 9 = .ok (.iload_n 2, 1) := by decide +kernel
theorem dd_Ref_newText_10 : decode prog_14_method_52_code 10 = .ok (.aload_n 0, 1) := by decide +kernel
theorem dd_Ref_newText_11 : decode prog_14_method_52_code 11 = .ok (.getfield 267, 3) := by decide +kernel
theorem dd_Ref_newText_14 : decode prog_14_method_52_code 14 = .ok (.if_icmp .ge 30, 3) := by decide +kernel
theorem dd_Ref_newText_17 : decode prog_14_method_52_code 17 = .ok (.iload_n 1, 1) := by decide +kernel
theorem dd_Ref_newText_18 : decode prog_14_method_52_code 18 = .ok (.ifCond .lt 26, 3) := by decide +kernel
theorem dd_Ref_newText_21 : decode prog_14_method_52_code 21 = .ok (.aload_n 0, 1) := by decide +kernel
theorem dd_Ref_newText_22 : decode prog_14_method_52_code 22 = .ok (.getfield 75, 3) := by decide +kernel
theorem dd_Ref_newText_25 : decode prog_14_method_52_code 25 = .ok (.bipush 24, 2) := by decide +kernel
theorem dd_Ref_newText_27 : decode prog_14_method_52_code 27 = .ok (.iload_n 1, 1) := by decide +kernel
theorem dd_Ref_newText_28 : decode prog_14_method_52_code 28 = .ok (.imul, 1) := by decide +kernel
theorem dd_Ref_newText_29 : decode prog_14_method_52_code 29 = .ok (.iload_n 2, 1) := by decide +kernel
theorem dd_Ref_newText_30 : decode prog_14_method_52_code 30 = .ok (.iadd, 1) := by decide +kernel
theorem dd_Ref_newText_31 : decode prog_14_method_52_code 31 = .ok (.aload_n 0, 1) := by decide +kernel
theorem dd_Ref_newText_32 : decode prog_14_method_52_code 32 = .ok (.getfield 99, 3) := by decide +kernel
theorem dd_Ref_newText_35 : decode prog_14_method_52_code 35 = .ok (.iload_n 2, 1) := by decide +kernel
theorem dd_Ref_newText_36 : decode prog_14_method_52_code 36 = .ok (.iaload, 1) := by decide +kernel
theorem dd_Ref_newText_37 : decode prog_14_method_52_code 37 = .ok (.iastore, 1) := by decide +kernel
theorem dd_Ref_newText_38 : decode prog_14_method_52_code 38 = .ok (.iinc 2 1, 3) := by decide +kernel
theorem dd_Ref_newText_41 : decode prog_14_method_52_code 41 = .ok (.goto (-32), 3) := by decide +kernel
theorem dd_Ref_newText_44 : decode prog_14_method_52_code 44 = .ok (.iload_n 1, 1) := by decide +kernel
theorem dd_Ref_newText_45 : decode prog_14_method_52_code 45 = .ok (.ifCond .lt 13, 3) := by decide +kernel
theorem dd_Ref_newText_48 : decode prog_14_method_52_code 48 = .ok (.aload_n 0, 1) := by decide +kernel
theorem dd_Ref_newText_49 : decode prog_14_method_52_code 49 = .ok (.getfield 69, 3) := by decide +kernel
theorem dd_Ref_newText_52 : decode prog_14_method_52_code 52 = .ok (.iload_n 1, 1) := by decide +kernel
theorem dd_Ref_newText_53 : decode prog_14_method_52_code 53 = .ok (.aload_n 0, 1) := by decide +kernel
theorem dd_Ref_newText_54 : decode prog_14_method_52_code 54 = .ok (.getfield 267, 3) := by decide +kernel
theorem dd_Ref_newText_57 : decode prog_14_method_52_code 57 = .ok (.iastore, 1) := by decide +kernel
theorem dd_Ref_newText_58 : decode prog_14_method_52_code 58 = .ok (.iload_n 1, 1) := by decide +kernel
theorem dd_Ref_newText_59 : decode prog_14_method_52_code 59 = .ok (.i2l, 1) := by decide +kernel
theorem dd_Ref_newText_60 : decode prog_14_method_52_code 60 = .ok (.lreturn, 1) := by decide +kernel
theorem dd_Ref_toText_0 : decode prog_14_method_53_code 0 = .ok (.aload_n 0, 1) := by decide +kernel
theorem dd_Ref_toText_1 : decode prog_14_method_53_code 1 = .ok (.iconst 0, 1) := by decide +kernel
theorem dd_Ref_toText_2 : decode prog_14_method_53_code 2 = .ok (.putfield 267, 3) := by decide +kernel
theorem dd_Ref_toText_5 : decode prog_14_method_53_code 5 = .ok (.iload_n 1, 1) := by decide +kernel
theorem dd_Ref_toText_6 : decode prog_14_method_53_code 6 = .ok (.invokestatic 139, 3) := by decide +kernel
theorem dd_Ref_toText_9 : decode prog_14_method_53_code 9 = .ok (.ifCond .eq 10, 3) := by decide +kernel
theorem dd_Ref_toText_12 : decode prog_14_method_53_code 12 = .ok (.iload_n 1, 1) := by decide +kernel
theorem dd_Ref_toText_13 : decode prog_14_method_53_code 13 = .ok (.invokestatic 142, 3) := by decide +kernel
theorem dd_Ref_toText_16 : decode prog_14_method_53_code 16 = .ok (.goto 4, 3) := by decide +kernel
theorem dd_Ref_toText_19 : decode prog_14_method_53_code 19 = .ok (.iconst (-1), 1) := by decide +kernel
theorem dd_Ref_toText_20 : decode prog_14_method_53_code 20 = .ok (.istore 4, 2) := by decide +kernel
theorem dd_Ref_toText_22 : decode prog_14_method_53_code 22 = .ok (.aload_n 0, 1) := by decide +kernel
theorem dd_Ref_toText_23 : decode prog_14_method_53_code 23 = .ok (.getfield 13, 3) := by decide +kernel
theorem dd_Ref_toText_26 : decode prog_14_method_53_code 26 = .ok (.iload_n 1, 1) := by decide +kernel
theorem dd_Ref_toText_27 : decode prog_14_method_53_code 27 = .ok (.iaload, 1) := by decide +kernel
theorem dd_Ref_toText_28 : decode prog_14_method_53_code 28 = .ok (.iconst 3, 1) := by decide +kernel
theorem dd_Ref_toText_29 : decode prog_14_method_53_code 29 = .ok (.if_icmp .ne 29, 3) := by decide +kernel
theorem dd_Ref_toText_32 : decode prog_14_method_53_code 32 = .ok (.aload_n 0, 1) := by decide +kernel
theorem dd_Ref_toText_33 : decode prog_14_method_53_code 33 = .ok (.bipush 110, 2) := by decide +kernel
theorem dd_Ref_toText_35 : decode prog_14_method_53_code 35 = .ok (.invokevirtual 270, 3) := by decide +kernel
theorem dd_Ref_toText_38 : decode prog_14_method_53_code 38 = .ok (.aload_n 0, 1) := by decide +kernel
theorem dd_Ref_toText_39 : decode prog_14_method_53_code 39 = .ok (.aload_n 0, 1) := by decide +kernel
theorem dd_Ref_toText_40 : decode prog_14_method_53_code 40 = .ok (.getfield 20, 3) := by decide +kernel
theorem dd_Ref_toText_43 : decode prog_14_method_53_code 43 = .ok (.bipush 8, 2) := by decide +kernel
theorem dd_Ref_toText_45 : decode prog_14_method_53_code 45 = .ok (.iload_n 1, 1) := by decide +kernel
theorem dd_Ref_toText_46 : decode prog_14_method_53_code 46 = .ok (.imul, 1) := by decide +kernel
theorem dd_Ref_toText_47 : decode prog_14_method_53_code 47 = .ok (.lload_n 2, 1) := by decide +kernel
theorem dd_Ref_toText_48 : decode prog_14_method_53_code 48 = .ok (.l2i, 1) := by decide +kernel
theorem dd_Ref_toText_49 : decode prog_14_method_53_code 49 = .ok (.iadd, 1) := by decide +kernel
theorem dd_Ref_toText_50 : decode prog_14_method_53_code 50 = .ok (.iaload, 1) := by decide +kernel
theorem dd_Ref_toText_51 : decode prog_14_method_53_code 51 = .ok (.i2l, 1) := by decide +kernel
theorem dd_Ref_toText_52 : decode prog_14_method_53_code 52 = .ok (.invokevirtual 282, 3) := by decide +kernel
theorem dd_Ref_toText_55 : decode prog_14_method_53_code 55 = .ok (.goto 77, 3) := by decide +kernel
theorem dd_Ref_toText_58 : decode prog_14_method_53_code 58 = .ok (.iload 4, 2) := by decide +kernel
theorem dd_Ref_toText_60 : decode prog_14_method_53_code 60 = .ok (.iconst 2, 1) := by decide +kernel
theorem dd_Ref_toText_61 : decode prog_14_method_53_code 61 = .ok (.if_icmp .ne 12, 3) := by decide +kernel
theorem dd_Ref_toText_64 : decode prog_14_method_53_code 64 = .ok (.aload_n 0, 1) := by decide +kernel
theorem dd_Ref_toText_65 : decode prog_14_method_53_code 65 = .ok (.lload_n 2, 1) := by decide +kernel
theorem dd_Ref_toText_66 : decode prog_14_method_53_code 66 = .ok (.l2i, 1) := by decide +kernel
theorem dd_Ref_toText_67 : decode prog_14_method_53_code 67 = .ok (.invokevirtual 270, 3) := by decide +kernel
theorem dd_Ref_toText_70 : decode prog_14_method_53_code 70 = .ok (.goto 62, 3) := by decide +kernel
theorem dd_Ref_toText_73 : decode prog_14_method_53_code 73 = .ok (.iload 4, 2) := by decide +kernel
theorem dd_Ref_toText_75 : decode prog_14_method_53_code 75 = .ok (.iconst 5, 1) := by decide +kernel
theorem dd_Ref_toText_76 : decode prog_14_method_53_code 76 = .ok (.if_icmp .ne 24, 3) := by decide +kernel
theorem dd_Ref_toText_79 : decode prog_14_method_53_code 79 = .ok (.lload_n 2, 1) := by decide +kernel
theorem dd_Ref_toText_80 : decode prog_14_method_53_code 80 = .ok (.lconst 1, 1) := by decide +kernel
theorem dd_Ref_toText_81 : decode prog_14_method_53_code 81 = .ok (.lcmp, 1) := by decide +kernel
theorem dd_Ref_toText_82 : decode prog_14_method_53_code 82 = .ok (.ifCond .ne 18, 3) := by decide +kernel
theorem dd_Ref_toText_85 : decode prog_14_method_53_code 85 = .ok (.aload_n 0, 1) := by decide +kernel
theorem dd_Ref_toText_86 : decode prog_14_method_53_code 86 = .ok (.bipush 116, 2) := by decide +kernel
theorem dd_Ref_toText_88 : decode prog_14_method_53_code 88 = .ok (.bipush 114, 2) := by decide +kernel
theorem dd_Ref_toText_90 : decode prog_14_method_53_code 90 = .ok (.bipush 117, 2) := by decide +kernel
theorem dd_Ref_toText_92 : decode prog_14_method_53_code 92 = .ok (.bipush 101, 2) := by decide +kernel
theorem dd_Ref_toText_94 : decode prog_14_method_53_code 94 = .ok (.invokevirtual 286, 3) := by decide +kernel
theorem dd_Ref_toText_97 : decode prog_14_method_53_code 97 = .ok (.goto 35, 3) := by decide +kernel
theorem dd_Ref_toText_100 : decode prog_14_method_53_code 100 = .ok (.iload 4, 2) := by decide +kernel
theorem dd_Ref_toText_102 : decode prog_14_method_53_code 102 = .ok (.iconst 5, 1) := by decide +kernel
theorem dd_Ref_toText_103 : decode prog_14_method_53_code 103 = .ok (.if_icmp .ne 24, 3) := by decide +kernel
theorem dd_Ref_toText_106 : decode prog_14_method_53_code 106 = .ok (.aload_n 0, 1) := by decide +kernel
theorem dd_Ref_toText_107 : decode prog_14_method_53_code 107 = .ok (.bipush 102, 2) := by decide +kernel
theorem dd_Ref_toText_109 : decode prog_14_method_53_code 109 = .ok (.bipush 97, 2) := by decide +kernel
theorem dd_Ref_toText_111 : decode prog_14_method_53_code 111 = .ok (.bipush 108, 2) := by decide +kernel
theorem dd_Ref_toText_113 : decode prog_14_method_53_code 113 = .ok (.bipush 115, 2) := by decide +kernel
theorem dd_Ref_toText_115 : decode prog_14_method_53_code 115 = .ok (.invokevirtual 286, 3) := by decide +kernel
theorem dd_Ref_toText_118 : decode prog_14_method_53_code 118 = .ok (.aload_n 0, 1) := by decide +kernel
theorem dd_Ref_toText_119 : decode prog_14_method_53_code 119 = .ok (.bipush 101, 2) := by decide +kernel
theorem dd_Ref_toText_121 : decode prog_14_method_53_code 121 = .ok (.invokevirtual 270, 3) := by decide +kernel
theorem dd_Ref_toText_124 : decode prog_14_method_53_code 124 = .ok (.goto 8, 3) := by decide +kernel
theorem dd_Ref_toText_127 : decode prog_14_method_53_code 127 = .ok (.aload_n 0, 1) := by decide +kernel
theorem dd_Ref_toText_128 : decode prog_14_method_53_code 128 = .ok (.lload_n 2, 1) := by decide +kernel
theorem dd_Ref_toText_129 : decode prog_14_method_53_code 129 = .ok (.invokevirtual 282, 3) := by decide +kernel
theorem dd_Ref_toText_132 : decode prog_14_method_53_code 132 = .ok (.aload_n 0, 1) := by decide +kernel
theorem dd_Ref_toText_133 : decode prog_14_method_53_code 133 = .ok (.invokevirtual 290, 3) := by decide +kernel
theorem dd_Ref_toText_136 : decode prog_14_method_53_code 136 = .ok (.lreturn, 1) := by decide +kernel
theorem dd_Ref_isTrue_0 : decode prog_14_method_54_code 0 = .ok (.aload_n 0, 1) := by decide +kernel
theorem dd_Ref_isTrue_1 : decode prog_14_method_54_code 1 = .ok (.getfield 69, 3) := by decide +kernel
theorem dd_Ref_isTrue_4 : decode prog_14_method_54_code 4 = .ok (.iload_n 1, 1) := by decide +kernel
theorem dd_Ref_isTrue_5 : decode prog_14_method_54_code 5 = .ok (.iaload, 1) := by decide +kernel
theorem dd_Ref_isTrue_6 : decode prog_14_method_54_code 6 = .ok (.iconst 4, 1) := by decide +kernel
theorem dd_Ref_isTrue_7 : decode prog_14_method_54_code 7 = .ok (.if_icmp .ne 69, 3) := by decide +kernel
theorem dd_Ref_isTrue_10 : decode prog_14_method_54_code 10 = .ok (.aload_n 0, 1) := by decide +kernel
theorem dd_Ref_isTrue_11 : decode prog_14_method_54_code 11 = .ok (.getfield 75, 3) := by decide +kernel
theorem dd_Ref_isTrue_14 : decode prog_14_method_54_code 14 = .ok (.bipush 24, 2) := by decide +kernel
theorem dd_Ref_isTrue_16 : decode prog_14_method_54_code 16 = .ok (.iload_n 1, 1) := by decide +kernel
theorem dd_Ref_isTrue_17 : decode prog_14_method_54_code 17 = .ok (.imul, 1) := by decide +kernel
theorem dd_Ref_isTrue_18 : decode prog_14_method_54_code 18 = .ok (.iaload, 1) := by decide +kernel
theorem dd_Ref_isTrue_19 : decode prog_14_method_54_code 19 = .ok (.bipush 116, 2) := by decide +kernel
theorem dd_Ref_isTrue_21 : decode prog_14_method_54_code 21 = .ok (.if_icmp .ne 55, 3) := by decide +kernel
theorem dd_Ref_isTrue_24 : decode prog_14_method_54_code 24 = .ok (.aload_n 0, 1) := by decide +kernel
theorem dd_Ref_isTrue_25 : decode prog_14_method_54_code 25 = .ok (.getfield 75, 3) := by decide +kernel
theorem dd_Ref_isTrue_28 : decode prog_14_method_54_code 28 = .ok (.bipush 24, 2) := by decide +kernel
theorem dd_Ref_isTrue_30 : decode prog_14_method_54_code 30 = .ok (.iload_n 1, 1) := by decide +kernel
theorem dd_Ref_isTrue_31 : decode prog_14_method_54_code 31 = .ok (.imul, 1) := by decide +kernel
theorem dd_Ref_isTrue_32 : decode prog_14_method_54_code 32 = .ok (.iconst 1, 1) := by decide +kernel
theorem dd_Ref_isTrue_33 : decode prog_14_method_54_code 33 = .ok (.iadd, 1) := by decide +kernel
theorem dd_Ref_isTrue_34 : decode prog_14_method_54_code 34 = .ok (.iaload, 1) := by decide +kernel
theorem dd_Ref_isTrue_35 : decode prog_14_method_54_code 35 = .ok (.bipush 114, 2) := by decide +kernel
theorem dd_Ref_isTrue_37 : decode prog_14_method_54_code 37 = .ok (.if_icmp .ne 39, 3) := by decide +kernel
theorem dd_Ref_isTrue_40 : decode prog_14_method_54_code 40 = .ok (.aload_n 0, 1) := by decide +kernel
theorem dd_Ref_isTrue_41 : decode prog_14_method_54_code 41 = .ok (.getfield 75, 3) := by decide +kernel
theorem dd_Ref_isTrue_44 : decode prog_14_method_54_code 44 = .ok (.bipush 24, 2) := by decide +kernel
theorem dd_Ref_isTrue_46 : decode prog_14_method_54_code 46 = .ok (.iload_n 1, 1) := by decide +kernel
theorem dd_Ref_isTrue_47 : decode prog_14_method_54_code 47 = .ok (.imul, 1) := by decide +kernel
theorem dd_Ref_isTrue_48 : decode prog_14_method_54_code 48 = .ok (.iconst 2, 1) := by decide +kernel
theorem dd_Ref_isTrue_49 : decode prog_14_method_54_code 49 = .ok (.iadd, 1) := by decide +kernel
theorem dd_Ref_isTrue_50 : decode prog_14_method_54_code 50 = .ok (.iaload, 1) := by decide +kernel
theorem dd_Ref_isTrue_51 : decode prog_14_method_54_code 51 = .ok (.bipush 117, 2) := by decide +kernel
theorem dd_Ref_isTrue_53 : decode prog_14_method_54_code 53 = .ok (.if_icmp .ne 23, 3) := by decide +kernel
theorem dd_Ref_isTrue_56 : decode prog_14_method_54_code 56 = .ok (.aload_n 0, 1) := by decide +kernel
theorem dd_Ref_isTrue_57 : decode prog_14_method_54_code 57 = .ok (.getfield 75, 3) := by decide +kernel
theorem dd_Ref_isTrue_60 : decode prog_14_method_54_code 60 = .ok (.bipush 24, 2) := by decide +kernel
theorem dd_Ref_isTrue_62 : decode prog_14_method_54_code 62 = .ok (.iload_n 1, 1) := by decide +kernel
theorem dd_Ref_isTrue_63 : decode prog_14_method_54_code 63 = .ok (.imul, 1) := by decide +kernel
theorem dd_Ref_isTrue_64 : decode prog_14_method_54_code 64 = .ok (.iconst 3, 1) := by decide +kernel
theorem dd_Ref_isTrue_65 : decode prog_14_method_54_code 65 = .ok (.iadd, 1) := by decide +kernel
theorem dd_Ref_isTrue_66 : decode prog_14_method_54_code 66 = .ok (.iaload, 1) := by decide +kernel
theorem dd_Ref_isTrue_67 : decode prog_14_method_54_code 67 = .ok (.bipush 101, 2) := by decide +kernel
theorem dd_Ref_isTrue_69 : decode prog_14_method_54_code 69 = .ok (.if_icmp .ne 7, 3) := by decide +kernel
theorem dd_Ref_isTrue_72 : decode prog_14_method_54_code 72 = .ok (.iconst 1, 1) := by decide +kernel
theorem dd_Ref_isTrue_73 : decode prog_14_method_54_code 73 = .ok (.goto 4, 3) := by decide +kernel
theorem dd_Ref_isTrue_76 : decode prog_14_method_54_code 76 = .ok (.iconst 0, 1) := by decide +kernel
theorem dd_Ref_isTrue_77 : decode prog_14_method_54_code 77 = .ok (.ireturn, 1) := by decide +kernel
theorem dd_Ref_numberOf_0 : decode prog_14_method_55_code 0 = .ok (.aload_n 0, 1) := by decide +kernel
theorem dd_Ref_numberOf_1 : decode prog_14_method_55_code 1 = .ok (.getfield 69, 3) := by decide +kernel
theorem dd_Ref_numberOf_4 : decode prog_14_method_55_code 4 = .ok (.iload_n 1, 1) := by decide +kernel
theorem dd_Ref_numberOf_5 : decode prog_14_method_55_code 5 = .ok (.iaload, 1) := by decide +kernel
theorem dd_Ref_numberOf_6 : decode prog_14_method_55_code 6 = .ok (.istore_n 3, 1) := by decide +kernel
theorem dd_Ref_numberOf_7 : decode prog_14_method_55_code 7 = .ok (.iload_n 3, 1) := by decide +kernel
theorem dd_Ref_numberOf_8 : decode prog_14_method_55_code 8 = .ok (.ifCond .le 21, 3) := by decide +kernel
theorem dd_Ref_numberOf_11 : decode prog_14_method_55_code 11 = .ok (.aload_n 0, 1) := by decide +kernel
theorem dd_Ref_numberOf_12 : decode prog_14_method_55_code 12 = .ok (.getfield 75, 3) := by decide +kernel
theorem dd_Ref_numberOf_15 : decode prog_14_method_55_code 15 = .ok (.bipush 24, 2) := by decide +kernel
theorem dd_Ref_numberOf_17 : decode prog_14_method_55_code 17 = .ok (.iload_n 1, 1) := by decide +kernel
theorem dd_Ref_numberOf_18 : decode prog_14_method_55_code 18 = .ok (.imul, 1) := by decide +kernel
theorem dd_Ref_numberOf_19 : decode prog_14_method_55_code 19 = .ok (.iaload, 1) := by decide +kernel
theorem dd_Ref_numberOf_20 : decode prog_14_method_55_code 20 = .ok (.bipush 45, 2) := by decide +kernel
theorem dd_Ref_numberOf_22 : decode prog_14_method_55_code 22 = .ok (.if_icmp .ne 7, 3) := by decide +kernel
theorem dd_Ref_numberOf_25 : decode prog_14_method_55_code 25 = .ok (.iconst 1, 1) := by decide +kernel
theorem dd_Ref_numberOf_26 : decode prog_14_method_55_code 26 = .ok (.goto 4, 3) := by decide +kernel
theorem dd_Ref_numberOf_29 : decode prog_14_method_55_code 29 = .ok (.iconst 0, 1) := by decide +kernel
theorem dd_Ref_numberOf_30 : decode prog_14_method_55_code 30 = .ok (.istore 4, 2) := by decide +kernel
theorem dd_Ref_numberOf_32 : decode prog_14_method_55_code 32 = .ok (.iload 4, 2) := by decide +kernel
theorem dd_Ref_numberOf_34 : decode prog_14_method_55_code 34 = .ok (.ifCond .eq 7, 3) := by decide +kernel
theorem dd_Ref_numberOf_37 : decode prog_14_method_55_code 37 = .ok (.iconst 1, 1) := by decide +kernel
theorem dd_Ref_numberOf_38 : decode prog_14_method_55_code 38 = .ok (.goto 4, 3) := by decide +kernel
theorem dd_Ref_numberOf_41 : decode prog_14_method_55_code 41 = .ok (.iconst 0, 1) := by decide +kernel
theorem dd_Ref_numberOf_42 : decode prog_14_method_55_code 42 = .ok (.istore 5, 2) := by decide +kernel
theorem dd_Ref_numberOf_44 : decode prog_14_method_55_code 44 = .ok (.aload_n 0, 1) := by decide +kernel
theorem dd_Ref_numberOf_45 : decode prog_14_method_55_code 45 = .ok (.aload_n 0, 1) := by decide +kernel
theorem dd_Ref_numberOf_46 : decode prog_14_method_55_code 46 = .ok (.getfield 228, 3) := by decide +kernel
theorem dd_Ref_numberOf_49 : decode prog_14_method_55_code 49 = .ok (.ifCond .ne 9, 3) := by decide +kernel
theorem dd_Ref_numberOf_52 : decode prog_14_method_55_code 52 = .ok (.iload 5, 2) := by decide +kernel
theorem dd_Ref_numberOf_54 : decode prog_14_method_55_code 54 = .ok (.iload_n 3, 1) := by decide +kernel
theorem dd_Ref_numberOf_55 : decode prog_14_method_55_code 55 = .ok (.if_icmp .ne 7, 3) := by decide +kernel
theorem dd_Ref_numberOf_58 : decode prog_14_method_55_code 58 = .ok (.iconst 1, 1) := by decide +kernel
theorem dd_Ref_numberOf_59 : decode prog_14_method_55_code 59 = .ok (.goto 4, 3) := by decide +kernel
theorem dd_Ref_numberOf_62 : decode prog_14_method_55_code 62 = .ok (.iconst 0, 1) := by decide +kernel
theorem dd_Ref_numberOf_63 : decode prog_14_method_55_code 63 = .ok (.putfield 228, 3) := by decide +kernel
theorem dd_Ref_numberOf_66 : decode prog_14_method_55_code 66 = .ok (.lconst 0, 1) := by decide +kernel
theorem dd_Ref_numberOf_67 : decode prog_14_method_55_code 67 = .ok (.lstore 6, 2) := by decide +kernel
theorem dd_Ref_numberOf_69 : decode prog_14_method_55_code 69 = .ok (.iload 5, 2) := by decide +kernel
theorem dd_Ref_numberOf_71 : decode prog_14_method_55_code 71 = .ok (.iload_n 3, 1) := by decide +kernel
theorem dd_Ref_numberOf_72 : decode prog_14_method_55_code 72 = .ok (.if_icmp .ge 120, 3) := by decide +kernel
theorem dd_Ref_numberOf_75 : decode prog_14_method_55_code 75 = .ok (.aload_n 0, 1) := by decide +kernel
theorem dd_Ref_numberOf_76 : decode prog_14_method_55_code 76 = .ok (.getfield 75, 3) := by decide +kernel
theorem dd_Ref_numberOf_79 : decode prog_14_method_55_code 79 = .ok (.bipush 24, 2) := by decide +kernel
theorem dd_Ref_numberOf_81 : decode prog_14_method_55_code 81 = .ok (.iload_n 1, 1) := by decide +kernel
theorem dd_Ref_numberOf_82 : decode prog_14_method_55_code 82 = .ok (.imul, 1) := by decide +kernel
theorem dd_Ref_numberOf_83 : decode prog_14_method_55_code 83 = .ok (.iload 5, 2) := by decide +kernel
theorem dd_Ref_numberOf_85 : decode prog_14_method_55_code 85 = .ok (.iadd, 1) := by decide +kernel
theorem dd_Ref_numberOf_86 : decode prog_14_method_55_code 86 = .ok (.iaload, 1) := by decide +kernel
theorem dd_Ref_numberOf_87 : decode prog_14_method_55_code 87 = .ok (.bipush 48, 2) := by decide +kernel
theorem dd_Ref_numberOf_89 : decode prog_14_method_55_code 89 = .ok (.isub, 1) := by decide +kernel
theorem dd_Ref_numberOf_90 : decode prog_14_method_55_code 90 = .ok (.istore 8, 2) := by decide +kernel
theorem dd_Ref_numberOf_92 : decode prog_14_method_55_code 92 = .ok (.iload 8, 2) := by decide +kernel
theorem dd_Ref_numberOf_94 : decode prog_14_method_55_code 94 = .ok (.ifCond .lt 47, 3) := by decide +kernel
theorem dd_Ref_numberOf_97 : decode prog_14_method_55_code 97 = .ok (.iload 8, 2) := by decide +kernel
theorem dd_Ref_numberOf_99 : decode prog_14_method_55_code 99 = .ok (.bipush 10, 2) := by decide +kernel
theorem dd_Ref_numberOf_101 : decode prog_14_method_55_code 101 = .ok (.if_icmp .ge 40, 3) := by decide +kernel
theorem dd_Ref_numberOf_104 : decode prog_14_method_55_code 104 = .ok (.lload 6, 2) := by decide +kernel
theorem dd_Ref_numberOf_106 : decode prog_14_method_55_code 106 = .ok (.ldc2_w 251, 3) := by decide +kernel
theorem dd_Ref_numberOf_109 : decode prog_14_method_55_code 109 = .ok (.iload 8, 2) := by decide +kernel
theorem dd_Ref_numberOf_111 : decode prog_14_method_55_code 111 = .ok (.bipush 9, 2) := by decide +kernel
theorem dd_Ref_numberOf_113 : decode prog_14_method_55_code 113 = .ok (.if_icmp .gt 8, 3) := by decide +kernel
theorem dd_Ref_numberOf_116 : decode prog_14_method_55_code 116 = .ok (.iload 8, 2) := by decide +kernel
theorem dd_Ref_numberOf_118 : decode prog_14_method_55_code 118 = .ok (.ifCond .ge 7, 3) := by decide +kernel
theorem dd_Ref_numberOf_121 : decode prog_14_method_55_code 121 = .ok (.iconst 0, 1) := by decide +kernel
theorem dd_Ref_numberOf_122 : decode prog_14_method_55_code 122 = .ok (.goto 5, 3) := by decide +kernel
theorem dd_Ref_numberOf_125 : decode prog_14_method_55_code 125 = .ok (.iload 8, 2) := by decide +kernel
theorem dd_Ref_numberOf_127 : decode prog_14_method_55_code 127 = .ok (.i2l, 1) := by decide +kernel
theorem dd_Ref_numberOf_128 : decode prog_14_method_55_code 128 = .ok (.ladd, 1) := by decide +kernel
theorem dd_Ref_numberOf_129 : decode prog_14_method_55_code 129 = .ok (.ldc2_w 278, 3) := by decide +kernel
theorem dd_Ref_numberOf_132 : decode prog_14_method_55_code 132 = .ok (.ldiv, 1) := by decide +kernel
theorem dd_Ref_numberOf_133 : decode prog_14_method_55_code 133 = .ok (.lcmp, 1) := by decide +kernel
theorem dd_Ref_numberOf_134 : decode prog_14_method_55_code 134 = .ok (.ifCond .lt 7, 3) := by decide +kernel
theorem dd_Ref_numberOf_137 : decode prog_14_method_55_code 137 = .ok (.iconst 1, 1) := by decide +kernel
theorem dd_Ref_numberOf_138 : decode prog_14_method_55_code 138 = .ok (.goto 4, 3) := by decide +kernel
theorem dd_Ref_numberOf_141 : decode prog_14_method_55_code 141 = .ok (.iconst 0, 1) := by decide +kernel
theorem dd_Ref_numberOf_142 : decode prog_14_method_55_code 142 = .ok (.istore 9, 2) := by decide +kernel
theorem dd_Ref_numberOf_144 : decode prog_14_method_55_code 144 = .ok (.aload_n 0, 1) := by decide +kernel
theorem dd_Ref_numberOf_145 : decode prog_14_method_55_code 145 = .ok (.aload_n 0, 1) := by decide +kernel
theorem dd_Ref_numberOf_146 : decode prog_14_method_55_code 146 = .ok (.getfield 228, 3) := by decide +kernel
theorem dd_Ref_numberOf_149 : decode prog_14_method_55_code 149 = .ok (.ifCond .ne 8, 3) := by decide +kernel
theorem dd_Ref_numberOf_152 : decode prog_14_method_55_code 152 = .ok (.iload 9, 2) := by decide +kernel
theorem dd_Ref_numberOf_154 : decode prog_14_method_55_code 154 = .ok (.ifCond .ne 7, 3) := by decide +kernel
theorem dd_Ref_numberOf_157 : decode prog_14_method_55_code 157 = .ok (.iconst 1, 1) := by decide +kernel
theorem dd_Ref_numberOf_158 : decode prog_14_method_55_code 158 = .ok (.goto 4, 3) := by decide +kernel
theorem dd_Ref_numberOf_161 : decode prog_14_method_55_code 161 = .ok (.iconst 0, 1) := by decide +kernel
theorem dd_Ref_numberOf_162 : decode prog_14_method_55_code 162 = .ok (.putfield 228, 3) := by decide +kernel
theorem dd_Ref_numberOf_165 : decode prog_14_method_55_code 165 = .ok (.iload 9, 2) := by decide +kernel
theorem dd_Ref_numberOf_167 : decode prog_14_method_55_code 167 = .ok (.ifCond .eq 16, 3) := by decide +kernel
theorem dd_Ref_numberOf_170 : decode prog_14_method_55_code 170 = .ok (.ldc2_w 278, 3) := by decide +kernel
theorem dd_Ref_numberOf_173 : decode prog_14_method_55_code 173 = .ok (.lload 6, 2) := by decide +kernel
theorem dd_Ref_numberOf_175 : decode prog_14_method_55_code 175 = .ok (.lmul, 1) := by decide +kernel
theorem dd_Ref_numberOf_176 : decode prog_14_method_55_code 176 = .ok (.iload 8, 2) := by decide +kernel
theorem dd_Ref_numberOf_178 : decode prog_14_method_55_code 178 = .ok (.i2l, 1) := by decide +kernel
theorem dd_Ref_numberOf_179 : decode prog_14_method_55_code 179 = .ok (.lsub, 1) := by decide +kernel
theorem dd_Ref_numberOf_180 : decode prog_14_method_55_code 180 = .ok (.goto 4, 3) := by decide +kernel
theorem dd_Ref_numberOf_183 : decode prog_14_method_55_code 183 = .ok (.lconst 0, 1) := by decide +kernel
theorem dd_Ref_numberOf_184 : decode prog_14_method_55_code 184 = .ok (.lstore 6, 2) := by decide +kernel
theorem dd_Ref_numberOf_186 : decode prog_14_method_55_code 186 = .ok (.iinc 5 1, 3) := by decide +kernel
theorem dd_Ref_numberOf_189 : decode prog_14_method_55_code 189 = .ok (.goto (-120), 3) := by decide +kernel
theorem dd_Ref_numberOf_192 : decode prog_14_method_55_code 192 = .ok (.aload_n 0, 1) := by decide +kernel
theorem dd_Ref_numberOf_193 : decode prog_14_method_55_code 193 = .ok (.aload_n 0, 1) := by decide +kernel
theorem dd_Ref_numberOf_194 : decode prog_14_method_55_code 194 = .ok (.getfield 228, 3) := by decide +kernel
theorem dd_Ref_numberOf_197 : decode prog_14_method_55_code 197 = .ok (.ifCond .ne 17, 3) := by decide +kernel
theorem dd_Ref_numberOf_200 : decode prog_14_method_55_code 200 = .ok (.iload 4, 2) := by decide +kernel
theorem dd_Ref_numberOf_202 : decode prog_14_method_55_code 202 = .ok (.ifCond .ne 16, 3) := by decide +kernel
theorem dd_Ref_numberOf_205 : decode prog_14_method_55_code 205 = .ok (.lload 6, 2) := by decide +kernel
theorem dd_Ref_numberOf_207 : decode prog_14_method_55_code 207 = .ok (.ldc2_w 251, 3) := by decide +kernel
theorem dd_Ref_numberOf_210 : decode prog_14_method_55_code 210 = .ok (.lcmp, 1) := by decide +kernel
theorem dd_Ref_numberOf_211 : decode prog_14_method_55_code 211 = .ok (.ifCond .ne 7, 3) := by decide +kernel
theorem dd_Ref_numberOf_214 : decode prog_14_method_55_code 214 = .ok (.iconst 1, 1) := by decide +kernel
theorem dd_Ref_numberOf_215 : decode prog_14_method_55_code 215 = .ok (.goto 4, 3) := by decide +kernel
theorem dd_Ref_numberOf_218 : decode prog_14_method_55_code 218 = .ok (.iconst 0, 1) := by decide +kernel
theorem dd_Ref_numberOf_219 : decode prog_14_method_55_code 219 = .ok (.putfield 228, 3) := by decide +kernel
theorem dd_Ref_numberOf_222 : decode prog_14_method_55_code 222 = .ok (.iload 4, 2) := by decide +kernel
theorem dd_Ref_numberOf_224 : decode prog_14_method_55_code 224 = .ok (.ifCond .eq 8, 3) := by decide +kernel
theorem dd_Ref_numberOf_227 : decode prog_14_method_55_code 227 = .ok (.lload 6, 2) := by decide +kernel
theorem dd_Ref_numberOf_229 : decode prog_14_method_55_code 229 = .ok (.goto 6, 3) := by decide +kernel
theorem dd_Ref_numberOf_232 : decode prog_14_method_55_code 232 = .ok (.lload 6, 2) := by decide +kernel
theorem dd_Ref_numberOf_234 : decode prog_14_method_55_code 234 = .ok (.lneg, 1) := by decide +kernel
theorem dd_Ref_numberOf_235 : decode prog_14_method_55_code 235 = .ok (.lstore 6, 2) := by decide +kernel
theorem dd_Ref_numberOf_237 : decode prog_14_method_55_code 237 = .ok (.aload_n 0, 1) := by decide +kernel
theorem dd_Ref_numberOf_238 : decode prog_14_method_55_code 238 = .ok (.aload_n 0, 1) := by decide +kernel
theorem dd_Ref_numberOf_239 : decode prog_14_method_55_code 239 = .ok (.getfield 228, 3) := by decide +kernel
theorem dd_Ref_numberOf_242 : decode prog_14_method_55_code 242 = .ok (.ifCond .ne 15, 3) := by decide +kernel
theorem dd_Ref_numberOf_245 : decode prog_14_method_55_code 245 = .ok (.lload 6, 2) := by decide +kernel
theorem dd_Ref_numberOf_247 : decode prog_14_method_55_code 247 = .ok (.lload 6, 2) := by decide +kernel
theorem dd_Ref_numberOf_249 : decode prog_14_method_55_code 249 = .ok (.iload_n 2, 1) := by decide +kernel
theorem dd_Ref_numberOf_250 : decode prog_14_method_55_code 250 = .ok (.invokestatic 224, 3) := by decide +kernel
theorem dd_Ref_numberOf_253 : decode prog_14_method_55_code 253 = .ok (.lcmp, 1) := by decide +kernel
theorem dd_Ref_numberOf_254 : decode prog_14_method_55_code 254 = .ok (.ifCond .eq 7, 3) := by decide +kernel
theorem dd_Ref_numberOf_257 : decode prog_14_method_55_code 257 = .ok (.iconst 1, 1) := by decide +kernel
theorem dd_Ref_numberOf_258 : decode prog_14_method_55_code 258 = .ok (.goto 4, 3) := by decide +kernel
theorem dd_Ref_numberOf_261 : decode prog_14_method_55_code 261 = .ok (.iconst 0, 1) := by decide +kernel
theorem dd_Ref_numberOf_262 : decode prog_14_method_55_code 262 = .ok (.putfield 228, 3) := by decide +kernel
theorem dd_Ref_numberOf_265 : decode prog_14_method_55_code 265 = .ok (.lload 6, 2) := by decide +kernel
theorem dd_Ref_numberOf_267 : decode prog_14_method_55_code 267 = .ok (.lreturn, 1) := by decide +kernel
theorem dd_Ref_fromText_0 : decode prog_14_method_56_code 0 = .ok (.iload_n 2, 1) := by decide +kernel
theorem dd_Ref_fromText_1 : decode prog_14_method_56_code 1 = .ok (.iconst 5, 1) := by decide +kernel
theorem dd_Ref_fromText_2 : decode prog_14_method_56_code 2 = .ok (.if_icmp .ne 17, 3) := by decide +kernel
theorem dd_Ref_fromText_5 : decode prog_14_method_56_code 5 = .ok (.aload_n 0, 1) := by decide +kernel
theorem dd_Ref_fromText_6 : decode prog_14_method_56_code 6 = .ok (.iload_n 1, 1) := by decide +kernel
theorem dd_Ref_fromText_7 : decode prog_14_method_56_code 7 = .ok (.invokevirtual 294, 3) := by decide +kernel
theorem dd_Ref_fromText_10 : decode prog_14_method_56_code 10 = .ok (.ifCond .eq 7, 3) := by decide +kernel
theorem dd_Ref_fromText_13 : decode prog_14_method_56_code 13 = .ok (.lconst 1, 1) := by decide +kernel
theorem dd_Ref_fromText_14 : decode prog_14_method_56_code 14 = .ok (.goto 4, 3) := by decide +kernel
theorem dd_Ref_fromText_17 : decode prog_14_method_56_code 17 = .ok (.lconst 0, 1) := by decide +kernel
theorem dd_Ref_fromText_18 : decode prog_14_method_56_code 18 = .ok (.lreturn, 1) := by decide +kernel
theorem dd_Ref_fromText_19 : decode prog_14_method_56_code 19 = .ok (.iload_n 2, 1) := by decide +kernel
theorem dd_Ref_fromText_20 : decode prog_14_method_56_code 20 = .ok (.iconst 2, 1) := by decide +kernel
theorem dd_Ref_fromText_21 : decode prog_14_method_56_code 21 = .ok (.if_icmp .ne 40, 3) := by decide +kernel
theorem dd_Ref_fromText_24 : decode prog_14_method_56_code 24 = .ok (.aload_n 0, 1) := by decide +kernel
theorem dd_Ref_fromText_25 : decode prog_14_method_56_code 25 = .ok (.aload_n 0, 1) := by decide +kernel
theorem dd_Ref_fromText_26 : decode prog_14_method_56_code 26 = .ok (.getfield 228, 3) := by decide +kernel
theorem dd_Ref_fromText_29 : decode prog_14_method_56_code 29 = .ok (.ifCond .ne 13, 3) := by decide +kernel
theorem dd_Ref_fromText_32 : decode prog_14_method_56_code 32 = .ok (.aload_n 0, 1) := by decide +kernel
theorem dd_Ref_fromText_33 : decode prog_14_method_56_code 33 = .ok (.getfield 69, 3) := by decide +kernel
theorem dd_Ref_fromText_36 : decode prog_14_method_56_code 36 = .ok (.iload_n 1, 1) := by decide +kernel
theorem dd_Ref_fromText_37 : decode prog_14_method_56_code 37 = .ok (.iaload, 1) := by decide +kernel
theorem dd_Ref_fromText_38 : decode prog_14_method_56_code 38 = .ok (.iconst 1, 1) := by decide +kernel
theorem dd_Ref_fromText_39 : decode prog_14_method_56_code 39 = .ok (.if_icmp .eq 7, 3) := by decide +kernel
theorem dd_Ref_fromText_42 : decode prog_14_method_56_code 42 = .ok (.iconst 1, 1) := by decide +kernel
theorem dd_Ref_fromText_43 : decode prog_14_method_56_code 43 = .ok (.goto 4, 3) := by decide +kernel
theorem dd_Ref_fromText_46 : decode prog_14_method_56_code 46 = .ok (.iconst 0, 1) := by decide +kernel
theorem dd_Ref_fromText_47 : decode prog_14_method_56_code 47 = .ok (.putfield 228, 3) := by decide +kernel
theorem dd_Ref_fromText_50 : decode prog_14_method_56_code 50 = .ok (.aload_n 0, 1) := by decide +kernel
theorem dd_Ref_fromText_51 : decode prog_14_method_56_code 51 = .ok (.getfield 75, 3) := by decide +kernel
theorem dd_Ref_fromText_54 : decode prog_14_method_56_code 54 = .ok (.bipush 24, 2) := by decide +kernel
theorem dd_Ref_fromText_56 : decode prog_14_method_56_code 56 = .ok (.iload_n 1, 1) := by decide +kernel
theorem dd_Ref_fromText_57 : decode prog_14_method_56_code 57 = .ok (.imul, 1) := by decide +kernel
theorem dd_Ref_fromText_58 : decode prog_14_method_56_code 58 = .ok (.iaload, 1) := by decide +kernel
theorem dd_Ref_fromText_59 : decode prog_14_method_56_code 59 = .ok (.i2l, 1) := by decide +kernel
theorem dd_Ref_fromText_60 : decode prog_14_method_56_code 60 = .ok (.lreturn, 1) := by decide +kernel
theorem dd_Ref_fromText_61 : decode prog_14_method_56_code 61 = .ok (.aload_n 0, 1) := by decide +kernel
theorem dd_Ref_fromText_62 : decode prog_14_method_56_code 62 = .ok (.iload_n 1, 1) := by decide +kernel
theorem dd_Ref_fromText_63 : decode prog_14_method_56_code 63 = .ok (.iload_n 2, 1) := by decide +kernel
theorem dd_Ref_fromText_64 : decode prog_14_method_56_code 64 = .ok (.invokevirtual 297, 3) := by decide +kernel
theorem dd_Ref_fromText_67 : decode prog_14_method_56_code 67 = .ok (.lreturn, 1) := by decide +kernel
theorem dd_Ref_constant_0 : decode prog_14_method_57_code 0 = .ok (.ldc2_w 166, 3) := by decide +kernel
theorem dd_Ref_constant_3 : decode prog_14_method_57_code 3 = .ok (.lstore_n 3, 1) := by decide +kernel
theorem dd_Ref_constant_4 : decode prog_14_method_57_code 4 = .ok (.iconst 0, 1) := by decide +kernel
theorem dd_Ref_constant_5 : decode prog_14_method_57_code 5 = .ok (.istore 5, 2) := by decide +kernel
theorem dd_Ref_constant_7 : decode prog_14_method_57_code 7 = .ok (.iload 5, 2) := by decide +kernel
theorem dd_Ref_constant_9 : decode prog_14_method_57_code 9 = .ok (.aload_n 0, 1) := by decide +kernel
theorem dd_Ref_constant_10 : decode prog_14_method_57_code 10 = .ok (.getfield 17, 3) := by decide +kernel
theorem dd_Ref_constant_13 : decode prog_14_method_57_code 13 = .ok (.iload_n 2, 1) := by decide +kernel
theorem dd_Ref_constant_14 : decode prog_14_method_57_code 14 = .ok (.iaload, 1) := by decide +kernel
theorem dd_Ref_constant_15 : decode prog_14_method_57_code 15 = .ok (.if_icmp .ge 122, 3) := by decide +kernel
theorem dd_Ref_constant_18 : decode prog_14_method_57_code 18 = .ok (.aload_n 0, 1) := by decide +kernel
theorem dd_Ref_constant_19 : decode prog_14_method_57_code 19 = .ok (.iconst 0, 1) := by decide +kernel
theorem dd_Ref_constant_20 : decode prog_14_method_57_code 20 = .ok (.putfield 267, 3) := by decide +kernel
theorem dd_Ref_constant_23 : decode prog_14_method_57_code 23 = .ok (.aload_n 0, 1) := by decide +kernel
theorem dd_Ref_constant_24 : decode prog_14_method_57_code 24 = .ok (.bipush 110, 2) := by decide +kernel
theorem dd_Ref_constant_26 : decode prog_14_method_57_code 26 = .ok (.invokevirtual 270, 3) := by decide +kernel
theorem dd_Ref_constant_29 : decode prog_14_method_57_code 29 = .ok (.aload_n 0, 1) := by decide +kernel
theorem dd_Ref_constant_30 : decode prog_14_method_57_code 30 = .ok (.aload_n 0, 1) := by decide +kernel
theorem dd_Ref_constant_31 : decode prog_14_method_57_code 31 = .ok (.getfield 20, 3) := by decide +kernel
theorem dd_Ref_constant_34 : decode prog_14_method_57_code 34 = .ok (.bipush 8, 2) := by decide +kernel
theorem dd_Ref_constant_36 : decode prog_14_method_57_code 36 = .ok (.iload_n 2, 1) := by decide +kernel
theorem dd_Ref_constant_37 : decode prog_14_method_57_code 37 = .ok (.imul, 1) := by decide +kernel
theorem dd_Ref_constant_38 : decode prog_14_method_57_code 38 = .ok (.iload 5, 2) := by decide +kernel
theorem dd_Ref_constant_40 : decode prog_14_method_57_code 40 = .ok (.iadd, 1) := by decide +kernel
theorem dd_Ref_constant_41 : decode prog_14_method_57_code 41 = .ok (.iaload, 1) := by decide +kernel
theorem dd_Ref_constant_42 : decode prog_14_method_57_code 42 = .ok (.i2l, 1) := by decide +kernel
theorem dd_Ref_constant_43 : decode prog_14_method_57_code 43 = .ok (.invokevirtual 282, 3) := by decide +kernel
theorem dd_Ref_constant_46 : decode prog_14_method_57_code 46 = .ok (.aload_n 0, 1) := by decide +kernel
theorem dd_Ref_constant_47 : decode prog_14_method_57_code 47 = .ok (.getfield 267, 3) := by decide +kernel
theorem dd_Ref_constant_50 : decode prog_14_method_57_code 50 = .ok (.aload_n 0, 1) := by decide +kernel
theorem dd_Ref_constant_51 : decode prog_14_method_57_code 51 = .ok (.getfield 69, 3) := by decide +kernel
theorem dd_Ref_constant_54 : decode prog_14_method_57_code 54 = .ok (.iload_n 1, 1) := by decide +kernel
theorem dd_Ref_constant_55 : decode prog_14_method_57_code 55 = .ok (.iaload, 1) := by decide +kernel
theorem dd_Ref_constant_56 : decode prog_14_method_57_code 56 = .ok (.if_icmp .ne 7, 3) := by decide +kernel
theorem dd_Ref_constant_59 : decode prog_14_method_57_code 59 = .ok (.iconst 1, 1) := by decide +kernel
theorem dd_Ref_constant_60 : decode prog_14_method_57_code 60 = .ok (.goto 4, 3) := by decide +kernel
theorem dd_Ref_constant_63 : decode prog_14_method_57_code 63 = .ok (.iconst 0, 1) := by decide +kernel
theorem dd_Ref_constant_64 : decode prog_14_method_57_code 64 = .ok (.istore 6, 2) := by decide +kernel
theorem dd_Ref_constant_66 : decode prog_14_method_57_code 66 = .ok (.iconst 0, 1) := by decide +kernel
theorem dd_Ref_constant_67 : decode prog_14_method_57_code 67 = .ok (.istore 7, 2) := by decide +kernel
theorem dd_Ref_constant_69 : decode prog_14_method_57_code 69 = .ok (.iload 7, 2) := by decide +kernel
theorem dd_Ref_constant_71 : decode prog_14_method_57_code 71 = .ok (.aload_n 0, 1) := by decide +kernel
theorem dd_Ref_constant_72 : decode prog_14_method_57_code 72 = .ok (.getfield 267, 3) := by decide +kernel
theorem dd_Ref_constant_75 : decode prog_14_method_57_code 75 = .ok (.if_icmp .ge 43, 3) := by decide +kernel
theorem dd_Ref_constant_78 : decode prog_14_method_57_code 78 = .ok (.iload 6, 2) := by decide +kernel
theorem dd_Ref_constant_80 : decode prog_14_method_57_code 80 = .ok (.ifCond .eq 38, 3) := by decide +kernel
theorem dd_Ref_constant_83 : decode prog_14_method_57_code 83 = .ok (.aload_n 0, 1) := by decide +kernel
theorem dd_Ref_constant_84 : decode prog_14_method_57_code 84 = .ok (.getfield 99, 3) := by decide +kernel
theorem dd_Ref_constant_87 : decode prog_14_method_57_code 87 = .ok (.iload 7, 2) := by decide +kernel
theorem dd_Ref_constant_89 : decode prog_14_method_57_code 89 = .ok (.iaload, 1) := by decide +kernel
theorem dd_Ref_constant_90 : decode prog_14_method_57_code 90 = .ok (.aload_n 0, 1) := by decide +kernel
theorem dd_Ref_constant_91 : decode prog_14_method_57_code 91 = .ok (.getfield 75, 3) := by decide +kernel
theorem dd_Ref_constant_94 : decode prog_14_method_57_code 94 = .ok (.bipush 24, 2) := by decide +kernel
theorem dd_Ref_constant_96 : decode prog_14_method_57_code 96 = .ok (.iload_n 1, 1) := by decide +kernel
theorem dd_Ref_constant_97 : decode prog_14_method_57_code 97 = .ok (.imul, 1) := by decide +kernel
theorem dd_Ref_constant_98 : decode prog_14_method_57_code 98 = .ok (.iload 7, 2) := by decide +kernel
theorem dd_Ref_constant_100 : decode prog_14_method_57_code 100 = .ok (.iadd, 1) := by decide +kernel
theorem dd_Ref_constant_101 : decode prog_14_method_57_code 101 = .ok (.iaload, 1) := by decide +kernel
theorem dd_Ref_constant_102 : decode prog_14_method_57_code 102 = .ok (.if_icmp .ne 7, 3) := by decide +kernel
theorem dd_Ref_constant_105 : decode prog_14_method_57_code 105 = .ok (.iconst 1, 1) := by decide +kernel
theorem dd_Ref_constant_106 : decode prog_14_method_57_code 106 = .ok (.goto 4, 3) := by decide +kernel
theorem dd_Ref_constant_109 : decode prog_14_method_57_code 109 = .ok (.iconst 0, 1) := by decide +kernel
theorem dd_Ref_constant_110 : decode prog_14_method_57_code 110 = .ok (.istore 6, 2) := by decide +kernel
theorem dd_Ref_constant_112 : decode prog_14_method_57_code 112 = .ok (.iinc 7 1, 3) := by decide +kernel
theorem dd_Ref_constant_115 : decode prog_14_method_57_code 115 = .ok (.goto (-46), 3) := by decide +kernel
theorem dd_Ref_constant_118 : decode prog_14_method_57_code 118 = .ok (.iload 6, 2) := by decide +kernel
theorem dd_Ref_constant_120 : decode prog_14_method_57_code 120 = .ok (.ifCond .eq 9, 3) := by decide +kernel
theorem dd_Ref_constant_123 : decode prog_14_method_57_code 123 = .ok (.iload 5, 2) := by decide +kernel
theorem dd_Ref_constant_125 : decode prog_14_method_57_code 125 = .ok (.i2l, 1) := by decide +kernel
theorem dd_Ref_constant_126 : decode prog_14_method_57_code 126 = .ok (.goto 4, 3) := by decide +kernel
theorem dd_Ref_constant_129 : decode prog_14_method_57_code 129 = .ok (.lload_n 3, 1) := by decide +kernel
theorem dd_Ref_constant_130 : decode prog_14_method_57_code 130 = .ok (.lstore_n 3, 1) := by decide +kernel
theorem dd_Ref_constant_131 : decode prog_14_method_57_code 131 = .ok (.iinc 5 1, 3) := by decide +kernel
theorem dd_Ref_constant_134 : decode prog_14_method_57_code 134 = .ok (.goto (-127), 3) := by decide +kernel
theorem dd_Ref_constant_137 : decode prog_14_method_57_code 137 = .ok (.aload_n 0, 1) := by decide +kernel
theorem dd_Ref_constant_138 : decode prog_14_method_57_code 138 = .ok (.aload_n 0, 1) := by decide +kernel
theorem dd_Ref_constant_139 : decode prog_14_method_57_code 139 = .ok (.getfield 228, 3) := by decide +kernel
theorem dd_Ref_constant_142 : decode prog_14_method_57_code 142 = .ok (.ifCond .ne 9, 3) := by decide +kernel
theorem dd_Ref_constant_145 : decode prog_14_method_57_code 145 = .ok (.lload_n 3, 1) := by decide +kernel
theorem dd_Ref_constant_146 : decode prog_14_method_57_code 146 = .ok (.lconst 0, 1) := by decide +kernel
theorem dd_Ref_constant_147 : decode prog_14_method_57_code 147 = .ok (.lcmp, 1) := by decide +kernel
theorem dd_Ref_constant_148 : decode prog_14_method_57_code 148 = .ok (.ifCond .ge 7, 3) := by decide +kernel
theorem dd_Ref_constant_151 : decode prog_14_method_57_code 151 = .ok (.iconst 1, 1) := by decide +kernel
theorem dd_Ref_constant_152 : decode prog_14_method_57_code 152 = .ok (.goto 4, 3) := by decide +kernel
theorem dd_Ref_constant_155 : decode prog_14_method_57_code 155 = .ok (.iconst 0, 1) := by decide +kernel
theorem dd_Ref_constant_156 : decode prog_14_method_57_code 156 = .ok (.putfield 228, 3) := by decide +kernel
theorem dd_Ref_constant_159 : decode prog_14_method_57_code 159 = .ok (.lload_n 3, 1) := by decide +kernel
theorem dd_Ref_constant_160 : decode prog_14_method_57_code 160 = .ok (.lreturn, 1) := by decide +kernel
theorem dd_Ref_plain_0 : decode prog_14_method_58_code 0 = .ok (.aload_n 0, 1) := by decide +kernel
theorem dd_Ref_plain_1 : decode prog_14_method_58_code 1 = .ok (.getfield 13, 3) := by decide +kernel
theorem dd_Ref_plain_4 : decode prog_14_method_58_code 4 = .ok (.iload_n 1, 1) := by decide +kernel
theorem dd_Ref_plain_5 : decode prog_14_method_58_code 5 = .ok (.iaload, 1) := by decide +kernel
theorem dd_Ref_plain_6 : decode prog_14_method_58_code 6 = .ok (.iconst 1, 1) := by decide +kernel
theorem dd_Ref_plain_7 : decode prog_14_method_58_code 7 = .ok (.if_icmp .ne 16, 3) := by decide +kernel
theorem dd_Ref_plain_10 : decode prog_14_method_58_code 10 = .ok (.aload_n 0, 1) := by decide +kernel
theorem dd_Ref_plain_11 : decode prog_14_method_58_code 11 = .ok (.getfield 72, 3) := by decide +kernel
theorem dd_Ref_plain_14 : decode prog_14_method_58_code 14 = .ok (.bipush 16, 2) := by decide +kernel
theorem dd_Ref_plain_16 : decode prog_14_method_58_code 16 = .ok (.lload_n 2, 1) := by decide +kernel
theorem dd_Ref_plain_17 : decode prog_14_method_58_code 17 = .ok (.l2i, 1) := by decide +kernel
theorem dd_Ref_plain_18 : decode prog_14_method_58_code 18 = .ok (.imul, 1) := by decide +kernel
theorem dd_Ref_plain_19 : decode prog_14_method_58_code 19 = .ok (.laload, 1) := by decide +kernel
theorem dd_Ref_plain_20 : decode prog_14_method_58_code 20 = .ok (.goto 4, 3) := by decide +kernel
theorem dd_Ref_plain_23 : decode prog_14_method_58_code 23 = .ok (.lload_n 2, 1) := by decide +kernel
theorem dd_Ref_plain_24 : decode prog_14_method_58_code 24 = .ok (.lreturn, 1) := by decide +kernel
theorem dd_Ref_boxed_0 : decode prog_14_method_59_code 0 = .ok (.aload_n 0, 1) := by decide +kernel
theorem dd_Ref_boxed_1 : decode prog_14_method_59_code 1 = .ok (.getfield 13, 3) := by decide +kernel
theorem dd_Ref_boxed_4 : decode prog_14_method_59_code 4 = .ok (.iload_n 1, 1) := by decide +kernel
theorem dd_Ref_boxed_5 : decode prog_14_method_59_code 5 = .ok (.iaload, 1) := by decide +kernel
theorem dd_Ref_boxed_6 : decode prog_14_method_59_code 6 = .ok (.iconst 1, 1) := by decide +kernel
theorem dd_Ref_boxed_7 : decode prog_14_method_59_code 7 = .ok (.if_icmp .ne 10, 3) := by decide +kernel
theorem dd_Ref_boxed_10 : decode prog_14_method_59_code 10 = .ok (.aload_n 0, 1) := by decide +kernel
theorem dd_Ref_boxed_11 : decode prog_14_method_59_code 11 = .ok (.getfield 228, 3) := by decide +kernel
theorem dd_Ref_boxed_14 : decode prog_14_method_59_code 14 = .ok (.ifCond .eq 5, 3) := by decide +kernel
theorem dd_Ref_boxed_17 : decode prog_14_method_59_code 17 = .ok (.lload_n 2, 1) := by decide +kernel
theorem dd_Ref_boxed_18 : decode prog_14_method_59_code 18 = .ok (.lreturn, 1) := by decide +kernel
theorem dd_Ref_boxed_19 : decode prog_14_method_59_code 19 = .ok (.aload_n 0, 1) := by decide +kernel
theorem dd_Ref_boxed_20 : decode prog_14_method_59_code 20 = .ok (.iload_n 1, 1) := by decide +kernel
theorem dd_Ref_boxed_21 : decode prog_14_method_59_code 21 = .ok (.invokevirtual 239, 3) := by decide +kernel
theorem dd_Ref_boxed_24 : decode prog_14_method_59_code 24 = .ok (.istore 4, 2) := by decide +kernel
theorem dd_Ref_boxed_26 : decode prog_14_method_59_code 26 = .ok (.iload 4, 2) := by decide +kernel
theorem dd_Ref_boxed_28 : decode prog_14_method_59_code 28 = .ok (.ifCond .lt 14, 3) := by decide +kernel
theorem dd_Ref_boxed_31 : decode prog_14_method_59_code 31 = .ok (.aload_n 0, 1) := by decide +kernel
theorem dd_Ref_boxed_32 : decode prog_14_method_59_code 32 = .ok (.getfield 72, 3) := by decide +kernel
theorem dd_Ref_boxed_35 : decode prog_14_method_59_code 35 = .ok (.bipush 16, 2) := by decide +kernel
theorem dd_Ref_boxed_37 : decode prog_14_method_59_code 37 = .ok (.iload 4, 2) := by decide +kernel
theorem dd_Ref_boxed_39 : decode prog_14_method_59_code 39 = .ok (.imul, 1) := by decide +kernel
theorem dd_Ref_boxed_40 : decode prog_14_method_59_code 40 = .ok (.lload_n 2, 1) := by decide +kernel
theorem dd_Ref_boxed_41 : decode prog_14_method_59_code 41 = .ok (.lastore, 1) := by decide +kernel
theorem dd_Ref_boxed_42 : decode prog_14_method_59_code 42 = .ok (.iload 4, 2) := by decide +kernel
theorem dd_Ref_boxed_44 : decode prog_14_method_59_code 44 = .ok (.i2l, 1) := by decide +kernel
theorem dd_Ref_boxed_45 : decode prog_14_method_59_code 45 = .ok (.lreturn, 1) := by decide +kernel
theorem dd_Ref_converted_0 : decode prog_14_method_60_code 0 = .ok (.iload_n 1, 1) := by decide +kernel
theorem dd_Ref_converted_1 : decode prog_14_method_60_code 1 = .ok (.invokestatic 139, 3) := by decide +kernel
theorem dd_Ref_converted_4 : decode prog_14_method_60_code 4 = .ok (.ifCond .eq 28, 3) := by decide +kernel
theorem dd_Ref_converted_7 : decode prog_14_method_60_code 7 = .ok (.iload_n 2, 1) := by decide +kernel
theorem dd_Ref_converted_8 : decode prog_14_method_60_code 8 = .ok (.invokestatic 139, 3) := by decide +kernel
theorem dd_Ref_converted_11 : decode prog_14_method_60_code 11 = .ok (.ifCond .eq 21, 3) := by decide +kernel
theorem dd_Ref_converted_14 : decode prog_14_method_60_code 14 = .ok (.aload_n 0, 1) := by decide +kernel
theorem dd_Ref_converted_15 : decode prog_14_method_60_code 15 = .ok (.iload_n 1, 1) := by decide +kernel
theorem dd_Ref_converted_16 : decode prog_14_method_60_code 16 = .ok (.lload_n 3, 1) := by decide +kernel
theorem dd_Ref_converted_17 : decode prog_14_method_60_code 17 = .ok (.invokevirtual 300, 3) := by decide +kernel
theorem dd_Ref_converted_20 : decode prog_14_method_60_code 20 = .ok (.iload_n 1, 1) := by decide +kernel
theorem dd_Ref_converted_21 : decode prog_14_method_60_code 21 = .ok (.invokestatic 142, 3) := by decide +kernel
theorem dd_Ref_converted_24 : decode prog_14_method_60_code 24 = .ok (.iload_n 2, 1) := by decide +kernel
theorem dd_Ref_converted_25 : decode prog_14_method_60_code 25 = .ok (.invokestatic 142, 3) := by decide +kernel
theorem dd_Ref_converted_28 : decode prog_14_method_60_code 28 = .ok (.invokestatic 304, 3) := by decide +kernel
theorem dd_Ref_converted_31 : decode prog_14_method_60_code 31 = .ok (.lreturn, 1) := by decide +kernel
theorem dd_Ref_converted_32 : decode prog_14_method_60_code 32 = .ok (.iload_n 2, 1) := by decide +kernel
theorem dd_Ref_converted_33 : decode prog_14_method_60_code 33 = .ok (.bipush 14, 2) := by decide +kernel
theorem dd_Ref_converted_35 : decode prog_14_method_60_code 35 = .ok (.if_icmp .ne 26, 3) := by decide +kernel
theorem dd_Ref_converted_38 : decode prog_14_method_60_code 38 = .ok (.aload_n 0, 1) := by decide +kernel
theorem dd_Ref_converted_39 : decode prog_14_method_60_code 39 = .ok (.iload_n 1, 1) := by decide +kernel
theorem dd_Ref_converted_40 : decode prog_14_method_60_code 40 = .ok (.iload_n 1, 1) := by decide +kernel
theorem dd_Ref_converted_41 : decode prog_14_method_60_code 41 = .ok (.invokestatic 139, 3) := by decide +kernel
theorem dd_Ref_converted_44 : decode prog_14_method_60_code 44 = .ok (.ifCond .eq 12, 3) := by decide +kernel
theorem dd_Ref_converted_47 : decode prog_14_method_60_code 47 = .ok (.aload_n 0, 1) := by decide +kernel
theorem dd_Ref_converted_48 : decode prog_14_method_60_code 48 = .ok (.iload_n 1, 1) := by decide +kernel
theorem dd_Ref_converted_49 : decode prog_14_method_60_code 49 = .ok (.lload_n 3, 1) := by decide +kernel
theorem dd_Ref_converted_50 : decode prog_14_method_60_code 50 = .ok (.invokevirtual 300, 3) := by decide +kernel
theorem dd_Ref_converted_53 : decode prog_14_method_60_code 53 = .ok (.goto 4, 3) := by decide +kernel
theorem dd_Ref_converted_56 : decode prog_14_method_60_code 56 = .ok (.lload_n 3, 1) := by decide +kernel
theorem dd_Ref_converted_57 : decode prog_14_method_60_code 57 = .ok (.invokevirtual 308, 3) := by decide +kernel
theorem dd_Ref_converted_60 : decode prog_14_method_60_code 60 = .ok (.lreturn, 1) := by decide +kernel
theorem dd_Ref_converted_61 : decode prog_14_method_60_code 61 = .ok (.iload_n 2, 1) := by decide +kernel
theorem dd_Ref_converted_62 : decode prog_14_method_60_code 62 = .ok (.invokestatic 139, 3) := by decide +kernel
theorem dd_Ref_converted_65 : decode prog_14_method_60_code 65 = .ok (.ifCond .eq 16, 3) := by decide +kernel
theorem dd_Ref_converted_68 : decode prog_14_method_60_code 68 = .ok (.aload_n 0, 1) := by decide +kernel
theorem dd_Ref_converted_69 : decode prog_14_method_60_code 69 = .ok (.lload_n 3, 1) := by decide +kernel
theorem dd_Ref_converted_70 : decode prog_14_method_60_code 70 = .ok (.l2i, 1) := by decide +kernel
theorem dd_Ref_converted_71 : decode prog_14_method_60_code 71 = .ok (.iload_n 2, 1) := by decide +kernel
theorem dd_Ref_converted_72 : decode prog_14_method_60_code 72 = .ok (.invokestatic 142, 3) := by decide +kernel
theorem dd_Ref_converted_75 : decode prog_14_method_60_code 75 = .ok (.invokevirtual 311, 3) := by decide +kernel
theorem dd_Ref_converted_78 : decode prog_14_method_60_code 78 = .ok (.goto 10, 3) := by decide +kernel
theorem dd_Ref_converted_81 : decode prog_14_method_60_code 81 = .ok (.aload_n 0, 1) := by decide +kernel
theorem dd_Ref_converted_82 : decode prog_14_method_60_code 82 = .ok (.lload_n 3, 1) := by decide +kernel
theorem dd_Ref_converted_83 : decode prog_14_method_60_code 83 = .ok (.l2i, 1) := by decide +kernel
theorem dd_Ref_converted_84 : decode prog_14_method_60_code 84 = .ok (.iload_n 2, 1) := by decide +kernel
theorem dd_Ref_converted_85 : decode prog_14_method_60_code 85 = .ok (.invokevirtual 314, 3) := by decide +kernel
theorem dd_Ref_converted_88 : decode prog_14_method_60_code 88 = .ok (.lreturn, 1) := by decide +kernel
theorem dd_Ref_applied_0 : decode prog_14_method_61_code 0 = .ok (.aload_n 0, 1) := by decide +kernel
theorem dd_Ref_applied_1 : decode prog_14_method_61_code 1 = .ok (.aload_n 0, 1) := by decide +kernel
theorem dd_Ref_applied_2 : decode prog_14_method_61_code 2 = .ok (.getfield 51, 3) := by decide +kernel
theorem dd_Ref_applied_5 : decode prog_14_method_61_code 5 = .ok (.iload_n 1, 1) := by decide +kernel
theorem dd_Ref_applied_6 : decode prog_14_method_61_code 6 = .ok (.iaload, 1) := by decide +kernel
theorem dd_Ref_applied_7 : decode prog_14_method_61_code 7 = .ok (.lload_n 2, 1) := by decide +kernel
theorem dd_Ref_applied_8 : decode prog_14_method_61_code 8 = .ok (.aload_n 0, 1) := by decide +kernel
theorem dd_Ref_applied_9 : decode prog_14_method_61_code 9 = .ok (.getfield 54, 3) := by decide +kernel
theorem dd_Ref_applied_12 : decode prog_14_method_61_code 12 = .ok (.iload_n 1, 1) := by decide +kernel
theorem dd_Ref_applied_13 : decode prog_14_method_61_code 13 = .ok (.iaload, 1) := by decide +kernel
theorem dd_Ref_applied_14 : decode prog_14_method_61_code 14 = .ok (.i2l, 1) := by decide +kernel
theorem dd_Ref_applied_15 : decode prog_14_method_61_code 15 = .ok (.lmul, 1) := by decide +kernel
theorem dd_Ref_applied_16 : decode prog_14_method_61_code 16 = .ok (.aload_n 0, 1) := by decide +kernel
theorem dd_Ref_applied_17 : decode prog_14_method_61_code 17 = .ok (.getfield 57, 3) := by decide +kernel
theorem dd_Ref_applied_20 : decode prog_14_method_61_code 20 = .ok (.iload_n 1, 1) := by decide +kernel
theorem dd_Ref_applied_21 : decode prog_14_method_61_code 21 = .ok (.iaload, 1) := by decide +kernel
theorem dd_Ref_applied_22 : decode prog_14_method_61_code 22 = .ok (.i2l, 1) := by decide +kernel
theorem dd_Ref_applied_23 : decode prog_14_method_61_code 23 = .ok (.ladd, 1) := by decide +kernel
theorem dd_Ref_applied_24 : decode prog_14_method_61_code 24 = .ok (.aload_n 0, 1) := by decide +kernel
theorem dd_Ref_applied_25 : decode prog_14_method_61_code 25 = .ok (.getfield 51, 3) := by decide +kernel
theorem dd_Ref_applied_28 : decode prog_14_method_61_code 28 = .ok (.iload_n 1, 1) := by decide +kernel
theorem dd_Ref_applied_29 : decode prog_14_method_61_code 29 = .ok (.iaload, 1) := by decide +kernel
theorem dd_Ref_applied_30 : decode prog_14_method_61_code 30 = .ok (.invokestatic 142, 3) := by decide +kernel
theorem dd_Ref_applied_33 : decode prog_14_method_61_code 33 = .ok (.invokestatic 224, 3) := by decide +kernel
theorem dd_Ref_applied_36 : decode prog_14_method_61_code 36 = .ok (.invokevirtual 317, 3) := by decide +kernel
theorem dd_Ref_applied_39 : decode prog_14_method_61_code 39 = .ok (.lreturn, 1) := by decide +kernel
theorem dd_Ref_isNull_0 : decode prog_14_method_62_code 0 = .ok (.aload_n 0, 1) := by decide +kernel
theorem dd_Ref_isNull_1 : decode prog_14_method_62_code 1 = .ok (.getfield 13, 3) := by decide +kernel
theorem dd_Ref_isNull_4 : decode prog_14_method_62_code 4 = .ok (.iload_n 1, 1) := by decide +kernel
theorem dd_Ref_isNull_5 : decode prog_14_method_62_code 5 = .ok (.iaload, 1) := by decide +kernel
theorem dd_Ref_isNull_6 : decode prog_14_method_62_code 6 = .ok (.ifCond .eq 15, 3) := by decide +kernel
theorem dd_Ref_isNull_9 : decode prog_14_method_62_code 9 = .ok (.lload_n 2, 1) := by decide +kernel
theorem dd_Ref_isNull_10 : decode prog_14_method_62_code 10 = .ok (.ldc2_w 166, 3) := by decide +kernel
theorem dd_Ref_isNull_13 : decode prog_14_method_62_code 13 = .ok (.lcmp, 1) := by decide +kernel
theorem dd_Ref_isNull_14 : decode prog_14_method_62_code 14 = .ok (.ifCond .ne 7, 3) := by decide +kernel
theorem dd_Ref_isNull_17 : decode prog_14_method_62_code 17 = .ok (.iconst 1, 1) := by decide +kernel
theorem dd_Ref_isNull_18 : decode prog_14_method_62_code 18 = .ok (.goto 4, 3) := by decide +kernel
theorem dd_Ref_isNull_21 : decode prog_14_method_62_code 21 = .ok (.iconst 0, 1) := by decide +kernel
theorem dd_Ref_isNull_22 : decode prog_14_method_62_code 22 = .ok (.ireturn, 1) := by decide +kernel
theorem dd_Ref_become_0 : decode prog_14_method_63_code 0 = .ok (.aload_n 0, 1) := by decide +kernel
theorem dd_Ref_become_1 : decode prog_14_method_63_code 1 = .ok (.iload_n 1, 1) := by decide +kernel
theorem dd_Ref_become_2 : decode prog_14_method_63_code 2 = .ok (.iload_n 2, 1) := by decide +kernel
theorem dd_Ref_become_3 : decode prog_14_method_63_code 3 = .ok (.invokevirtual 192, 3) := by decide +kernel
theorem dd_Ref_become_6 : decode prog_14_method_63_code 6 = .ok (.istore 5, 2) := by decide +kernel
theorem dd_Ref_become_8 : decode prog_14_method_63_code 8 = .ok (.iload 5, 2) := by decide +kernel
theorem dd_Ref_become_10 : decode prog_14_method_63_code 10 = .ok (.ifCond .ne 5, 3) := by decide +kernel
theorem dd_Ref_become_13 : decode prog_14_method_63_code 13 = .ok (.lload_n 3, 1) := by decide +kernel
theorem dd_Ref_become_14 : decode prog_14_method_63_code 14 = .ok (.lreturn, 1) := by decide +kernel
theorem dd_Ref_become_15 : decode prog_14_method_63_code 15 = .ok (.iload 5, 2) := by decide +kernel
theorem dd_Ref_become_17 : decode prog_14_method_63_code 17 = .ok (.sipush 200, 3) := by decide +kernel
theorem dd_Ref_become_20 : decode prog_14_method_63_code 20 = .ok (.if_icmp .lt 23, 3) := by decide +kernel
theorem dd_Ref_become_23 : decode prog_14_method_63_code 23 = .ok (.iload 5, 2) := by decide +kernel
theorem dd_Ref_become_25 : decode prog_14_method_63_code 25 = .ok (.sipush 300, 3) := by decide +kernel
theorem dd_Ref_become_28 : decode prog_14_method_63_code 28 = .ok (.if_icmp .ge 15, 3) := by decide +kernel
theorem dd_Ref_become_31 : decode prog_14_method_63_code 31 = .ok (.aload_n 0, 1) := by decide +kernel
theorem dd_Ref_become_32 : decode prog_14_method_63_code 32 = .ok (.iload 5, 2) := by decide +kernel
theorem dd_Ref_become_34 : decode prog_14_method_63_code 34 = .ok (.sipush 200, 3) := by decide +kernel
theorem dd_Ref_become_37 : decode prog_14_method_63_code 37 = .ok (.isub, 1) := by decide +kernel
theorem dd_Ref_become_38 : decode prog_14_method_63_code 38 = .ok (.lload_n 3, 1) := by decide +kernel
theorem dd_Ref_become_39 : decode prog_14_method_63_code 39 = .ok (.invokevirtual 320, 3) := by decide +kernel
theorem dd_Ref_become_42 : decode prog_14_method_63_code 42 = .ok (.lreturn, 1) := by decide +kernel
theorem dd_Ref_become_43 : decode prog_14_method_63_code 43 = .ok (.aload_n 0, 1) := by decide +kernel
theorem dd_Ref_become_44 : decode prog_14_method_63_code 44 = .ok (.iload_n 1, 1) := by decide +kernel
theorem dd_Ref_become_45 : decode prog_14_method_63_code 45 = .ok (.lload_n 3, 1) := by decide +kernel
theorem dd_Ref_become_46 : decode prog_14_method_63_code 46 = .ok (.invokevirtual 323, 3) := by decide +kernel
theorem dd_Ref_become_49 : decode prog_14_method_63_code 49 = .ok (.ifCond .eq 9, 3) := by decide +kernel
theorem dd_Ref_become_52 : decode prog_14_method_63_code 52 = .ok (.aload_n 0, 1) := by decide +kernel
theorem dd_Ref_become_53 : decode prog_14_method_63_code 53 = .ok (.iload_n 2, 1) := by decide +kernel
theorem dd_Ref_become_54 : decode prog_14_method_63_code 54 = .ok (.invokevirtual 231, 3) := by decide +kernel
theorem dd_Ref_become_57 : decode prog_14_method_63_code 57 = .ok (.lreturn, 1) := by decide +kernel
theorem dd_Ref_become_58 : decode prog_14_method_63_code 58 = .ok (.iload 5, 2) := by decide +kernel
theorem dd_Ref_become_60 : decode prog_14_method_63_code 60 = .ok (.iconst 2, 1) := by decide +kernel
theorem dd_Ref_become_61 : decode prog_14_method_63_code 61 = .ok (.if_icmp .ne 23, 3) := by decide +kernel
theorem dd_Ref_become_64 : decode prog_14_method_63_code 64 = .ok (.aload_n 0, 1) := by decide +kernel
theorem dd_Ref_become_65 : decode prog_14_method_63_code 65 = .ok (.iload_n 2, 1) := by decide +kernel
theorem dd_Ref_become_66 : decode prog_14_method_63_code 66 = .ok (.invokevirtual 239, 3) := by decide +kernel
theorem dd_Ref_become_69 : decode prog_14_method_63_code 69 = .ok (.istore 6, 2) := by decide +kernel
theorem dd_Ref_become_71 : decode prog_14_method_63_code 71 = .ok (.aload_n 0, 1) := by decide +kernel
theorem dd_Ref_become_72 : decode prog_14_method_63_code 72 = .ok (.iconst (-1), 1) := by decide +kernel
theorem dd_Ref_become_73 : decode prog_14_method_63_code 73 = .ok (.lload_n 3, 1) := by decide +kernel
theorem dd_Ref_become_74 : decode prog_14_method_63_code 74 = .ok (.l2i, 1) := by decide +kernel
theorem dd_Ref_become_75 : decode prog_14_method_63_code 75 = .ok (.iload 6, 2) := by decide +kernel
theorem dd_Ref_become_77 : decode prog_14_method_63_code 77 = .ok (.invokevirtual 326, 3) := by decide +kernel
theorem dd_Ref_become_80 : decode prog_14_method_63_code 80 = .ok (.iload 6, 2) := by decide +kernel
theorem dd_Ref_become_82 : decode prog_14_method_63_code 82 = .ok (.i2l, 1) := by decide +kernel
theorem dd_Ref_become_83 : decode prog_14_method_63_code 83 = .ok (.lreturn, 1) := by decide +kernel
theorem dd_Ref_become_84 : decode prog_14_method_63_code 84 = .ok (.iload 5, 2) := by decide +kernel
theorem dd_Ref_become_86 : decode prog_14_method_63_code 86 = .ok (.sipush 300, 3) := by decide +kernel
theorem dd_Ref_become_89 : decode prog_14_method_63_code 89 = .ok (.if_icmp .lt 46, 3) := by decide +kernel
theorem dd_Ref_become_92 : decode prog_14_method_63_code 92 = .ok (.iload 5, 2) := by decide +kernel
theorem dd_Ref_become_94 : decode prog_14_method_63_code 94 = .ok (.sipush 300, 3) := by decide +kernel
theorem dd_Ref_become_97 : decode prog_14_method_63_code 97 = .ok (.isub, 1) := by decide +kernel
theorem dd_Ref_become_98 : decode prog_14_method_63_code 98 = .ok (.istore 6, 2) := by decide +kernel
theorem dd_Ref_become_100 : decode prog_14_method_63_code 100 = .ok (.aload_n 0, 1) := by decide +kernel
theorem dd_Ref_become_101 : decode prog_14_method_63_code 101 = .ok (.iload_n 1, 1) := by decide +kernel
theorem dd_Ref_become_102 : decode prog_14_method_63_code 102 = .ok (.aload_n 0, 1) := by decide +kernel
theorem dd_Ref_become_103 : decode prog_14_method_63_code 103 = .ok (.getfield 48, 3) := by decide +kernel
theorem dd_Ref_become_106 : decode prog_14_method_63_code 106 = .ok (.iload 6, 2) := by decide +kernel
theorem dd_Ref_become_108 : decode prog_14_method_63_code 108 = .ok (.iaload, 1) := by decide +kernel
theorem dd_Ref_become_109 : decode prog_14_method_63_code 109 = .ok (.lload_n 3, 1) := by decide +kernel
theorem dd_Ref_become_110 : decode prog_14_method_63_code 110 = .ok (.invokevirtual 330, 3) := by decide +kernel
theorem dd_Ref_become_113 : decode prog_14_method_63_code 113 = .ok (.lstore 7, 2) := by decide +kernel
theorem dd_Ref_become_115 : decode prog_14_method_63_code 115 = .ok (.aload_n 0, 1) := by decide +kernel
theorem dd_Ref_become_116 : decode prog_14_method_63_code 116 = .ok (.getfield 228, 3) := by decide +kernel
theorem dd_Ref_become_119 : decode prog_14_method_63_code 119 = .ok (.ifCond .eq 7, 3) := by decide +kernel
theorem dd_Ref_become_122 : decode prog_14_method_63_code 122 = .ok (.lconst 0, 1) := by decide +kernel
theorem dd_Ref_become_123 : decode prog_14_method_63_code 123 = .ok (.goto 11, 3) := by decide +kernel
theorem dd_Ref_become_126 : decode prog_14_method_63_code 126 = .ok (.aload_n 0, 1) := by decide +kernel
theorem dd_Ref_become_127 : decode prog_14_method_63_code 127 = .ok (.iload 6, 2) := by decide +kernel
theorem dd_Ref_become_129 : decode prog_14_method_63_code 129 = .ok (.lload 7, 2) := by decide +kernel
theorem dd_Ref_become_131 : decode prog_14_method_63_code 131 = .ok (.invokevirtual 334, 3) := by decide +kernel
theorem dd_Ref_become_134 : decode prog_14_method_63_code 134 = .ok (.lreturn, 1) := by decide +kernel
theorem dd_Ref_become_135 : decode prog_14_method_63_code 135 = .ok (.iload 5, 2) := by decide +kernel
theorem dd_Ref_become_137 : decode prog_14_method_63_code 137 = .ok (.bipush 100, 2) := by decide +kernel
theorem dd_Ref_become_139 : decode prog_14_method_63_code 139 = .ok (.if_icmp .lt 19, 3) := by decide +kernel
theorem dd_Ref_become_142 : decode prog_14_method_63_code 142 = .ok (.aload_n 0, 1) := by decide +kernel
theorem dd_Ref_become_143 : decode prog_14_method_63_code 143 = .ok (.iload 5, 2) := by decide +kernel
theorem dd_Ref_become_145 : decode prog_14_method_63_code 145 = .ok (.bipush 100, 2) := by decide +kernel
theorem dd_Ref_become_147 : decode prog_14_method_63_code 147 = .ok (.isub, 1) := by decide +kernel
theorem dd_Ref_become_148 : decode prog_14_method_63_code 148 = .ok (.aload_n 0, 1) := by decide +kernel
theorem dd_Ref_become_149 : decode prog_14_method_63_code 149 = .ok (.iload_n 1, 1) := by decide +kernel
theorem dd_Ref_become_150 : decode prog_14_method_63_code 150 = .ok (.lload_n 3, 1) := by decide +kernel
theorem dd_Ref_become_151 : decode prog_14_method_63_code 151 = .ok (.invokevirtual 300, 3) := by decide +kernel
theorem dd_Ref_become_154 : decode prog_14_method_63_code 154 = .ok (.invokevirtual 334, 3) := by decide +kernel
theorem dd_Ref_become_157 : decode prog_14_method_63_code 157 = .ok (.lreturn, 1) := by decide +kernel
theorem dd_Ref_become_158 : decode prog_14_method_63_code 158 = .ok (.aload_n 0, 1) := by decide +kernel
theorem dd_Ref_become_159 : decode prog_14_method_63_code 159 = .ok (.iload_n 1, 1) := by decide +kernel
theorem dd_Ref_become_160 : decode prog_14_method_63_code 160 = .ok (.iload_n 2, 1) := by decide +kernel
theorem dd_Ref_become_161 : decode prog_14_method_63_code 161 = .ok (.lload_n 3, 1) := by decide +kernel
theorem dd_Ref_become_162 : decode prog_14_method_63_code 162 = .ok (.invokevirtual 330, 3) := by decide +kernel
theorem dd_Ref_become_165 : decode prog_14_method_63_code 165 = .ok (.lstore 6, 2) := by decide +kernel
theorem dd_Ref_become_167 : decode prog_14_method_63_code 167 = .ok (.iload_n 2, 1) := by decide +kernel
theorem dd_Ref_become_168 : decode prog_14_method_63_code 168 = .ok (.invokestatic 139, 3) := by decide +kernel
theorem dd_Ref_become_171 : decode prog_14_method_63_code 171 = .ok (.ifCond .eq 13, 3) := by decide +kernel
theorem dd_Ref_become_174 : decode prog_14_method_63_code 174 = .ok (.aload_n 0, 1) := by decide +kernel
theorem dd_Ref_become_175 : decode prog_14_method_63_code 175 = .ok (.iload_n 2, 1) := by decide +kernel
theorem dd_Ref_become_176 : decode prog_14_method_63_code 176 = .ok (.lload 6, 2) := by decide +kernel
theorem dd_Ref_become_178 : decode prog_14_method_63_code 178 = .ok (.invokevirtual 317, 3) := by decide +kernel
theorem dd_Ref_become_181 : decode prog_14_method_63_code 181 = .ok (.goto 5, 3) := by decide +kernel
theorem dd_Ref_become_184 : decode prog_14_method_63_code 184 = .ok (.lload 6, 2) := by decide +kernel
theorem dd_Ref_become_186 : decode prog_14_method_63_code 186 = .ok (.lreturn, 1) := by decide +kernel
theorem dd_Ref_wait_0 : decode prog_14_method_64_code 0 = .ok (.aload_n 0, 1) := by decide +kernel
theorem dd_Ref_wait_1 : decode prog_14_method_64_code 1 = .ok (.getfield 228, 3) := by decide +kernel
theorem dd_Ref_wait_4 : decode prog_14_method_64_code 4 = .ok (.ifCond .eq 4, 3) := by decide +kernel
theorem dd_Ref_wait_7 : decode prog_14_method_64_code 7 = .ok (.return_, 1) := by decide +kernel
theorem dd_Ref_wait_8 : decode prog_14_method_64_code 8 = .ok (.aload_n 0, 1) := by decide +kernel
theorem dd_Ref_wait_9 : decode prog_14_method_64_code 9 = .ok (.getfield 87, 3) := by decide +kernel
theorem dd_Ref_wait_12 : decode prog_14_method_64_code 12 = .ok (.aload_n 0, 1) := by decide +kernel
theorem dd_Ref_wait_13 : decode prog_14_method_64_code 13 = .ok (.getfield 337, 3) := by decide +kernel
theorem dd_Ref_wait_16 : decode prog_14_method_64_code 16 = .ok (.iload_n 1, 1) := by decide +kernel
theorem dd_Ref_wait_17 : decode prog_14_method_64_code 17 = .ok (.iastore, 1) := by decide +kernel
theorem dd_Ref_wait_18 : decode prog_14_method_64_code 18 = .ok (.aload_n 0, 1) := by decide +kernel
theorem dd_Ref_wait_19 : decode prog_14_method_64_code 19 = .ok (.getfield 90, 3) := by decide +kernel
theorem dd_Ref_wait_22 : decode prog_14_method_64_code 22 = .ok (.aload_n 0, 1) := by decide +kernel
theorem dd_Ref_wait_23 : decode prog_14_method_64_code 23 = .ok (.getfield 337, 3) := by decide +kernel
theorem dd_Ref_wait_26 : decode prog_14_method_64_code 26 = .ok (.iload_n 2, 1) := by decide +kernel
theorem dd_Ref_wait_27 : decode prog_14_method_64_code 27 = .ok (.iastore, 1) := by decide +kernel
theorem dd_Ref_wait_28 : decode prog_14_method_64_code 28 = .ok (.aload_n 0, 1) := by decide +kernel
theorem dd_Ref_wait_29 : decode prog_14_method_64_code 29 = .ok (.getfield 93, 3) := by decide +kernel
theorem dd_Ref_wait_32 : decode prog_14_method_64_code 32 = .ok (.aload_n 0, 1) := by decide +kernel
theorem dd_Ref_wait_33 : decode prog_14_method_64_code 33 = .ok (.getfield 337, 3) := by decide +kernel
theorem dd_Ref_wait_36 : decode prog_14_method_64_code 36 = .ok (.iload_n 3, 1) := by decide +kernel
theorem dd_Ref_wait_37 : decode prog_14_method_64_code 37 = .ok (.iastore, 1) := by decide +kernel
theorem dd_Ref_wait_38 : decode prog_14_method_64_code 38 = .ok (.aload_n 0, 1) := by decide +kernel
theorem dd_Ref_wait_39 : decode prog_14_method_64_code 39 = .ok (.getfield 96, 3) := by decide +kernel
theorem dd_Ref_wait_42 : decode prog_14_method_64_code 42 = .ok (.aload_n 0, 1) := by decide +kernel
theorem dd_Ref_wait_43 : decode prog_14_method_64_code 43 = .ok (.getfield 337, 3) := by decide +kernel
theorem dd_Ref_wait_46 : decode prog_14_method_64_code 46 = .ok (.iconst 0, 1) := by decide +kernel
theorem dd_Ref_wait_47 : decode prog_14_method_64_code 47 = .ok (.iastore, 1) := by decide +kernel
theorem dd_Ref_wait_48 : decode prog_14_method_64_code 48 = .ok (.aload_n 0, 1) := by decide +kernel
theorem dd_Ref_wait_49 : decode prog_14_method_64_code 49 = .ok (.dup, 1) := by decide +kernel
theorem dd_Ref_wait_50 : decode prog_14_method_64_code 50 = .ok (.getfield 337, 3) := by decide +kernel
theorem dd_Ref_wait_53 : decode prog_14_method_64_code 53 = .ok (.iconst 1, 1) := by decide +kernel
theorem dd_Ref_wait_54 : decode prog_14_method_64_code 54 = .ok (.iadd, 1) := by decide +kernel
theorem dd_Ref_wait_55 : decode prog_14_method_64_code 55 = .ok (.putfield 337, 3) := by decide +kernel
theorem dd_Ref_wait_58 : decode prog_14_method_64_code 58 = .ok (.return_, 1) := by decide +kernel
theorem dd_Ref_mapped_0 : decode prog_14_method_65_code 0 = .ok (.aload_n 0, 1) := by decide +kernel
theorem dd_Ref_mapped_1 : decode prog_14_method_65_code 1 = .ok (.getfield 13, 3) := by decide +kernel
theorem dd_Ref_mapped_4 : decode prog_14_method_65_code 4 = .ok (.aload_n 0, 1) := by decide +kernel
theorem dd_Ref_mapped_5 : decode prog_14_method_65_code 5 = .ok (.getfield 29, 3) := by decide +kernel
theorem dd_Ref_mapped_8 : decode prog_14_method_65_code 8 = .ok (.iload_n 1, 1) := by decide +kernel
theorem dd_Ref_mapped_9 : decode prog_14_method_65_code 9 = .ok (.iaload, 1) := by decide +kernel
theorem dd_Ref_mapped_10 : decode prog_14_method_65_code 10 = .ok (.iaload, 1) := by decide +kernel
theorem dd_Ref_mapped_11 : decode prog_14_method_65_code 11 = .ok (.iconst 3, 1) := by decide +kernel
theorem dd_Ref_mapped_12 : decode prog_14_method_65_code 12 = .ok (.if_icmp .ne 51, 3) := by decide +kernel
theorem dd_Ref_mapped_15 : decode prog_14_method_65_code 15 = .ok (.lload_n 2, 1) := by decide +kernel
theorem dd_Ref_mapped_16 : decode prog_14_method_65_code 16 = .ok (.ldc2_w 166, 3) := by decide +kernel
theorem dd_Ref_mapped_19 : decode prog_14_method_65_code 19 = .ok (.lcmp, 1) := by decide +kernel
theorem dd_Ref_mapped_20 : decode prog_14_method_65_code 20 = .ok (.ifCond .ne 7, 3) := by decide +kernel
theorem dd_Ref_mapped_23 : decode prog_14_method_65_code 23 = .ok (.iconst (-1), 1) := by decide +kernel
theorem dd_Ref_mapped_24 : decode prog_14_method_65_code 24 = .ok (.goto 10, 3) := by decide +kernel
theorem dd_Ref_mapped_27 : decode prog_14_method_65_code 27 = .ok (.aload_n 0, 1) := by decide +kernel
theorem dd_Ref_mapped_28 : decode prog_14_method_65_code 28 = .ok (.iload_n 1, 1) := by decide +kernel
theorem dd_Ref_mapped_29 : decode prog_14_method_65_code 29 = .ok (.lload_n 2, 1) := by decide +kernel
theorem dd_Ref_mapped_30 : decode prog_14_method_65_code 30 = .ok (.l2i, 1) := by decide +kernel
theorem dd_Ref_mapped_31 : decode prog_14_method_65_code 31 = .ok (.invokevirtual 214, 3) := by decide +kernel
theorem dd_Ref_mapped_34 : decode prog_14_method_65_code 34 = .ok (.istore 4, 2) := by decide +kernel
theorem dd_Ref_mapped_36 : decode prog_14_method_65_code 36 = .ok (.aload_n 0, 1) := by decide +kernel
theorem dd_Ref_mapped_37 : decode prog_14_method_65_code 37 = .ok (.aload_n 0, 1) := by decide +kernel
theorem dd_Ref_mapped_38 : decode prog_14_method_65_code 38 = .ok (.getfield 228, 3) := by decide +kernel
theorem dd_Ref_mapped_41 : decode prog_14_method_65_code 41 = .ok (.ifCond .ne 10, 3) := by decide +kernel
theorem dd_Ref_mapped_44 : decode prog_14_method_65_code 44 = .ok (.iload 4, 2) := by decide +kernel
theorem dd_Ref_mapped_46 : decode prog_14_method_65_code 46 = .ok (.bipush (-2), 2) := by decide +kernel
theorem dd_Ref_mapped_48 : decode prog_14_method_65_code 48 = .ok (.if_icmp .ne 7, 3) := by decide +kernel
theorem dd_Ref_mapped_51 : decode prog_14_method_65_code 51 = .ok (.iconst 1, 1) := by decide +kernel
theorem dd_Ref_mapped_52 : decode prog_14_method_65_code 52 = .ok (.goto 4, 3) := by decide +kernel
theorem dd_Ref_mapped_55 : decode prog_14_method_65_code 55 = .ok (.iconst 0, 1) := by decide +kernel
theorem dd_Ref_mapped_56 : decode prog_14_method_65_code 56 = .ok (.putfield 228, 3) := by decide +kernel
theorem dd_Ref_mapped_59 : decode prog_14_method_65_code 59 = .ok (.iload 4, 2) := by decide +kernel
theorem dd_Ref_mapped_61 : decode prog_14_method_65_code 61 = .ok (.i2l, 1) := by decide +kernel
theorem dd_Ref_mapped_62 : decode prog_14_method_65_code 62 = .ok (.lreturn, 1) := by decide +kernel
theorem dd_Ref_mapped_63 : decode prog_14_method_65_code 63 = .ok (.lload_n 2, 1) := by decide +kernel
theorem dd_Ref_mapped_64 : decode prog_14_method_65_code 64 = .ok (.ldc2_w 166, 3) := by decide +kernel
theorem dd_Ref_mapped_67 : decode prog_14_method_65_code 67 = .ok (.lcmp, 1) := by decide +kernel
theorem dd_Ref_mapped_68 : decode prog_14_method_65_code 68 = .ok (.ifCond .ne 47, 3) := by decide +kernel
theorem dd_Ref_mapped_71 : decode prog_14_method_65_code 71 = .ok (.aload_n 0, 1) := by decide +kernel
theorem dd_Ref_mapped_72 : decode prog_14_method_65_code 72 = .ok (.iload_n 1, 1) := by decide +kernel
theorem dd_Ref_mapped_73 : decode prog_14_method_65_code 73 = .ok (.bipush 8, 2) := by decide +kernel
theorem dd_Ref_mapped_75 : decode prog_14_method_65_code 75 = .ok (.invokevirtual 148, 3) := by decide +kernel
theorem dd_Ref_mapped_78 : decode prog_14_method_65_code 78 = .ok (.istore 4, 2) := by decide +kernel
theorem dd_Ref_mapped_80 : decode prog_14_method_65_code 80 = .ok (.iload 4, 2) := by decide +kernel
theorem dd_Ref_mapped_82 : decode prog_14_method_65_code 82 = .ok (.ifCond .lt 29, 3) := by decide +kernel
theorem dd_Ref_mapped_85 : decode prog_14_method_65_code 85 = .ok (.aload_n 0, 1) := by decide +kernel
theorem dd_Ref_mapped_86 : decode prog_14_method_65_code 86 = .ok (.getfield 44, 3) := by decide +kernel
theorem dd_Ref_mapped_89 : decode prog_14_method_65_code 89 = .ok (.iload 4, 2) := by decide +kernel
theorem dd_Ref_mapped_91 : decode prog_14_method_65_code 91 = .ok (.laload, 1) := by decide +kernel
theorem dd_Ref_mapped_92 : decode prog_14_method_65_code 92 = .ok (.lconst 1, 1) := by decide +kernel
theorem dd_Ref_mapped_93 : decode prog_14_method_65_code 93 = .ok (.lcmp, 1) := by decide +kernel
theorem dd_Ref_mapped_94 : decode prog_14_method_65_code 94 = .ok (.ifCond .ne 17, 3) := by decide +kernel
theorem dd_Ref_mapped_97 : decode prog_14_method_65_code 97 = .ok (.aload_n 0, 1) := by decide +kernel
theorem dd_Ref_mapped_98 : decode prog_14_method_65_code 98 = .ok (.aload_n 0, 1) := by decide +kernel
theorem dd_Ref_mapped_99 : decode prog_14_method_65_code 99 = .ok (.getfield 32, 3) := by decide +kernel
theorem dd_Ref_mapped_102 : decode prog_14_method_65_code 102 = .ok (.iload_n 1, 1) := by decide +kernel
theorem dd_Ref_mapped_103 : decode prog_14_method_65_code 103 = .ok (.iaload, 1) := by decide +kernel
theorem dd_Ref_mapped_104 : decode prog_14_method_65_code 104 = .ok (.invokevirtual 239, 3) := by decide +kernel
theorem dd_Ref_mapped_107 : decode prog_14_method_65_code 107 = .ok (.i2l, 1) := by decide +kernel
theorem dd_Ref_mapped_108 : decode prog_14_method_65_code 108 = .ok (.goto 6, 3) := by decide +kernel
theorem dd_Ref_mapped_111 : decode prog_14_method_65_code 111 = .ok (.ldc2_w 166, 3) := by decide +kernel
theorem dd_Ref_mapped_114 : decode prog_14_method_65_code 114 = .ok (.lreturn, 1) := by decide +kernel
theorem dd_Ref_mapped_115 : decode prog_14_method_65_code 115 = .ok (.iconst 0, 1) := by decide +kernel
theorem dd_Ref_mapped_116 : decode prog_14_method_65_code 116 = .ok (.istore 4, 2) := by decide +kernel
theorem dd_Ref_mapped_118 : decode prog_14_method_65_code 118 = .ok (.iload 4, 2) := by decide +kernel
theorem dd_Ref_mapped_120 : decode prog_14_method_65_code 120 = .ok (.aload_n 0, 1) := by decide +kernel
theorem dd_Ref_mapped_121 : decode prog_14_method_65_code 121 = .ok (.getfield 340, 3) := by decide +kernel
theorem dd_Ref_mapped_124 : decode prog_14_method_65_code 124 = .ok (.if_icmp .ge 42, 3) := by decide +kernel
theorem dd_Ref_mapped_127 : decode prog_14_method_65_code 127 = .ok (.aload_n 0, 1) := by decide +kernel
theorem dd_Ref_mapped_128 : decode prog_14_method_65_code 128 = .ok (.getfield 78, 3) := by decide +kernel
theorem dd_Ref_mapped_131 : decode prog_14_method_65_code 131 = .ok (.iload 4, 2) := by decide +kernel
theorem dd_Ref_mapped_133 : decode prog_14_method_65_code 133 = .ok (.iaload, 1) := by decide +kernel
theorem dd_Ref_mapped_134 : decode prog_14_method_65_code 134 = .ok (.iload_n 1, 1) := by decide +kernel
theorem dd_Ref_mapped_135 : decode prog_14_method_65_code 135 = .ok (.if_icmp .ne 25, 3) := by decide +kernel
theorem dd_Ref_mapped_138 : decode prog_14_method_65_code 138 = .ok (.aload_n 0, 1) := by decide +kernel
theorem dd_Ref_mapped_139 : decode prog_14_method_65_code 139 = .ok (.getfield 81, 3) := by decide +kernel
theorem dd_Ref_mapped_142 : decode prog_14_method_65_code 142 = .ok (.iload 4, 2) := by decide +kernel
theorem dd_Ref_mapped_144 : decode prog_14_method_65_code 144 = .ok (.iaload, 1) := by decide +kernel
theorem dd_Ref_mapped_145 : decode prog_14_method_65_code 145 = .ok (.i2l, 1) := by decide +kernel
theorem dd_Ref_mapped_146 : decode prog_14_method_65_code 146 = .ok (.lload_n 2, 1) := by decide +kernel
theorem dd_Ref_mapped_147 : decode prog_14_method_65_code 147 = .ok (.lcmp, 1) := by decide +kernel
theorem dd_Ref_mapped_148 : decode prog_14_method_65_code 148 = .ok (.ifCond .ne 12, 3) := by decide +kernel
theorem dd_Ref_mapped_151 : decode prog_14_method_65_code 151 = .ok (.aload_n 0, 1) := by decide +kernel
theorem dd_Ref_mapped_152 : decode prog_14_method_65_code 152 = .ok (.getfield 84, 3) := by decide +kernel
theorem dd_Ref_mapped_155 : decode prog_14_method_65_code 155 = .ok (.iload 4, 2) := by decide +kernel
theorem dd_Ref_mapped_157 : decode prog_14_method_65_code 157 = .ok (.iaload, 1) := by decide +kernel
theorem dd_Ref_mapped_158 : decode prog_14_method_65_code 158 = .ok (.i2l, 1) := by decide +kernel
theorem dd_Ref_mapped_159 : decode prog_14_method_65_code 159 = .ok (.lreturn, 1) := by decide +kernel
theorem dd_Ref_mapped_160 : decode prog_14_method_65_code 160 = .ok (.iinc 4 1, 3) := by decide +kernel
theorem dd_Ref_mapped_163 : decode prog_14_method_65_code 163 = .ok (.goto (-45), 3) := by decide +kernel
theorem dd_Ref_mapped_166 : decode prog_14_method_65_code 166 = .ok (.aload_n 0, 1) := by decide +kernel
theorem dd_Ref_mapped_167 : decode prog_14_method_65_code 167 = .ok (.aload_n 0, 1) := by decide +kernel
theorem dd_Ref_mapped_168 : decode prog_14_method_65_code 168 = .ok (.getfield 32, 3) := by decide +kernel
theorem dd_Ref_mapped_171 : decode prog_14_method_65_code 171 = .ok (.iload_n 1, 1) := by decide +kernel
theorem dd_Ref_mapped_172 : decode prog_14_method_65_code 172 = .ok (.iaload, 1) := by decide +kernel
theorem dd_Ref_mapped_173 : decode prog_14_method_65_code 173 = .ok (.invokevirtual 239, 3) := by decide +kernel
theorem dd_Ref_mapped_176 : decode prog_14_method_65_code 176 = .ok (.istore 4, 2) := by decide +kernel
theorem dd_Ref_mapped_178 : decode prog_14_method_65_code 178 = .ok (.iload 4, 2) := by decide +kernel
theorem dd_Ref_mapped_180 : decode prog_14_method_65_code 180 = .ok (.ifCond .lt 54, 3) := by decide +kernel
theorem dd_Ref_mapped_183 : decode prog_14_method_65_code 183 = .ok (.aload_n 0, 1) := by decide +kernel
theorem dd_Ref_mapped_184 : decode prog_14_method_65_code 184 = .ok (.getfield 78, 3) := by decide +kernel
theorem dd_Ref_mapped_187 : decode prog_14_method_65_code 187 = .ok (.aload_n 0, 1) := by decide +kernel
theorem dd_Ref_mapped_188 : decode prog_14_method_65_code 188 = .ok (.getfield 340, 3) := by decide +kernel
theorem dd_Ref_mapped_191 : decode prog_14_method_65_code 191 = .ok (.iload_n 1, 1) := by decide +kernel
theorem dd_Ref_mapped_192 : decode prog_14_method_65_code 192 = .ok (.iastore, 1) := by decide +kernel
theorem dd_Ref_mapped_193 : decode prog_14_method_65_code 193 = .ok (.aload_n 0, 1) := by decide +kernel
theorem dd_Ref_mapped_194 : decode prog_14_method_65_code 194 = .ok (.getfield 81, 3) := by decide +kernel
theorem dd_Ref_mapped_197 : decode prog_14_method_65_code 197 = .ok (.aload_n 0, 1) := by decide +kernel
theorem dd_Ref_mapped_198 : decode prog_14_method_65_code 198 = .ok (.getfield 340, 3) := by decide +kernel
theorem dd_Ref_mapped_201 : decode prog_14_method_65_code 201 = .ok (.lload_n 2, 1) := by decide +kernel
theorem dd_Ref_mapped_202 : decode prog_14_method_65_code 202 = .ok (.l2i, 1) := by decide +kernel
theorem dd_Ref_mapped_203 : decode prog_14_method_65_code 203 = .ok (.iastore, 1) := by decide +kernel
theorem dd_Ref_mapped_204 : decode prog_14_method_65_code 204 = .ok (.aload_n 0, 1) := by decide +kernel
theorem dd_Ref_mapped_205 : decode prog_14_method_65_code 205 = .ok (.getfield 84, 3) := by decide +kernel
theorem dd_Ref_mapped_208 : decode prog_14_method_65_code 208 = .ok (.aload_n 0, 1) := by decide +kernel
theorem dd_Ref_mapped_209 : decode prog_14_method_65_code 209 = .ok (.getfield 340, 3) := by decide +kernel
theorem dd_Ref_mapped_212 : decode prog_14_method_65_code 212 = .ok (.iload 4, 2) := by decide +kernel
theorem dd_Ref_mapped_214 : decode prog_14_method_65_code 214 = .ok (.iastore, 1) := by decide +kernel
theorem dd_Ref_mapped_215 : decode prog_14_method_65_code 215 = .ok (.aload_n 0, 1) := by decide +kernel
theorem dd_Ref_mapped_216 : decode prog_14_method_65_code 216 = .ok (.dup, 1) := by decide +kernel
theorem dd_Ref_mapped_217 : decode prog_14_method_65_code 217 = .ok (.getfield 340, 3) := by decide +kernel
theorem dd_Ref_mapped_220 : decode prog_14_method_65_code 220 = .ok (.iconst 1, 1) := by decide +kernel
theorem dd_Ref_mapped_221 : decode prog_14_method_65_code 221 = .ok (.iadd, 1) := by decide +kernel
theorem dd_Ref_mapped_222 : decode prog_14_method_65_code 222 = .ok (.putfield 340, 3) := by decide +kernel
theorem dd_Ref_mapped_225 : decode prog_14_method_65_code 225 = .ok (.aload_n 0, 1) := by decide +kernel
theorem dd_Ref_mapped_226 : decode prog_14_method_65_code 226 = .ok (.iload_n 1, 1) := by decide +kernel
theorem dd_Ref_mapped_227 : decode prog_14_method_65_code 227 = .ok (.lload_n 2, 1) := by decide +kernel
theorem dd_Ref_mapped_228 : decode prog_14_method_65_code 228 = .ok (.l2i, 1) := by decide +kernel
theorem dd_Ref_mapped_229 : decode prog_14_method_65_code 229 = .ok (.iload 4, 2) := by decide +kernel
theorem dd_Ref_mapped_231 : decode prog_14_method_65_code 231 = .ok (.invokevirtual 326, 3) := by decide +kernel
theorem dd_Ref_mapped_234 : decode prog_14_method_65_code 234 = .ok (.iload 4, 2) := by decide +kernel
theorem dd_Ref_mapped_236 : decode prog_14_method_65_code 236 = .ok (.i2l, 1) := by decide +kernel
theorem dd_Ref_mapped_237 : decode prog_14_method_65_code 237 = .ok (.lreturn, 1) := by decide +kernel
theorem dd_Ref_fillList_0 : decode prog_14_method_66_code 0 = .ok (.aload_n 0, 1) := by decide +kernel
theorem dd_Ref_fillList_1 : decode prog_14_method_66_code 1 = .ok (.getfield 337, 3) := by decide +kernel
theorem dd_Ref_fillList_4 : decode prog_14_method_66_code 4 = .ok (.iconst 1, 1) := by decide +kernel
theorem dd_Ref_fillList_5 : decode prog_14_method_66_code 5 = .ok (.isub, 1) := by decide +kernel
theorem dd_Ref_fillList_6 : decode prog_14_method_66_code 6 = .ok (.istore_n 1, 1) := by decide +kernel
theorem dd_Ref_fillList_7 : decode prog_14_method_66_code 7 = .ok (.aload_n 0, 1) := by decide +kernel
theorem dd_Ref_fillList_8 : decode prog_14_method_66_code 8 = .ok (.getfield 90, 3) := by decide +kernel
theorem dd_Ref_fillList_11 : decode prog_14_method_66_code 11 = .ok (.iload_n 1, 1) := by decide +kernel
theorem dd_Ref_fillList_12 : decode prog_14_method_66_code 12 = .ok (.iaload, 1) := by decide +kernel
theorem dd_Ref_fillList_13 : decode prog_14_method_66_code 13 = .ok (.istore_n 2, 1) := by decide +kernel
theorem dd_Ref_fillList_14 : decode prog_14_method_66_code 14 = .ok (.aload_n 0, 1) := by decide +kernel
theorem dd_Ref_fillList_15 : decode prog_14_method_66_code 15 = .ok (.getfield 93, 3) := by decide +kernel
theorem dd_Ref_fillList_18 : decode prog_14_method_66_code 18 = .ok (.iload_n 1, 1) := by decide +kernel
theorem dd_Ref_fillList_19 : decode prog_14_method_66_code 19 = .ok (.iaload, 1) := by decide +kernel
theorem dd_Ref_fillList_20 : decode prog_14_method_66_code 20 = .ok (.istore_n 3, 1) := by decide +kernel
theorem dd_Ref_fillList_21 : decode prog_14_method_66_code 21 = .ok (.aload_n 0, 1) := by decide +kernel
theorem dd_Ref_fillList_22 : decode prog_14_method_66_code 22 = .ok (.getfield 96, 3) := by decide +kernel
theorem dd_Ref_fillList_25 : decode prog_14_method_66_code 25 = .ok (.iload_n 1, 1) := by decide +kernel
theorem dd_Ref_fillList_26 : decode prog_14_method_66_code 26 = .ok (.iaload, 1) := by decide +kernel
theorem dd_Ref_fillList_27 : decode prog_14_method_66_code 27 = .ok (.istore 4, 2) := by decide +kernel
theorem dd_Ref_fillList_29 : decode prog_14_method_66_code 29 = .ok (.iload 4, 2) := by decide +kernel
theorem dd_Ref_fillList_31 : decode prog_14_method_66_code 31 = .ok (.aload_n 0, 1) := by decide +kernel
theorem dd_Ref_fillList_32 : decode prog_14_method_66_code 32 = .ok (.getfield 69, 3) := by decide +kernel
theorem dd_Ref_fillList_35 : decode prog_14_method_66_code 35 = .ok (.iload_n 2, 1) := by decide +kernel
theorem dd_Ref_fillList_36 : decode prog_14_method_66_code 36 = .ok (.iaload, 1) := by decide +kernel
theorem dd_Ref_fillList_37 : decode prog_14_method_66_code 37 = .ok (.if_icmp .ne 14, 3) := by decide +kernel
theorem dd_Ref_fillList_40 : decode prog_14_method_66_code 40 = .ok (.aload_n 0, 1) := by decide +kernel
theorem dd_Ref_fillList_41 : decode prog_14_method_66_code 41 = .ok (.dup, 1) := by decide +kernel
theorem dd_Ref_fillList_42 : decode prog_14_method_66_code 42 = .ok (.getfield 337, 3) := by decide +kernel
theorem dd_Ref_fillList_45 : decode prog_14_method_66_code 45 = .ok (.iconst 1, 1) := by decide +kernel
theorem dd_Ref_fillList_46 : decode prog_14_method_66_code 46 = .ok (.isub, 1) := by decide +kernel
theorem dd_Ref_fillList_47 : decode prog_14_method_66_code 47 = .ok (.putfield 337, 3) := by decide +kernel
theorem dd_Ref_fillList_50 : decode prog_14_method_66_code 50 = .ok (.return_, 1) := by decide +kernel
theorem dd_Ref_fillList_51 : decode prog_14_method_66_code 51 = .ok (.aload_n 0, 1) := by decide +kernel
theorem dd_Ref_fillList_52 : decode prog_14_method_66_code 52 = .ok (.getfield 96, 3) := by decide +kernel
theorem dd_Ref_fillList_55 : decode prog_14_method_66_code 55 = .ok (.iload_n 1, 1) := by decide +kernel
theorem dd_Ref_fillList_56 : decode prog_14_method_66_code 56 = .ok (.dup2, 1) := by decide +kernel
theorem dd_Ref_fillList_57 : decode prog_14_method_66_code 57 = .ok (.iaload, 1) := by decide +kernel
theorem dd_Ref_fillList_58 : decode prog_14_method_66_code 58 = .ok (.iconst 1, 1) := by decide +kernel
theorem dd_Ref_fillList_59 : decode prog_14_method_66_code 59 = .ok (.iadd, 1) := by decide +kernel
theorem dd_Ref_fillList_60 : decode prog_14_method_66_code 60 = .ok (.iastore, 1) := by decide +kernel
theorem dd_Ref_fillList_61 : decode prog_14_method_66_code 61 = .ok (.aload_n 0, 1) := by decide +kernel
theorem dd_Ref_fillList_62 : decode prog_14_method_66_code 62 = .ok (.getfield 69, 3) := by decide +kernel
theorem dd_Ref_fillList_65 : decode prog_14_method_66_code 65 = .ok (.iload_n 3, 1) := by decide +kernel
theorem dd_Ref_fillList_66 : decode prog_14_method_66_code 66 = .ok (.dup2, 1) := by decide +kernel
theorem dd_Ref_fillList_67 : decode prog_14_method_66_code 67 = .ok (.iaload, 1) := by decide +kernel
theorem dd_Ref_fillList_68 : decode prog_14_method_66_code 68 = .ok (.iconst 1, 1) := by decide +kernel
theorem dd_Ref_fillList_69 : decode prog_14_method_66_code 69 = .ok (.iadd, 1) := by decide +kernel
theorem dd_Ref_fillList_70 : decode prog_14_method_66_code 70 = .ok (.iastore, 1) := by decide +kernel
theorem dd_Ref_fillList_71 : decode prog_14_method_66_code 71 = .ok (.aload_n 0, 1) := by decide +kernel
theorem dd_Ref_fillList_72 : decode prog_14_method_66_code 72 = .ok (.getfield 72, 3) := by decide +kernel
theorem dd_Ref_fillList_75 : decode prog_14_method_66_code 75 = .ok (.bipush 16, 2) := by decide +kernel
theorem dd_Ref_fillList_77 : decode prog_14_method_66_code 77 = .ok (.iload_n 3, 1) := by decide +kernel
theorem dd_Ref_fillList_78 : decode prog_14_method_66_code 78 = .ok (.imul, 1) := by decide +kernel
theorem dd_Ref_fillList_79 : decode prog_14_method_66_code 79 = .ok (.iload 4, 2) := by decide +kernel
theorem dd_Ref_fillList_81 : decode prog_14_method_66_code 81 = .ok (.iadd, 1) := by decide +kernel
theorem dd_Ref_fillList_82 : decode prog_14_method_66_code 82 = .ok (.aload_n 0, 1) := by decide +kernel
theorem dd_Ref_fillList_83 : decode prog_14_method_66_code 83 = .ok (.aload_n 0, 1) := by decide +kernel
theorem dd_Ref_fillList_84 : decode prog_14_method_66_code 84 = .ok (.getfield 26, 3) := by decide +kernel
theorem dd_Ref_fillList_87 : decode prog_14_method_66_code 87 = .ok (.aload_n 0, 1) := by decide +kernel
theorem dd_Ref_fillList_88 : decode prog_14_method_66_code 88 = .ok (.getfield 66, 3) := by decide +kernel
theorem dd_Ref_fillList_91 : decode prog_14_method_66_code 91 = .ok (.iload_n 2, 1) := by decide +kernel
theorem dd_Ref_fillList_92 : decode prog_14_method_66_code 92 = .ok (.iaload, 1) := by decide +kernel
theorem dd_Ref_fillList_93 : decode prog_14_method_66_code 93 = .ok (.iaload, 1) := by decide +kernel
theorem dd_Ref_fillList_94 : decode prog_14_method_66_code 94 = .ok (.aload_n 0, 1) := by decide +kernel
theorem dd_Ref_fillList_95 : decode prog_14_method_66_code 95 = .ok (.getfield 26, 3) := by decide +kernel
theorem dd_Ref_fillList_98 : decode prog_14_method_66_code 98 = .ok (.aload_n 0, 1) := by decide +kernel
theorem dd_Ref_fillList_99 : decode prog_14_method_66_code 99 = .ok (.getfield 66, 3) := by decide +kernel
theorem dd_Ref_fillList_102 : decode prog_14_method_66_code 102 = .ok (.iload_n 3, 1) := by decide +kernel
theorem dd_Ref_fillList_103 : decode prog_14_method_66_code 103 = .ok (.iaload, 1) := by decide +kernel
theorem dd_Ref_fillList_104 : decode prog_14_method_66_code 104 = .ok (.iaload, 1) := by decide +kernel
theorem dd_Ref_fillList_105 : decode prog_14_method_66_code 105 = .ok (.aload_n 0, 1) := by decide +kernel
theorem dd_Ref_fillList_106 : decode prog_14_method_66_code 106 = .ok (.getfield 72, 3) := by decide +kernel
theorem dd_Ref_fillList_109 : decode prog_14_method_66_code 109 = .ok (.bipush 16, 2) := by decide +kernel
theorem dd_Ref_fillList_111 : decode prog_14_method_66_code 111 = .ok (.iload_n 2, 1) := by decide +kernel
theorem dd_Ref_fillList_112 : decode prog_14_method_66_code 112 = .ok (.imul, 1) := by decide +kernel
theorem dd_Ref_fillList_113 : decode prog_14_method_66_code 113 = .ok (.iload 4, 2) := by decide +kernel
theorem dd_Ref_fillList_115 : decode prog_14_method_66_code 115 = .ok (.iadd, 1) := by decide +kernel
theorem dd_Ref_fillList_116 : decode prog_14_method_66_code 116 = .ok (.laload, 1) := by decide +kernel
theorem dd_Ref_fillList_117 : decode prog_14_method_66_code 117 = .ok (.invokevirtual 343, 3) := by decide +kernel
theorem dd_Ref_fillList_120 : decode prog_14_method_66_code 120 = .ok (.lastore, 1) := by decide +kernel
theorem dd_Ref_fillList_121 : decode prog_14_method_66_code 121 = .ok (.return_, 1) := by decide +kernel
theorem dd_Ref_fillBean_0 : decode prog_14_method_67_code 0 = .ok (.aload_n 0, 1) := by decide +kernel
theorem dd_Ref_fillBean_1 : decode prog_14_method_67_code 1 = .ok (.getfield 337, 3) := by decide +kernel
theorem dd_Ref_fillBean_4 : decode prog_14_method_67_code 4 = .ok (.iconst 1, 1) := by decide +kernel
theorem dd_Ref_fillBean_5 : decode prog_14_method_67_code 5 = .ok (.isub, 1) := by decide +kernel
theorem dd_Ref_fillBean_6 : decode prog_14_method_67_code 6 = .ok (.istore_n 1, 1) := by decide +kernel
theorem dd_Ref_fillBean_7 : decode prog_14_method_67_code 7 = .ok (.aload_n 0, 1) := by decide +kernel
theorem dd_Ref_fillBean_8 : decode prog_14_method_67_code 8 = .ok (.getfield 87, 3) := by decide +kernel
theorem dd_Ref_fillBean_11 : decode prog_14_method_67_code 11 = .ok (.iload_n 1, 1) := by decide +kernel
theorem dd_Ref_fillBean_12 : decode prog_14_method_67_code 12 = .ok (.iaload, 1) := by decide +kernel
theorem dd_Ref_fillBean_13 : decode prog_14_method_67_code 13 = .ok (.istore_n 2, 1) := by decide +kernel
theorem dd_Ref_fillBean_14 : decode prog_14_method_67_code 14 = .ok (.aload_n 0, 1) := by decide +kernel
theorem dd_Ref_fillBean_15 : decode prog_14_method_67_code 15 = .ok (.getfield 32, 3) := by decide +kernel
theorem dd_Ref_fillBean_18 : decode prog_14_method_67_code 18 = .ok (.iload_n 2, 1) := by decide +kernel
theorem dd_Ref_fillBean_19 : decode prog_14_method_67_code 19 = .ok (.iaload, 1) := by decide +kernel
theorem dd_Ref_fillBean_20 : decode prog_14_method_67_code 20 = .ok (.istore_n 3, 1) := by decide +kernel
theorem dd_Ref_fillBean_21 : decode prog_14_method_67_code 21 = .ok (.aload_n 0, 1) := by decide +kernel
theorem dd_Ref_fillBean_22 : decode prog_14_method_67_code 22 = .ok (.getfield 96, 3) := by decide +kernel
theorem dd_Ref_fillBean_25 : decode prog_14_method_67_code 25 = .ok (.iload_n 1, 1) := by decide +kernel
theorem dd_Ref_fillBean_26 : decode prog_14_method_67_code 26 = .ok (.iaload, 1) := by decide +kernel
theorem dd_Ref_fillBean_27 : decode prog_14_method_67_code 27 = .ok (.istore 4, 2) := by decide +kernel
theorem dd_Ref_fillBean_29 : decode prog_14_method_67_code 29 = .ok (.aload_n 0, 1) := by decide +kernel
theorem dd_Ref_fillBean_30 : decode prog_14_method_67_code 30 = .ok (.getfield 93, 3) := by decide +kernel
theorem dd_Ref_fillBean_33 : decode prog_14_method_67_code 33 = .ok (.iload_n 1, 1) := by decide +kernel
theorem dd_Ref_fillBean_34 : decode prog_14_method_67_code 34 = .ok (.iaload, 1) := by decide +kernel
theorem dd_Ref_fillBean_35 : decode prog_14_method_67_code 35 = .ok (.istore 5, 2) := by decide +kernel
theorem dd_Ref_fillBean_37 : decode prog_14_method_67_code 37 = .ok (.iload 4, 2) := by decide +kernel
theorem dd_Ref_fillBean_39 : decode prog_14_method_67_code 39 = .ok (.aload_n 0, 1) := by decide +kernel
theorem dd_Ref_fillBean_40 : decode prog_14_method_67_code 40 = .ok (.getfield 17, 3) := by decide +kernel
theorem dd_Ref_fillBean_43 : decode prog_14_method_67_code 43 = .ok (.iload_n 3, 1) := by decide +kernel
theorem dd_Ref_fillBean_44 : decode prog_14_method_67_code 44 = .ok (.iaload, 1) := by decide +kernel
theorem dd_Ref_fillBean_45 : decode prog_14_method_67_code 45 = .ok (.if_icmp .ne 14, 3) := by decide +kernel
theorem dd_Ref_fillBean_48 : decode prog_14_method_67_code 48 = .ok (.aload_n 0, 1) := by decide +kernel
theorem dd_Ref_fillBean_49 : decode prog_14_method_67_code 49 = .ok (.dup, 1) := by decide +kernel
theorem dd_Ref_fillBean_50 : decode prog_14_method_67_code 50 = .ok (.getfield 337, 3) := by decide +kernel
theorem dd_Ref_fillBean_53 : decode prog_14_method_67_code 53 = .ok (.iconst 1, 1) := by decide +kernel
theorem dd_Ref_fillBean_54 : decode prog_14_method_67_code 54 = .ok (.isub, 1) := by decide +kernel
theorem dd_Ref_fillBean_55 : decode prog_14_method_67_code 55 = .ok (.putfield 337, 3) := by decide +kernel
theorem dd_Ref_fillBean_58 : decode prog_14_method_67_code 58 = .ok (.return_, 1) := by decide +kernel
theorem dd_Ref_fillBean_59 : decode prog_14_method_67_code 59 = .ok (.aload_n 0, 1) := by decide +kernel
theorem dd_Ref_fillBean_60 : decode prog_14_method_67_code 60 = .ok (.getfield 96, 3) := by decide +kernel
theorem dd_Ref_fillBean_63 : decode prog_14_method_67_code 63 = .ok (.iload_n 1, 1) := by decide +kernel
theorem dd_Ref_fillBean_64 : decode prog_14_method_67_code 64 = .ok (.dup2, 1) := by decide +kernel
theorem dd_Ref_fillBean_65 : decode prog_14_method_67_code 65 = .ok (.iaload, 1) := by decide +kernel
theorem dd_Ref_fillBean_66 : decode prog_14_method_67_code 66 = .ok (.iconst 1, 1) := by decide +kernel
theorem dd_Ref_fillBean_67 : decode prog_14_method_67_code 67 = .ok (.iadd, 1) := by decide +kernel
theorem dd_Ref_fillBean_68 : decode prog_14_method_67_code 68 = .ok (.iastore, 1) := by decide +kernel
theorem dd_Ref_fillBean_69 : decode prog_14_method_67_code 69 = .ok (.aload_n 0, 1) := by decide +kernel
theorem dd_Ref_fillBean_70 : decode prog_14_method_67_code 70 = .ok (.getfield 20, 3) := by decide +kernel
theorem dd_Ref_fillBean_73 : decode prog_14_method_67_code 73 = .ok (.bipush 8, 2) := by decide +kernel
theorem dd_Ref_fillBean_75 : decode prog_14_method_67_code 75 = .ok (.iload_n 3, 1) := by decide +kernel
theorem dd_Ref_fillBean_76 : decode prog_14_method_67_code 76 = .ok (.imul, 1) := by decide +kernel
theorem dd_Ref_fillBean_77 : decode prog_14_method_67_code 77 = .ok (.iload 4, 2) := by decide +kernel
theorem dd_Ref_fillBean_79 : decode prog_14_method_67_code 79 = .ok (.iadd, 1) := by decide +kernel
theorem dd_Ref_fillBean_80 : decode prog_14_method_67_code 80 = .ok (.iaload, 1) := by decide +kernel
theorem dd_Ref_fillBean_81 : decode prog_14_method_67_code 81 = .ok (.istore 6, 2) := by decide +kernel
theorem dd_Ref_fillBean_83 : decode prog_14_method_67_code 83 = .ok (.aload_n 0, 1) := by decide +kernel
theorem dd_Ref_fillBean_84 : decode prog_14_method_67_code 84 = .ok (.iload_n 2, 1) := by decide +kernel
theorem dd_Ref_fillBean_85 : decode prog_14_method_67_code 85 = .ok (.iconst 2, 1) := by decide +kernel
theorem dd_Ref_fillBean_86 : decode prog_14_method_67_code 86 = .ok (.iload 6, 2) := by decide +kernel
theorem dd_Ref_fillBean_88 : decode prog_14_method_67_code 88 = .ok (.invokevirtual 151, 3) := by decide +kernel
theorem dd_Ref_fillBean_91 : decode prog_14_method_67_code 91 = .ok (.ifCond .ge 41, 3) := by decide +kernel
theorem dd_Ref_fillBean_94 : decode prog_14_method_67_code 94 = .ok (.aload_n 0, 1) := by decide +kernel
theorem dd_Ref_fillBean_95 : decode prog_14_method_67_code 95 = .ok (.getfield 72, 3) := by decide +kernel
theorem dd_Ref_fillBean_98 : decode prog_14_method_67_code 98 = .ok (.bipush 16, 2) := by decide +kernel
theorem dd_Ref_fillBean_100 : decode prog_14_method_67_code 100 = .ok (.iload 5, 2) := by decide +kernel
theorem dd_Ref_fillBean_102 : decode prog_14_method_67_code 102 = .ok (.imul, 1) := by decide +kernel
theorem dd_Ref_fillBean_103 : decode prog_14_method_67_code 103 = .ok (.iload 4, 2) := by decide +kernel
theorem dd_Ref_fillBean_105 : decode prog_14_method_67_code 105 = .ok (.iadd, 1) := by decide +kernel
theorem dd_Ref_fillBean_106 : decode prog_14_method_67_code 106 = .ok (.aload_n 0, 1) := by decide +kernel
theorem dd_Ref_fillBean_107 : decode prog_14_method_67_code 107 = .ok (.iload_n 2, 1) := by decide +kernel
theorem dd_Ref_fillBean_108 : decode prog_14_method_67_code 108 = .ok (.iload 6, 2) := by decide +kernel
theorem dd_Ref_fillBean_110 : decode prog_14_method_67_code 110 = .ok (.aload_n 0, 1) := by decide +kernel
theorem dd_Ref_fillBean_111 : decode prog_14_method_67_code 111 = .ok (.getfield 23, 3) := by decide +kernel
theorem dd_Ref_fillBean_114 : decode prog_14_method_67_code 114 = .ok (.bipush 8, 2) := by decide +kernel
theorem dd_Ref_fillBean_116 : decode prog_14_method_67_code 116 = .ok (.iload_n 3, 1) := by decide +kernel
theorem dd_Ref_fillBean_117 : decode prog_14_method_67_code 117 = .ok (.imul, 1) := by decide +kernel
theorem dd_Ref_fillBean_118 : decode prog_14_method_67_code 118 = .ok (.iload 4, 2) := by decide +kernel
theorem dd_Ref_fillBean_120 : decode prog_14_method_67_code 120 = .ok (.iadd, 1) := by decide +kernel
theorem dd_Ref_fillBean_121 : decode prog_14_method_67_code 121 = .ok (.iaload, 1) := by decide +kernel
theorem dd_Ref_fillBean_122 : decode prog_14_method_67_code 122 = .ok (.aload_n 0, 1) := by decide +kernel
theorem dd_Ref_fillBean_123 : decode prog_14_method_67_code 123 = .ok (.getfield 90, 3) := by decide +kernel
theorem dd_Ref_fillBean_126 : decode prog_14_method_67_code 126 = .ok (.iload_n 1, 1) := by decide +kernel
theorem dd_Ref_fillBean_127 : decode prog_14_method_67_code 127 = .ok (.iaload, 1) := by decide +kernel
theorem dd_Ref_fillBean_128 : decode prog_14_method_67_code 128 = .ok (.invokevirtual 346, 3) := by decide +kernel
theorem dd_Ref_fillBean_131 : decode prog_14_method_67_code 131 = .ok (.lastore, 1) := by decide +kernel
theorem dd_Ref_fillBean_132 : decode prog_14_method_67_code 132 = .ok (.return_, 1) := by decide +kernel
theorem dd_Ref_valueOf_0 : decode prog_14_method_68_code 0 = .ok (.aload_n 0, 1) := by decide +kernel
theorem dd_Ref_valueOf_1 : decode prog_14_method_68_code 1 = .ok (.iload_n 1, 1) := by decide +kernel
theorem dd_Ref_valueOf_2 : decode prog_14_method_68_code 2 = .ok (.iconst 1, 1) := by decide +kernel
theorem dd_Ref_valueOf_3 : decode prog_14_method_68_code 3 = .ok (.iload_n 2, 1) := by decide +kernel
theorem dd_Ref_valueOf_4 : decode prog_14_method_68_code 4 = .ok (.invokevirtual 151, 3) := by decide +kernel
theorem dd_Ref_valueOf_7 : decode prog_14_method_68_code 7 = .ok (.istore 5, 2) := by decide +kernel
theorem dd_Ref_valueOf_9 : decode prog_14_method_68_code 9 = .ok (.iload 5, 2) := by decide +kernel
theorem dd_Ref_valueOf_11 : decode prog_14_method_68_code 11 = .ok (.ifCond .lt 17, 3) := by decide +kernel
theorem dd_Ref_valueOf_14 : decode prog_14_method_68_code 14 = .ok (.aload_n 0, 1) := by decide +kernel
theorem dd_Ref_valueOf_15 : decode prog_14_method_68_code 15 = .ok (.iconst 4, 1) := by decide +kernel
theorem dd_Ref_valueOf_16 : decode prog_14_method_68_code 16 = .ok (.iload_n 3, 1) := by decide +kernel
theorem dd_Ref_valueOf_17 : decode prog_14_method_68_code 17 = .ok (.aload_n 0, 1) := by decide +kernel
theorem dd_Ref_valueOf_18 : decode prog_14_method_68_code 18 = .ok (.getfield 44, 3) := by decide +kernel
theorem dd_Ref_valueOf_21 : decode prog_14_method_68_code 21 = .ok (.iload 5, 2) := by decide +kernel
theorem dd_Ref_valueOf_23 : decode prog_14_method_68_code 23 = .ok (.laload, 1) := by decide +kernel
theorem dd_Ref_valueOf_24 : decode prog_14_method_68_code 24 = .ok (.invokevirtual 343, 3) := by decide +kernel
theorem dd_Ref_valueOf_27 : decode prog_14_method_68_code 27 = .ok (.lreturn, 1) := by decide +kernel
theorem dd_Ref_valueOf_28 : decode prog_14_method_68_code 28 = .ok (.aload_n 0, 1) := by decide +kernel
theorem dd_Ref_valueOf_29 : decode prog_14_method_68_code 29 = .ok (.iload_n 1, 1) := by decide +kernel
theorem dd_Ref_valueOf_30 : decode prog_14_method_68_code 30 = .ok (.iload_n 2, 1) := by decide +kernel
theorem dd_Ref_valueOf_31 : decode prog_14_method_68_code 31 = .ok (.invokevirtual 198, 3) := by decide +kernel
theorem dd_Ref_valueOf_34 : decode prog_14_method_68_code 34 = .ok (.lstore 6, 2) := by decide +kernel
theorem dd_Ref_valueOf_36 : decode prog_14_method_68_code 36 = .ok (.aload_n 0, 1) := by decide +kernel
theorem dd_Ref_valueOf_37 : decode prog_14_method_68_code 37 = .ok (.getfield 29, 3) := by decide +kernel
theorem dd_Ref_valueOf_40 : decode prog_14_method_68_code 40 = .ok (.iload_n 1, 1) := by decide +kernel
theorem dd_Ref_valueOf_41 : decode prog_14_method_68_code 41 = .ok (.iaload, 1) := by decide +kernel
theorem dd_Ref_valueOf_42 : decode prog_14_method_68_code 42 = .ok (.istore 8, 2) := by decide +kernel
theorem dd_Ref_valueOf_44 : decode prog_14_method_68_code 44 = .ok (.iload 4, 2) := by decide +kernel
theorem dd_Ref_valueOf_46 : decode prog_14_method_68_code 46 = .ok (.i2l, 1) := by decide +kernel
theorem dd_Ref_valueOf_47 : decode prog_14_method_68_code 47 = .ok (.lstore 9, 2) := by decide +kernel
theorem dd_Ref_valueOf_49 : decode prog_14_method_68_code 49 = .ok (.iconst 0, 1) := by decide +kernel
theorem dd_Ref_valueOf_50 : decode prog_14_method_68_code 50 = .ok (.istore 11, 2) := by decide +kernel
theorem dd_Ref_valueOf_52 : decode prog_14_method_68_code 52 = .ok (.lload 6, 2) := by decide +kernel
theorem dd_Ref_valueOf_54 : decode prog_14_method_68_code 54 = .ok (.iload 11, 2) := by decide +kernel
theorem dd_Ref_valueOf_56 : decode prog_14_method_68_code 56 = .ok (.invokestatic 158, 3) := by decide +kernel
theorem dd_Ref_valueOf_59 : decode prog_14_method_68_code 59 = .ok (.ifCond .lt 86, 3) := by decide +kernel
theorem dd_Ref_valueOf_62 : decode prog_14_method_68_code 62 = .ok (.lload 9, 2) := by decide +kernel
theorem dd_Ref_valueOf_64 : decode prog_14_method_68_code 64 = .ok (.ldc2_w 166, 3) := by decide +kernel
theorem dd_Ref_valueOf_67 : decode prog_14_method_68_code 67 = .ok (.lcmp, 1) := by decide +kernel
theorem dd_Ref_valueOf_68 : decode prog_14_method_68_code 68 = .ok (.ifCond .eq 77, 3) := by decide +kernel
theorem dd_Ref_valueOf_71 : decode prog_14_method_68_code 71 = .ok (.aload_n 0, 1) := by decide +kernel
theorem dd_Ref_valueOf_72 : decode prog_14_method_68_code 72 = .ok (.iload 8, 2) := by decide +kernel
theorem dd_Ref_valueOf_74 : decode prog_14_method_68_code 74 = .ok (.lload 6, 2) := by decide +kernel
theorem dd_Ref_valueOf_76 : decode prog_14_method_68_code 76 = .ok (.iload 11, 2) := by decide +kernel
theorem dd_Ref_valueOf_78 : decode prog_14_method_68_code 78 = .ok (.invokestatic 158, 3) := by decide +kernel
theorem dd_Ref_valueOf_81 : decode prog_14_method_68_code 81 = .ok (.invokevirtual 129, 3) := by decide +kernel
theorem dd_Ref_valueOf_84 : decode prog_14_method_68_code 84 = .ok (.istore 12, 2) := by decide +kernel
theorem dd_Ref_valueOf_86 : decode prog_14_method_68_code 86 = .ok (.aload_n 0, 1) := by decide +kernel
theorem dd_Ref_valueOf_87 : decode prog_14_method_68_code 87 = .ok (.getfield 72, 3) := by decide +kernel
theorem dd_Ref_valueOf_90 : decode prog_14_method_68_code 90 = .ok (.bipush 16, 2) := by decide +kernel
theorem dd_Ref_valueOf_92 : decode prog_14_method_68_code 92 = .ok (.lload 9, 2) := by decide +kernel
theorem dd_Ref_valueOf_94 : decode prog_14_method_68_code 94 = .ok (.l2i, 1) := by decide +kernel
theorem dd_Ref_valueOf_95 : decode prog_14_method_68_code 95 = .ok (.imul, 1) := by decide +kernel
theorem dd_Ref_valueOf_96 : decode prog_14_method_68_code 96 = .ok (.iload 12, 2) := by decide +kernel
theorem dd_Ref_valueOf_98 : decode prog_14_method_68_code 98 = .ok (.iadd, 1) := by decide +kernel
theorem dd_Ref_valueOf_99 : decode prog_14_method_68_code 99 = .ok (.laload, 1) := by decide +kernel
theorem dd_Ref_valueOf_100 : decode prog_14_method_68_code 100 = .ok (.lstore 9, 2) := by decide +kernel
theorem dd_Ref_valueOf_102 : decode prog_14_method_68_code 102 = .ok (.aload_n 0, 1) := by decide +kernel
theorem dd_Ref_valueOf_103 : decode prog_14_method_68_code 103 = .ok (.getfield 23, 3) := by decide +kernel
theorem dd_Ref_valueOf_106 : decode prog_14_method_68_code 106 = .ok (.bipush 8, 2) := by decide +kernel
theorem dd_Ref_valueOf_108 : decode prog_14_method_68_code 108 = .ok (.iload 8, 2) := by decide +kernel
theorem dd_Ref_valueOf_110 : decode prog_14_method_68_code 110 = .ok (.imul, 1) := by decide +kernel
theorem dd_Ref_valueOf_111 : decode prog_14_method_68_code 111 = .ok (.iload 12, 2) := by decide +kernel
theorem dd_Ref_valueOf_113 : decode prog_14_method_68_code 113 = .ok (.iadd, 1) := by decide +kernel
theorem dd_Ref_valueOf_114 : decode prog_14_method_68_code 114 = .ok (.iaload, 1) := by decide +kernel
theorem dd_Ref_valueOf_115 : decode prog_14_method_68_code 115 = .ok (.istore 8, 2) := by decide +kernel
theorem dd_Ref_valueOf_117 : decode prog_14_method_68_code 117 = .ok (.iinc 11 1, 3) := by decide +kernel
theorem dd_Ref_valueOf_120 : decode prog_14_method_68_code 120 = .ok (.lload 6, 2) := by decide +kernel
theorem dd_Ref_valueOf_122 : decode prog_14_method_68_code 122 = .ok (.iload 11, 2) := by decide +kernel
theorem dd_Ref_valueOf_124 : decode prog_14_method_68_code 124 = .ok (.invokestatic 158, 3) := by decide +kernel
theorem dd_Ref_valueOf_127 : decode prog_14_method_68_code 127 = .ok (.ifCond .ge 15, 3) := by decide +kernel
theorem dd_Ref_valueOf_130 : decode prog_14_method_68_code 130 = .ok (.aload_n 0, 1) := by decide +kernel
theorem dd_Ref_valueOf_131 : decode prog_14_method_68_code 131 = .ok (.iload_n 1, 1) := by decide +kernel
theorem dd_Ref_valueOf_132 : decode prog_14_method_68_code 132 = .ok (.iload_n 2, 1) := by decide +kernel
theorem dd_Ref_valueOf_133 : decode prog_14_method_68_code 133 = .ok (.iload 8, 2) := by decide +kernel
theorem dd_Ref_valueOf_135 : decode prog_14_method_68_code 135 = .ok (.iload_n 3, 1) := by decide +kernel
theorem dd_Ref_valueOf_136 : decode prog_14_method_68_code 136 = .ok (.lload 9, 2) := by decide +kernel
theorem dd_Ref_valueOf_138 : decode prog_14_method_68_code 138 = .ok (.invokevirtual 350, 3) := by decide +kernel
theorem dd_Ref_valueOf_141 : decode prog_14_method_68_code 141 = .ok (.lreturn, 1) := by decide +kernel
theorem dd_Ref_valueOf_142 : decode prog_14_method_68_code 142 = .ok (.goto (-90), 3) := by decide +kernel
theorem dd_Ref_valueOf_145 : decode prog_14_method_68_code 145 = .ok (.aload_n 0, 1) := by decide +kernel
theorem dd_Ref_valueOf_146 : decode prog_14_method_68_code 146 = .ok (.iload_n 1, 1) := by decide +kernel
theorem dd_Ref_valueOf_147 : decode prog_14_method_68_code 147 = .ok (.iconst 3, 1) := by decide +kernel
theorem dd_Ref_valueOf_148 : decode prog_14_method_68_code 148 = .ok (.iload_n 2, 1) := by decide +kernel
theorem dd_Ref_valueOf_149 : decode prog_14_method_68_code 149 = .ok (.invokevirtual 151, 3) := by decide +kernel
theorem dd_Ref_valueOf_152 : decode prog_14_method_68_code 152 = .ok (.istore 12, 2) := by decide +kernel
theorem dd_Ref_valueOf_154 : decode prog_14_method_68_code 154 = .ok (.iload 12, 2) := by decide +kernel
theorem dd_Ref_valueOf_156 : decode prog_14_method_68_code 156 = .ok (.ifCond .lt 19, 3) := by decide +kernel
theorem dd_Ref_valueOf_159 : decode prog_14_method_68_code 159 = .ok (.aload_n 0, 1) := by decide +kernel
theorem dd_Ref_valueOf_160 : decode prog_14_method_68_code 160 = .ok (.iconst 4, 1) := by decide +kernel
theorem dd_Ref_valueOf_161 : decode prog_14_method_68_code 161 = .ok (.iload_n 3, 1) := by decide +kernel
theorem dd_Ref_valueOf_162 : decode prog_14_method_68_code 162 = .ok (.aload_n 0, 1) := by decide +kernel
theorem dd_Ref_valueOf_163 : decode prog_14_method_68_code 163 = .ok (.getfield 44, 3) := by decide +kernel
theorem dd_Ref_valueOf_166 : decode prog_14_method_68_code 166 = .ok (.iload 12, 2) := by decide +kernel
theorem dd_Ref_valueOf_168 : decode prog_14_method_68_code 168 = .ok (.laload, 1) := by decide +kernel
theorem dd_Ref_valueOf_169 : decode prog_14_method_68_code 169 = .ok (.invokevirtual 343, 3) := by decide +kernel
theorem dd_Ref_valueOf_172 : decode prog_14_method_68_code 172 = .ok (.goto 8, 3) := by decide +kernel
theorem dd_Ref_valueOf_175 : decode prog_14_method_68_code 175 = .ok (.aload_n 0, 1) := by decide +kernel
theorem dd_Ref_valueOf_176 : decode prog_14_method_68_code 176 = .ok (.iload_n 3, 1) := by decide +kernel
theorem dd_Ref_valueOf_177 : decode prog_14_method_68_code 177 = .ok (.invokevirtual 231, 3) := by decide +kernel
theorem dd_Ref_valueOf_180 : decode prog_14_method_68_code 180 = .ok (.lreturn, 1) := by decide +kernel
theorem dd_Ref_ends_0 : decode prog_14_method_69_code 0 = .ok (.aload_n 0, 1) := by decide +kernel
theorem dd_Ref_ends_1 : decode prog_14_method_69_code 1 = .ok (.iload_n 1, 1) := by decide +kernel
theorem dd_Ref_ends_2 : decode prog_14_method_69_code 2 = .ok (.iconst 3, 1) := by decide +kernel
theorem dd_Ref_ends_3 : decode prog_14_method_69_code 3 = .ok (.iload_n 2, 1) := by decide +kernel
theorem dd_Ref_ends_4 : decode prog_14_method_69_code 4 = .ok (.invokevirtual 151, 3) := by decide +kernel
theorem dd_Ref_ends_7 : decode prog_14_method_69_code 7 = .ok (.istore 7, 2) := by decide +kernel
theorem dd_Ref_ends_9 : decode prog_14_method_69_code 9 = .ok (.aload_n 0, 1) := by decide +kernel
theorem dd_Ref_ends_10 : decode prog_14_method_69_code 10 = .ok (.iload_n 3, 1) := by decide +kernel
theorem dd_Ref_ends_11 : decode prog_14_method_69_code 11 = .ok (.lload 5, 2) := by decide +kernel
theorem dd_Ref_ends_13 : decode prog_14_method_69_code 13 = .ok (.invokevirtual 323, 3) := by decide +kernel
theorem dd_Ref_ends_16 : decode prog_14_method_69_code 16 = .ok (.ifCond .eq 23, 3) := by decide +kernel
theorem dd_Ref_ends_19 : decode prog_14_method_69_code 19 = .ok (.iload 7, 2) := by decide +kernel
theorem dd_Ref_ends_21 : decode prog_14_method_69_code 21 = .ok (.ifCond .lt 18, 3) := by decide +kernel
theorem dd_Ref_ends_24 : decode prog_14_method_69_code 24 = .ok (.aload_n 0, 1) := by decide +kernel
theorem dd_Ref_ends_25 : decode prog_14_method_69_code 25 = .ok (.iconst 4, 1) := by decide +kernel
theorem dd_Ref_ends_26 : decode prog_14_method_69_code 26 = .ok (.iload 4, 2) := by decide +kernel
theorem dd_Ref_ends_28 : decode prog_14_method_69_code 28 = .ok (.aload_n 0, 1) := by decide +kernel
theorem dd_Ref_ends_29 : decode prog_14_method_69_code 29 = .ok (.getfield 44, 3) := by decide +kernel
theorem dd_Ref_ends_32 : decode prog_14_method_69_code 32 = .ok (.iload 7, 2) := by decide +kernel
theorem dd_Ref_ends_34 : decode prog_14_method_69_code 34 = .ok (.laload, 1) := by decide +kernel
theorem dd_Ref_ends_35 : decode prog_14_method_69_code 35 = .ok (.invokevirtual 343, 3) := by decide +kernel
theorem dd_Ref_ends_38 : decode prog_14_method_69_code 38 = .ok (.lreturn, 1) := by decide +kernel
theorem dd_Ref_ends_39 : decode prog_14_method_69_code 39 = .ok (.aload_n 0, 1) := by decide +kernel
theorem dd_Ref_ends_40 : decode prog_14_method_69_code 40 = .ok (.iload_n 1, 1) := by decide +kernel
theorem dd_Ref_ends_41 : decode prog_14_method_69_code 41 = .ok (.iconst 4, 1) := by decide +kernel
theorem dd_Ref_ends_42 : decode prog_14_method_69_code 42 = .ok (.iload_n 2, 1) := by decide +kernel
theorem dd_Ref_ends_43 : decode prog_14_method_69_code 43 = .ok (.invokevirtual 151, 3) := by decide +kernel
theorem dd_Ref_ends_46 : decode prog_14_method_69_code 46 = .ok (.istore 8, 2) := by decide +kernel
theorem dd_Ref_ends_48 : decode prog_14_method_69_code 48 = .ok (.iload 8, 2) := by decide +kernel
theorem dd_Ref_ends_50 : decode prog_14_method_69_code 50 = .ok (.ifCond .ge 13, 3) := by decide +kernel
theorem dd_Ref_ends_53 : decode prog_14_method_69_code 53 = .ok (.aload_n 0, 1) := by decide +kernel
theorem dd_Ref_ends_54 : decode prog_14_method_69_code 54 = .ok (.iload_n 3, 1) := by decide +kernel
theorem dd_Ref_ends_55 : decode prog_14_method_69_code 55 = .ok (.iload 4, 2) := by decide +kernel
theorem dd_Ref_ends_57 : decode prog_14_method_69_code 57 = .ok (.lload 5, 2) := by decide +kernel
theorem dd_Ref_ends_59 : decode prog_14_method_69_code 59 = .ok (.invokevirtual 343, 3) := by decide +kernel
theorem dd_Ref_ends_62 : decode prog_14_method_69_code 62 = .ok (.lreturn, 1) := by decide +kernel
theorem dd_Ref_ends_63 : decode prog_14_method_69_code 63 = .ok (.aload_n 0, 1) := by decide +kernel
theorem dd_Ref_ends_64 : decode prog_14_method_69_code 64 = .ok (.iload_n 3, 1) := by decide +kernel
theorem dd_Ref_ends_65 : decode prog_14_method_69_code 65 = .ok (.lload 5, 2) := by decide +kernel
theorem dd_Ref_ends_67 : decode prog_14_method_69_code 67 = .ok (.invokevirtual 323, 3) := by decide +kernel
theorem dd_Ref_ends_70 : decode prog_14_method_69_code 70 = .ok (.ifCond .eq 12, 3) := by decide +kernel
theorem dd_Ref_ends_73 : decode prog_14_method_69_code 73 = .ok (.aload_n 0, 1) := by decide +kernel
theorem dd_Ref_ends_74 : decode prog_14_method_69_code 74 = .ok (.iload 4, 2) := by decide +kernel
theorem dd_Ref_ends_76 : decode prog_14_method_69_code 76 = .ok (.invokevirtual 231, 3) := by decide +kernel
theorem dd_Ref_ends_79 : decode prog_14_method_69_code 79 = .ok (.goto 22, 3) := by decide +kernel
theorem dd_Ref_ends_82 : decode prog_14_method_69_code 82 = .ok (.aload_n 0, 1) := by decide +kernel
theorem dd_Ref_ends_83 : decode prog_14_method_69_code 83 = .ok (.aload_n 0, 1) := by decide +kernel
theorem dd_Ref_ends_84 : decode prog_14_method_69_code 84 = .ok (.getfield 44, 3) := by decide +kernel
theorem dd_Ref_ends_87 : decode prog_14_method_69_code 87 = .ok (.iload 8, 2) := by decide +kernel
theorem dd_Ref_ends_89 : decode prog_14_method_69_code 89 = .ok (.laload, 1) := by decide +kernel
theorem dd_Ref_ends_90 : decode prog_14_method_69_code 90 = .ok (.l2i, 1) := by decide +kernel
theorem dd_Ref_ends_91 : decode prog_14_method_69_code 91 = .ok (.aload_n 0, 1) := by decide +kernel
theorem dd_Ref_ends_92 : decode prog_14_method_69_code 92 = .ok (.iload_n 3, 1) := by decide +kernel
theorem dd_Ref_ends_93 : decode prog_14_method_69_code 93 = .ok (.lload 5, 2) := by decide +kernel
theorem dd_Ref_ends_95 : decode prog_14_method_69_code 95 = .ok (.invokevirtual 300, 3) := by decide +kernel
theorem dd_Ref_ends_98 : decode prog_14_method_69_code 98 = .ok (.invokevirtual 334, 3) := by decide +kernel
theorem dd_Ref_ends_101 : decode prog_14_method_69_code 101 = .ok (.lreturn, 1) := by decide +kernel
theorem dd_Ref_map_0 : decode prog_14_method_70_code 0 = .ok (.iload_n 1, 1) := by decide +kernel
theorem dd_Ref_map_1 : decode prog_14_method_70_code 1 = .ok (.ifCond .lt 42, 3) := by decide +kernel
theorem dd_Ref_map_4 : decode prog_14_method_70_code 4 = .ok (.iload_n 1, 1) := by decide +kernel
theorem dd_Ref_map_5 : decode prog_14_method_70_code 5 = .ok (.aload_n 0, 1) := by decide +kernel
theorem dd_Ref_map_6 : decode prog_14_method_70_code 6 = .ok (.getfield 136, 3) := by decide +kernel
theorem dd_Ref_map_9 : decode prog_14_method_70_code 9 = .ok (.if_icmp .ge 34, 3) := by decide +kernel
theorem dd_Ref_map_12 : decode prog_14_method_70_code 12 = .ok (.aload_n 0, 1) := by decide +kernel
theorem dd_Ref_map_13 : decode prog_14_method_70_code 13 = .ok (.aload_n 0, 1) := by decide +kernel
theorem dd_Ref_map_14 : decode prog_14_method_70_code 14 = .ok (.getfield 29, 3) := by decide +kernel
theorem dd_Ref_map_17 : decode prog_14_method_70_code 17 = .ok (.iload_n 1, 1) := by decide +kernel
theorem dd_Ref_map_18 : decode prog_14_method_70_code 18 = .ok (.ifCond .lt 11, 3) := by decide +kernel
theorem dd_Ref_map_21 : decode prog_14_method_70_code 21 = .ok (.iload_n 1, 1) := by decide +kernel
theorem dd_Ref_map_22 : decode prog_14_method_70_code 22 = .ok (.aload_n 0, 1) := by decide +kernel
theorem dd_Ref_map_23 : decode prog_14_method_70_code 23 = .ok (.getfield 136, 3) := by decide +kernel
theorem dd_Ref_map_26 : decode prog_14_method_70_code 26 = .ok (.if_icmp .lt 7, 3) := by decide +kernel
theorem dd_Ref_map_29 : decode prog_14_method_70_code 29 = .ok (.iconst 0, 1) := by decide +kernel
theorem dd_Ref_map_30 : decode prog_14_method_70_code 30 = .ok (.goto 4, 3) := by decide +kernel
theorem dd_Ref_map_33 : decode prog_14_method_70_code 33 = .ok (.iload_n 1, 1) := by decide +kernel
theorem dd_Ref_map_34 : decode prog_14_method_70_code 34 = .ok (.iaload, 1) := by decide +kernel
theorem dd_Ref_map_35 : decode prog_14_method_70_code 35 = .ok (.iload_n 2, 1) := by decide +kernel
theorem dd_Ref_map_36 : decode prog_14_method_70_code 36 = .ok (.i2l, 1) := by decide +kernel
theorem dd_Ref_map_37 : decode prog_14_method_70_code 37 = .ok (.invokevirtual 235, 3) := by decide +kernel
theorem dd_Ref_map_40 : decode prog_14_method_70_code 40 = .ok (.ifCond .ne 9, 3) := by decide +kernel
theorem dd_Ref_map_43 : decode prog_14_method_70_code 43 = .ok (.aload_n 0, 1) := by decide +kernel
theorem dd_Ref_map_44 : decode prog_14_method_70_code 44 = .ok (.iconst 1, 1) := by decide +kernel
theorem dd_Ref_map_45 : decode prog_14_method_70_code 45 = .ok (.invokevirtual 109, 3) := by decide +kernel
theorem dd_Ref_map_48 : decode prog_14_method_70_code 48 = .ok (.ireturn, 1) := by decide +kernel
theorem dd_Ref_map_49 : decode prog_14_method_70_code 49 = .ok (.aload_n 0, 1) := by decide +kernel
theorem dd_Ref_map_50 : decode prog_14_method_70_code 50 = .ok (.getfield 118, 3) := by decide +kernel
theorem dd_Ref_map_53 : decode prog_14_method_70_code 53 = .ok (.ifCond .ne 9, 3) := by decide +kernel
theorem dd_Ref_map_56 : decode prog_14_method_70_code 56 = .ok (.aload_n 0, 1) := by decide +kernel
theorem dd_Ref_map_57 : decode prog_14_method_70_code 57 = .ok (.iconst 2, 1) := by decide +kernel
theorem dd_Ref_map_58 : decode prog_14_method_70_code 58 = .ok (.invokevirtual 109, 3) := by decide +kernel
theorem dd_Ref_map_61 : decode prog_14_method_70_code 61 = .ok (.ireturn, 1) := by decide +kernel
theorem dd_Ref_map_62 : decode prog_14_method_70_code 62 = .ok (.aload_n 0, 1) := by decide +kernel
theorem dd_Ref_map_63 : decode prog_14_method_70_code 63 = .ok (.iconst 0, 1) := by decide +kernel
theorem dd_Ref_map_64 : decode prog_14_method_70_code 64 = .ok (.putfield 102, 3) := by decide +kernel
theorem dd_Ref_map_67 : decode prog_14_method_70_code 67 = .ok (.aload_n 0, 1) := by decide +kernel
theorem dd_Ref_map_68 : decode prog_14_method_70_code 68 = .ok (.getfield 133, 3) := by decide +kernel
theorem dd_Ref_map_71 : decode prog_14_method_70_code 71 = .ok (.istore_n 3, 1) := by decide +kernel
theorem dd_Ref_map_72 : decode prog_14_method_70_code 72 = .ok (.aload_n 0, 1) := by decide +kernel
theorem dd_Ref_map_73 : decode prog_14_method_70_code 73 = .ok (.iconst 0, 1) := by decide +kernel
theorem dd_Ref_map_74 : decode prog_14_method_70_code 74 = .ok (.putfield 340, 3) := by decide +kernel
theorem dd_Ref_map_77 : decode prog_14_method_70_code 77 = .ok (.aload_n 0, 1) := by decide +kernel
theorem dd_Ref_map_78 : decode prog_14_method_70_code 78 = .ok (.iconst 0, 1) := by decide +kernel
theorem dd_Ref_map_79 : decode prog_14_method_70_code 79 = .ok (.putfield 337, 3) := by decide +kernel
theorem dd_Ref_map_82 : decode prog_14_method_70_code 82 = .ok (.aload_n 0, 1) := by decide +kernel
theorem dd_Ref_map_83 : decode prog_14_method_70_code 83 = .ok (.iconst 0, 1) := by decide +kernel
theorem dd_Ref_map_84 : decode prog_14_method_70_code 84 = .ok (.putfield 228, 3) := by decide +kernel
theorem dd_Ref_map_87 : decode prog_14_method_70_code 87 = .ok (.aload_n 0, 1) := by decide +kernel
theorem dd_Ref_map_88 : decode prog_14_method_70_code 88 = .ok (.iload_n 1, 1) := by decide +kernel
theorem dd_Ref_map_89 : decode prog_14_method_70_code 89 = .ok (.iload_n 2, 1) := by decide +kernel
theorem dd_Ref_map_90 : decode prog_14_method_70_code 90 = .ok (.i2l, 1) := by decide +kernel
theorem dd_Ref_map_91 : decode prog_14_method_70_code 91 = .ok (.invokevirtual 320, 3) := by decide +kernel
theorem dd_Ref_map_94 : decode prog_14_method_70_code 94 = .ok (.lstore 4, 2) := by decide +kernel
theorem dd_Ref_map_96 : decode prog_14_method_70_code 96 = .ok (.aload_n 0, 1) := by decide +kernel
theorem dd_Ref_map_97 : decode prog_14_method_70_code 97 = .ok (.getfield 337, 3) := by decide +kernel
theorem dd_Ref_map_100 : decode prog_14_method_70_code 100 = .ok (.ifCond .le 38, 3) := by decide +kernel
theorem dd_Ref_map_103 : decode prog_14_method_70_code 103 = .ok (.aload_n 0, 1) := by decide +kernel
theorem dd_Ref_map_104 : decode prog_14_method_70_code 104 = .ok (.getfield 228, 3) := by decide +kernel
theorem dd_Ref_map_107 : decode prog_14_method_70_code 107 = .ok (.ifCond .ne 31, 3) := by decide +kernel
theorem dd_Ref_map_110 : decode prog_14_method_70_code 110 = .ok (.aload_n 0, 1) := by decide +kernel
theorem dd_Ref_map_111 : decode prog_14_method_70_code 111 = .ok (.getfield 87, 3) := by decide +kernel
theorem dd_Ref_map_114 : decode prog_14_method_70_code 114 = .ok (.aload_n 0, 1) := by decide +kernel
theorem dd_Ref_map_115 : decode prog_14_method_70_code 115 = .ok (.getfield 337, 3) := by decide +kernel
theorem dd_Ref_map_118 : decode prog_14_method_70_code 118 = .ok (.iconst 1, 1) := by decide +kernel
theorem dd_Ref_map_119 : decode prog_14_method_70_code 119 = .ok (.isub, 1) := by decide +kernel
theorem dd_Ref_map_120 : decode prog_14_method_70_code 120 = .ok (.iaload, 1) := by decide +kernel
theorem dd_Ref_map_121 : decode prog_14_method_70_code 121 = .ok (.ifCond .ge 10, 3) := by decide +kernel
theorem dd_Ref_map_124 : decode prog_14_method_70_code 124 = .ok (.aload_n 0, 1) := by decide +kernel
theorem dd_Ref_map_125 : decode prog_14_method_70_code 125 = .ok (.invokevirtual 354, 3) := by decide +kernel
theorem dd_Ref_map_128 : decode prog_14_method_70_code 128 = .ok (.goto (-32), 3) := by decide +kernel
theorem dd_Ref_map_131 : decode prog_14_method_70_code 131 = .ok (.aload_n 0, 1) := by decide +kernel
theorem dd_Ref_map_132 : decode prog_14_method_70_code 132 = .ok (.invokevirtual 357, 3) := by decide +kernel
theorem dd_Ref_map_135 : decode prog_14_method_70_code 135 = .ok (.goto (-39), 3) := by decide +kernel
theorem dd_Ref_map_138 : decode prog_14_method_70_code 138 = .ok (.aload_n 0, 1) := by decide +kernel
theorem dd_Ref_map_139 : decode prog_14_method_70_code 139 = .ok (.getfield 228, 3) := by decide +kernel
theorem dd_Ref_map_142 : decode prog_14_method_70_code 142 = .ok (.ifCond .eq 14, 3) := by decide +kernel
theorem dd_Ref_map_145 : decode prog_14_method_70_code 145 = .ok (.aload_n 0, 1) := by decide +kernel
theorem dd_Ref_map_146 : decode prog_14_method_70_code 146 = .ok (.iload_n 3, 1) := by decide +kernel
theorem dd_Ref_map_147 : decode prog_14_method_70_code 147 = .ok (.putfield 133, 3) := by decide +kernel
theorem dd_Ref_map_150 : decode prog_14_method_70_code 150 = .ok (.aload_n 0, 1) := by decide +kernel
theorem dd_Ref_map_151 : decode prog_14_method_70_code 151 = .ok (.iconst 3, 1) := by decide +kernel
theorem dd_Ref_map_152 : decode prog_14_method_70_code 152 = .ok (.invokevirtual 109, 3) := by decide +kernel
theorem dd_Ref_map_155 : decode prog_14_method_70_code 155 = .ok (.ireturn, 1) := by decide +kernel
theorem dd_Ref_map_156 : decode prog_14_method_70_code 156 = .ok (.lload 4, 2) := by decide +kernel
theorem dd_Ref_map_158 : decode prog_14_method_70_code 158 = .ok (.l2i, 1) := by decide +kernel
theorem dd_Ref_map_159 : decode prog_14_method_70_code 159 = .ok (.ireturn, 1) := by decide +kernel
theorem dd_Ref_get_0 : decode prog_14_method_71_code 0 = .ok (.aload_n 0, 1) := by decide +kernel
theorem dd_Ref_get_1 : decode prog_14_method_71_code 1 = .ok (.iload_n 1, 1) := by decide +kernel
theorem dd_Ref_get_2 : decode prog_14_method_71_code 2 = .ok (.invokevirtual 242, 3) := by decide +kernel
theorem dd_Ref_get_5 : decode prog_14_method_71_code 5 = .ok (.ifCond .eq 29, 3) := by decide +kernel
theorem dd_Ref_get_8 : decode prog_14_method_71_code 8 = .ok (.iload_n 2, 1) := by decide +kernel
theorem dd_Ref_get_9 : decode prog_14_method_71_code 9 = .ok (.ifCond .lt 25, 3) := by decide +kernel
theorem dd_Ref_get_12 : decode prog_14_method_71_code 12 = .ok (.iload_n 2, 1) := by decide +kernel
theorem dd_Ref_get_13 : decode prog_14_method_71_code 13 = .ok (.aload_n 0, 1) := by decide +kernel
theorem dd_Ref_get_14 : decode prog_14_method_71_code 14 = .ok (.getfield 69, 3) := by decide +kernel
theorem dd_Ref_get_17 : decode prog_14_method_71_code 17 = .ok (.aload_n 0, 1) := by decide +kernel
theorem dd_Ref_get_18 : decode prog_14_method_71_code 18 = .ok (.iload_n 1, 1) := by decide +kernel
theorem dd_Ref_get_19 : decode prog_14_method_71_code 19 = .ok (.invokevirtual 242, 3) := by decide +kernel
theorem dd_Ref_get_22 : decode prog_14_method_71_code 22 = .ok (.ifCond .eq 7, 3) := by decide +kernel
theorem dd_Ref_get_25 : decode prog_14_method_71_code 25 = .ok (.iload_n 1, 1) := by decide +kernel
theorem dd_Ref_get_26 : decode prog_14_method_71_code 26 = .ok (.goto 4, 3) := by decide +kernel
theorem dd_Ref_get_29 : decode prog_14_method_71_code 29 = .ok (.iconst 0, 1) := by decide +kernel
theorem dd_Ref_get_30 : decode prog_14_method_71_code 30 = .ok (.iaload, 1) := by decide +kernel
theorem dd_Ref_get_31 : decode prog_14_method_71_code 31 = .ok (.if_icmp .lt 10, 3) := by decide +kernel
theorem dd_Ref_get_34 : decode prog_14_method_71_code 34 = .ok (.aload_n 0, 1) := by decide +kernel
theorem dd_Ref_get_35 : decode prog_14_method_71_code 35 = .ok (.iconst 1, 1) := by decide +kernel
theorem dd_Ref_get_36 : decode prog_14_method_71_code 36 = .ok (.invokevirtual 109, 3) := by decide +kernel
theorem dd_Ref_get_39 : decode prog_14_method_71_code 39 = .ok (.i2l, 1) := by decide +kernel
theorem dd_Ref_get_40 : decode prog_14_method_71_code 40 = .ok (.lreturn, 1) := by decide +kernel
theorem dd_Ref_get_41 : decode prog_14_method_71_code 41 = .ok (.aload_n 0, 1) := by decide +kernel
theorem dd_Ref_get_42 : decode prog_14_method_71_code 42 = .ok (.iconst 0, 1) := by decide +kernel
theorem dd_Ref_get_43 : decode prog_14_method_71_code 43 = .ok (.putfield 102, 3) := by decide +kernel
theorem dd_Ref_get_46 : decode prog_14_method_71_code 46 = .ok (.aload_n 0, 1) := by decide +kernel
theorem dd_Ref_get_47 : decode prog_14_method_71_code 47 = .ok (.getfield 66, 3) := by decide +kernel
theorem dd_Ref_get_50 : decode prog_14_method_71_code 50 = .ok (.iload_n 1, 1) := by decide +kernel
theorem dd_Ref_get_51 : decode prog_14_method_71_code 51 = .ok (.iaload, 1) := by decide +kernel
theorem dd_Ref_get_52 : decode prog_14_method_71_code 52 = .ok (.bipush 14, 2) := by decide +kernel
theorem dd_Ref_get_54 : decode prog_14_method_71_code 54 = .ok (.if_icmp .ne 18, 3) := by decide +kernel
theorem dd_Ref_get_57 : decode prog_14_method_71_code 57 = .ok (.aload_n 0, 1) := by decide +kernel
theorem dd_Ref_get_58 : decode prog_14_method_71_code 58 = .ok (.getfield 75, 3) := by decide +kernel
theorem dd_Ref_get_61 : decode prog_14_method_71_code 61 = .ok (.bipush 24, 2) := by decide +kernel
theorem dd_Ref_get_63 : decode prog_14_method_71_code 63 = .ok (.iload_n 1, 1) := by decide +kernel
theorem dd_Ref_get_64 : decode prog_14_method_71_code 64 = .ok (.imul, 1) := by decide +kernel
theorem dd_Ref_get_65 : decode prog_14_method_71_code 65 = .ok (.iload_n 2, 1) := by decide +kernel
theorem dd_Ref_get_66 : decode prog_14_method_71_code 66 = .ok (.iadd, 1) := by decide +kernel
theorem dd_Ref_get_67 : decode prog_14_method_71_code 67 = .ok (.iaload, 1) := by decide +kernel
theorem dd_Ref_get_68 : decode prog_14_method_71_code 68 = .ok (.i2l, 1) := by decide +kernel
theorem dd_Ref_get_69 : decode prog_14_method_71_code 69 = .ok (.goto 14, 3) := by decide +kernel
theorem dd_Ref_get_72 : decode prog_14_method_71_code 72 = .ok (.aload_n 0, 1) := by decide +kernel
theorem dd_Ref_get_73 : decode prog_14_method_71_code 73 = .ok (.getfield 72, 3) := by decide +kernel
theorem dd_Ref_get_76 : decode prog_14_method_71_code 76 = .ok (.bipush 16, 2) := by decide +kernel
theorem dd_Ref_get_78 : decode prog_14_method_71_code 78 = .ok (.iload_n 1, 1) := by decide +kernel
theorem dd_Ref_get_79 : decode prog_14_method_71_code 79 = .ok (.imul, 1) := by decide +kernel
theorem dd_Ref_get_80 : decode prog_14_method_71_code 80 = .ok (.iload_n 2, 1) := by decide +kernel
theorem dd_Ref_get_81 : decode prog_14_method_71_code 81 = .ok (.iadd, 1) := by decide +kernel
theorem dd_Ref_get_82 : decode prog_14_method_71_code 82 = .ok (.laload, 1) := by decide +kernel
theorem dd_Ref_get_83 : decode prog_14_method_71_code 83 = .ok (.lreturn, 1) := by decide +kernel
theorem dd_Ref_about_0 : decode prog_14_method_72_code 0 = .ok (.aload_n 0, 1) := by decide +kernel
theorem dd_Ref_about_1 : decode prog_14_method_72_code 1 = .ok (.iload_n 1, 1) := by decide +kernel
theorem dd_Ref_about_2 : decode prog_14_method_72_code 2 = .ok (.invokevirtual 242, 3) := by decide +kernel
theorem dd_Ref_about_5 : decode prog_14_method_72_code 5 = .ok (.ifCond .eq 12, 3) := by decide +kernel
theorem dd_Ref_about_8 : decode prog_14_method_72_code 8 = .ok (.iload_n 2, 1) := by decide +kernel
theorem dd_Ref_about_9 : decode prog_14_method_72_code 9 = .ok (.ifCond .lt 8, 3) := by decide +kernel
theorem dd_Ref_about_12 : decode prog_14_method_72_code 12 = .ok (.iload_n 2, 1) := by decide +kernel
theorem dd_Ref_about_13 : decode prog_14_method_72_code 13 = .ok (.iconst 1, 1) := by decide +kernel
theorem dd_Ref_about_14 : decode prog_14_method_72_code 14 = .ok (.if_icmp .le 9, 3) := by decide +kernel
theorem dd_Ref_about_17 : decode prog_14_method_72_code 17 = .ok (.aload_n 0, 1) := by decide +kernel
theorem dd_Ref_about_18 : decode prog_14_method_72_code 18 = .ok (.iconst 1, 1) := by decide +kernel
theorem dd_Ref_about_19 : decode prog_14_method_72_code 19 = .ok (.invokevirtual 109, 3) := by decide +kernel
theorem dd_Ref_about_22 : decode prog_14_method_72_code 22 = .ok (.ireturn, 1) := by decide +kernel
theorem dd_Ref_about_23 : decode prog_14_method_72_code 23 = .ok (.aload_n 0, 1) := by decide +kernel
theorem dd_Ref_about_24 : decode prog_14_method_72_code 24 = .ok (.iconst 0, 1) := by decide +kernel
theorem dd_Ref_about_25 : decode prog_14_method_72_code 25 = .ok (.putfield 102, 3) := by decide +kernel
theorem dd_Ref_about_28 : decode prog_14_method_72_code 28 = .ok (.iload_n 2, 1) := by decide +kernel
theorem dd_Ref_about_29 : decode prog_14_method_72_code 29 = .ok (.ifCond .ne 12, 3) := by decide +kernel
theorem dd_Ref_about_32 : decode prog_14_method_72_code 32 = .ok (.aload_n 0, 1) := by decide +kernel
theorem dd_Ref_about_33 : decode prog_14_method_72_code 33 = .ok (.getfield 66, 3) := by decide +kernel
theorem dd_Ref_about_36 : decode prog_14_method_72_code 36 = .ok (.iload_n 1, 1) := by decide +kernel
theorem dd_Ref_about_37 : decode prog_14_method_72_code 37 = .ok (.iaload, 1) := by decide +kernel
theorem dd_Ref_about_38 : decode prog_14_method_72_code 38 = .ok (.goto 9, 3) := by decide +kernel
theorem dd_Ref_about_41 : decode prog_14_method_72_code 41 = .ok (.aload_n 0, 1) := by decide +kernel
theorem dd_Ref_about_42 : decode prog_14_method_72_code 42 = .ok (.getfield 69, 3) := by decide +kernel
theorem dd_Ref_about_45 : decode prog_14_method_72_code 45 = .ok (.iload_n 1, 1) := by decide +kernel
theorem dd_Ref_about_46 : decode prog_14_method_72_code 46 = .ok (.iaload, 1) := by decide +kernel
theorem dd_Ref_about_47 : decode prog_14_method_72_code 47 = .ok (.ireturn, 1) := by decide +kernel
theorem dd_Ref_count_0 : decode prog_14_method_73_code 0 = .ok (.aload_n 0, 1) := by decide +kernel
theorem dd_Ref_count_1 : decode prog_14_method_73_code 1 = .ok (.iconst 0, 1) := by decide +kernel
theorem dd_Ref_count_2 : decode prog_14_method_73_code 2 = .ok (.putfield 102, 3) := by decide +kernel
theorem dd_Ref_count_5 : decode prog_14_method_73_code 5 = .ok (.iload_n 1, 1) := by decide +kernel
theorem dd_Ref_count_6 : decode prog_14_method_73_code 6 = .ok (.ifCond .ne 10, 3) := by decide +kernel
theorem dd_Ref_count_9 : decode prog_14_method_73_code 9 = .ok (.aload_n 0, 1) := by decide +kernel
theorem dd_Ref_count_10 : decode prog_14_method_73_code 10 = .ok (.getfield 7, 3) := by decide +kernel
theorem dd_Ref_count_13 : decode prog_14_method_73_code 13 = .ok (.goto 60, 3) := by decide +kernel
theorem dd_Ref_count_16 : decode prog_14_method_73_code 16 = .ok (.iload_n 1, 1) := by decide +kernel
theorem dd_Ref_count_17 : decode prog_14_method_73_code 17 = .ok (.iconst 1, 1) := by decide +kernel
theorem dd_Ref_count_18 : decode prog_14_method_73_code 18 = .ok (.if_icmp .ne 10, 3) := by decide +kernel
theorem dd_Ref_count_21 : decode prog_14_method_73_code 21 = .ok (.aload_n 0, 1) := by decide +kernel
theorem dd_Ref_count_22 : decode prog_14_method_73_code 22 = .ok (.getfield 136, 3) := by decide +kernel
theorem dd_Ref_count_25 : decode prog_14_method_73_code 25 = .ok (.goto 48, 3) := by decide +kernel
theorem dd_Ref_count_28 : decode prog_14_method_73_code 28 = .ok (.iload_n 1, 1) := by decide +kernel
theorem dd_Ref_count_29 : decode prog_14_method_73_code 29 = .ok (.iconst 2, 1) := by decide +kernel
theorem dd_Ref_count_30 : decode prog_14_method_73_code 30 = .ok (.if_icmp .ne 10, 3) := by decide +kernel
theorem dd_Ref_count_33 : decode prog_14_method_73_code 33 = .ok (.aload_n 0, 1) := by decide +kernel
theorem dd_Ref_count_34 : decode prog_14_method_73_code 34 = .ok (.getfield 145, 3) := by decide +kernel
theorem dd_Ref_count_37 : decode prog_14_method_73_code 37 = .ok (.goto 36, 3) := by decide +kernel
theorem dd_Ref_count_40 : decode prog_14_method_73_code 40 = .ok (.iload_n 1, 1) := by decide +kernel
theorem dd_Ref_count_41 : decode prog_14_method_73_code 41 = .ok (.iconst 3, 1) := by decide +kernel
theorem dd_Ref_count_42 : decode prog_14_method_73_code 42 = .ok (.if_icmp .ne 10, 3) := by decide +kernel
theorem dd_Ref_count_45 : decode prog_14_method_73_code 45 = .ok (.aload_n 0, 1) := by decide +kernel
theorem dd_Ref_count_46 : decode prog_14_method_73_code 46 = .ok (.getfield 133, 3) := by decide +kernel
theorem dd_Ref_count_49 : decode prog_14_method_73_code 49 = .ok (.goto 24, 3) := by decide +kernel
theorem dd_Ref_count_52 : decode prog_14_method_73_code 52 = .ok (.iload_n 1, 1) := by decide +kernel
theorem dd_Ref_count_53 : decode prog_14_method_73_code 53 = .ok (.iconst 4, 1) := by decide +kernel
theorem dd_Ref_count_54 : decode prog_14_method_73_code 54 = .ok (.if_icmp .ne 18, 3) := by decide +kernel
theorem dd_Ref_count_57 : decode prog_14_method_73_code 57 = .ok (.aload_n 0, 1) := by decide +kernel
theorem dd_Ref_count_58 : decode prog_14_method_73_code 58 = .ok (.getfield 118, 3) := by decide +kernel
theorem dd_Ref_count_61 : decode prog_14_method_73_code 61 = .ok (.ifCond .eq 7, 3) := by decide +kernel
theorem dd_Ref_count_64 : decode prog_14_method_73_code 64 = .ok (.iconst 1, 1) := by decide +kernel
theorem dd_Ref_count_65 : decode prog_14_method_73_code 65 = .ok (.goto 8, 3) := by decide +kernel
theorem dd_Ref_count_68 : decode prog_14_method_73_code 68 = .ok (.iconst 0, 1) := by decide +kernel
theorem dd_Ref_count_69 : decode prog_14_method_73_code 69 = .ok (.goto 4, 3) := by decide +kernel
theorem dd_Ref_count_72 : decode prog_14_method_73_code 72 = .ok (.iconst (-1), 1) := by decide +kernel
theorem dd_Ref_count_73 : decode prog_14_method_73_code 73 = .ok (.ireturn, 1) := by decide +kernel
theorem dd_Math_max_0 : decode prog_19_method_66_code 0 = .ok (.lload_n 0, 1) := by decide +kernel
theorem dd_Math_max_1 : decode prog_19_method_66_code 1 = .ok (.lload_n 2, 1) := by decide +kernel
theorem dd_Math_max_2 : decode prog_19_method_66_code 2 = .ok (.lcmp, 1) := by decide +kernel
theorem dd_Math_max_3 : decode prog_19_method_66_code 3 = .ok (.ifCond .lt 7, 3) := by decide +kernel
theorem dd_Math_max_6 : decode prog_19_method_66_code 6 = .ok (.lload_n 0, 1) := by decide +kernel
theorem dd_Math_max_7 : decode prog_19_method_66_code 7 = .ok (.goto 4, 3) := by decide +kernel
theorem dd_Math_max_10 : decode prog_19_method_66_code 10 = .ok (.lload_n 2, 1) := by decide +kernel
theorem dd_Math_max_11 : decode prog_19_method_66_code 11 = .ok (.lreturn, 1) := by decide +kernel
theorem dd_Math_min_0 : decode prog_19_method_70_code 0 = .ok (.lload_n 0, 1) := by decide +kernel
theorem dd_Math_min_1 : decode prog_19_method_70_code 1 = .ok (.lload_n 2, 1) := by decide +kernel
theorem dd_Math_min_2 : decode prog_19_method_70_code 2 = .ok (.lcmp, 1) := by decide +kernel
theorem dd_Math_min_3 : decode prog_19_method_70_code 3 = .ok (.ifCond .gt 7, 3) := by decide +kernel
theorem dd_Math_min_6 : decode prog_19_method_70_code 6 = .ok (.lload_n 0, 1) := by decide +kernel
theorem dd_Math_min_7 : decode prog_19_method_70_code 7 = .ok (.goto 4, 3) := by decide +kernel
theorem dd_Math_min_10 : decode prog_19_method_70_code 10 = .ok (.lload_n 2, 1) := by decide +kernel
theorem dd_Math_min_11 : decode prog_19_method_70_code 11 = .ok (.lreturn, 1) := by decide +kernel
theorem dd_Str_length_0 : decode prog_21_method_54_code 0 = .ok (.aload_n 0, 1) := by decide +kernel
theorem dd_Str_length_1 : decode prog_21_method_54_code 1 = .ok (.getfield 9, 3) := by decide +kernel
theorem dd_Str_length_4 : decode prog_21_method_54_code 4 = .ok (.arraylength, 1) := by decide +kernel
theorem dd_Str_length_5 : decode prog_21_method_54_code 5 = .ok (.aload_n 0, 1) := by decide +kernel
theorem dd_Str_length_6 : decode prog_21_method_54_code 6 = .ok (.invokevirtual 335, 3) := by decide +kernel
theorem dd_Str_length_9 : decode prog_21_method_54_code 9 = .ok (.ishr, 1) := by decide +kernel
theorem dd_Str_length_10 : decode prog_21_method_54_code 10 = .ok (.ireturn, 1) := by decide +kernel
theorem dd_Str_charAt_0 : decode prog_21_method_56_code 0 = .ok (.aload_n 0, 1) := by decide +kernel
theorem dd_Str_charAt_1 : decode prog_21_method_56_code 1 = .ok (.invokevirtual 492, 3) := by decide +kernel
theorem dd_Str_charAt_4 : decode prog_21_method_56_code 4 = .ok (.ifCond .eq 12, 3) := by decide +kernel
theorem dd_Str_charAt_7 : decode prog_21_method_56_code 7 = .ok (.aload_n 0, 1) := by decide +kernel
theorem dd_Str_charAt_8 : decode prog_21_method_56_code 8 = .ok (.getfield 9, 3) := by decide +kernel
theorem dd_Str_charAt_11 : decode prog_21_method_56_code 11 = .ok (.iload_n 1, 1) := by decide +kernel
theorem dd_Str_charAt_12 : decode prog_21_method_56_code 12 = .ok (.invokestatic 495, 3) := by decide +kernel
theorem dd_Str_charAt_15 : decode prog_21_method_56_code 15 = .ok (.ireturn, 1) := by decide +kernel
theorem dd_Str_charAt_16 : decode prog_21_method_56_code 16 = .ok (.aload_n 0, 1) := by decide +kernel
theorem dd_Str_charAt_17 : decode prog_21_method_56_code 17 = .ok (.getfield 9, 3) := by decide +kernel
theorem dd_Str_charAt_20 : decode prog_21_method_56_code 20 = .ok (.iload_n 1, 1) := by decide +kernel
theorem dd_Str_charAt_21 : decode prog_21_method_56_code 21 = .ok (.invokestatic 498, 3) := by decide +kernel
theorem dd_Str_charAt_24 : decode prog_21_method_56_code 24 = .ok (.ireturn, 1) := by decide +kernel
theorem dd_Str_coder_0 : decode prog_21_method_152_code 0 = .ok (.getstatic 38, 3) := by decide +kernel
theorem dd_Str_coder_3 : decode prog_21_method_152_code 3 = .ok (.ifCond .eq 10, 3) := by decide +kernel
theorem dd_Str_coder_6 : decode prog_21_method_152_code 6 = .ok (.aload_n 0, 1) := by decide +kernel
theorem dd_Str_coder_7 : decode prog_21_method_152_code 7 = .ok (.getfield 15, 3) := by decide +kernel
theorem dd_Str_coder_10 : decode prog_21_method_152_code 10 = .ok (.goto 4, 3) := by decide +kernel
theorem dd_Str_coder_13 : decode prog_21_method_152_code 13 = .ok (.iconst 1, 1) := by decide +kernel
theorem dd_Str_coder_14 : decode prog_21_method_152_code 14 = .ok (.ireturn, 1) := by decide +kernel
theorem dd_Str_isLatin1_0 : decode prog_21_method_154_code 0 = .ok (.getstatic 38, 3) := by decide +kernel
theorem dd_Str_isLatin1_3 : decode prog_21_method_154_code 3 = .ok (.ifCond .eq 14, 3) := by decide +kernel
theorem dd_Str_isLatin1_6 : decode prog_21_method_154_code 6 = .ok (.aload_n 0, 1) := by decide +kernel
theorem dd_Str_isLatin1_7 : decode prog_21_method_154_code 7 = .ok (.getfield 15, 3) := by decide +kernel
theorem dd_Str_isLatin1_10 : decode prog_21_method_154_code 10 = .ok (.ifCond .ne 7, 3) := by decide +kernel
theorem dd_Str_isLatin1_13 : decode prog_21_method_154_code 13 = .ok (.iconst 1, 1) := by decide +kernel
theorem dd_Str_isLatin1_14 : decode prog_21_method_154_code 14 = .ok (.goto 4, 3) := by decide +kernel
theorem dd_Str_isLatin1_17 : decode prog_21_method_154_code 17 = .ok (.iconst 0, 1) := by decide +kernel
theorem dd_Str_isLatin1_18 : decode prog_21_method_154_code 18 = .ok (.ireturn, 1) := by decide +kernel
theorem dd_Str_checkIndex_0 : decode prog_21_method_155_code 0 = .ok (.iload_n 0, 1) := by decide +kernel
theorem dd_Str_checkIndex_1 : decode prog_21_method_155_code 1 = .ok (.iload_n 1, 1) := by decide +kernel
theorem dd_Str_checkIndex_2 : decode prog_21_method_155_code 2 = .ok (.getstatic 1053, 3) := by decide +kernel
theorem dd_Str_checkIndex_5 : decode prog_21_method_155_code 5 = .ok (.invokestatic 1059, 3) := by decide +kernel
theorem dd_Str_checkIndex_8 : decode prog_21_method_155_code 8 = .ok (.pop, 1) := by decide +kernel
theorem dd_Str_checkIndex_9 : decode prog_21_method_155_code 9 = .ok (.return_, 1) := by decide +kernel
theorem dd_StringLatin1_charAt_0 : decode prog_22_method_2_code 0 = .ok (.iload_n 1, 1) := by decide +kernel
theorem dd_StringLatin1_charAt_1 : decode prog_22_method_2_code 1 = .ok (.aload_n 0, 1) := by decide +kernel
theorem dd_StringLatin1_charAt_2 : decode prog_22_method_2_code 2 = .ok (.arraylength, 1) := by decide +kernel
theorem dd_StringLatin1_charAt_3 : decode prog_22_method_2_code 3 = .ok (.invokestatic 9, 3) := by decide +kernel
theorem dd_StringLatin1_charAt_6 : decode prog_22_method_2_code 6 = .ok (.aload_n 0, 1) := by decide +kernel
theorem dd_StringLatin1_charAt_7 : decode prog_22_method_2_code 7 = .ok (.iload_n 1, 1) := by decide +kernel
theorem dd_StringLatin1_charAt_8 : decode prog_22_method_2_code 8 = .ok (.baload, 1) := by decide +kernel
theorem dd_StringLatin1_charAt_9 : decode prog_22_method_2_code 9 = .ok (.sipush 255, 3) := by decide +kernel
theorem dd_StringLatin1_charAt_12 : decode prog_22_method_2_code 12 = .ok (.iand, 1) := by decide +kernel
theorem dd_StringLatin1_charAt_13 : decode prog_22_method_2_code 13 = .ok (.i2c, 1) := by decide +kernel
theorem dd_StringLatin1_charAt_14 : decode prog_22_method_2_code 14 = .ok (.ireturn, 1) := by decide +kernel
theorem dd_StringUTF16_getChar_0 : decode prog_23_method_5_code 0 = .ok (.getstatic 44, 3) := by decide +kernel
theorem dd_StringUTF16_getChar_3 : decode prog_23_method_5_code 3 = .ok (.ifCond .ne 25, 3) := by decide +kernel
theorem dd_StringUTF16_getChar_6 : decode prog_23_method_5_code 6 = .ok (.iload_n 1, 1) := by decide +kernel
theorem dd_StringUTF16_getChar_7 : decode prog_23_method_5_code 7 = .ok (.ifCond .lt 11, 3) := by decide +kernel
theorem dd_StringUTF16_getChar_10 : decode prog_23_method_5_code 10 = .ok (.iload_n 1, 1) := by decide +kernel
theorem dd_StringUTF16_getChar_11 : decode prog_23_method_5_code 11 = .ok (.aload_n 0, 1) := by decide +kernel
theorem dd_StringUTF16_getChar_12 : decode prog_23_method_5_code 12 = .ok (.invokestatic 48, 3) := by decide +kernel
theorem dd_StringUTF16_getChar_15 : decode prog_23_method_5_code 15 = .ok (.if_icmp .lt 13, 3) := by decide +kernel
theorem dd_StringUTF16_getChar_18 : decode prog_23_method_5_code 18 = .ok (.new 52, 3) := by decide +kernel
theorem dd_StringUTF16_getChar_21 : decode prog_23_method_5_code 21 = .ok (.dup, 1) := by decide +kernel
theorem dd_StringUTF16_getChar_22 : decode prog_23_method_5_code 22 = .ok (.ldc 54, 2) := by decide +kernel
theorem dd_StringUTF16_getChar_24 : decode prog_23_method_5_code 24 = .ok (.invokespecial 56, 3) := by decide +kernel
theorem dd_StringUTF16_getChar_27 : decode prog_23_method_5_code 27 = .ok (.athrow, 1) := by decide +kernel
theorem dd_StringUTF16_getChar_28 : decode prog_23_method_5_code 28 = .ok (.iload_n 1, 1) := by decide +kernel
theorem dd_StringUTF16_getChar_29 : decode prog_23_method_5_code 29 = .ok (.iconst 1, 1) := by decide +kernel
theorem dd_StringUTF16_getChar_30 : decode prog_23_method_5_code 30 = .ok (.ishl, 1) := by decide +kernel
theorem dd_StringUTF16_getChar_31 : decode prog_23_method_5_code 31 = .ok (.istore_n 1, 1) := by decide +kernel
theorem dd_StringUTF16_getChar_32 : decode prog_23_method_5_code 32 = .ok (.aload_n 0, 1) := by decide +kernel
theorem dd_StringUTF16_getChar_33 : decode prog_23_method_5_code 33 = .ok (.iload_n 1, 1) := by decide +kernel
theorem dd_StringUTF16_getChar_34 : decode prog_23_method_5_code 34 = .ok (.iinc 1 1, 3) := by decide +kernel
theorem dd_StringUTF16_getChar_37 : decode prog_23_method_5_code 37 = .ok (.baload, 1) := by decide +kernel
theorem dd_StringUTF16_getChar_38 : decode prog_23_method_5_code 38 = .ok (.sipush 255, 3) := by decide +kernel
theorem dd_StringUTF16_getChar_41 : decode prog_23_method_5_code 41 = .ok (.iand, 1) := by decide +kernel
theorem dd_StringUTF16_getChar_42 : decode prog_23_method_5_code 42 = .ok (.getstatic 59, 3) := by decide +kernel
theorem dd_StringUTF16_getChar_45 : decode prog_23_method_5_code 45 = .ok (.ishl, 1) := by decide +kernel
theorem dd_StringUTF16_getChar_46 : decode prog_23_method_5_code 46 = .ok (.aload_n 0, 1) := by decide +kernel
theorem dd_StringUTF16_getChar_47 : decode prog_23_method_5_code 47 = .ok (.iload_n 1, 1) := by decide +kernel
theorem dd_StringUTF16_getChar_48 : decode prog_23_method_5_code 48 = .ok (.baload, 1) := by decide +kernel
theorem dd_StringUTF16_getChar_49 : decode prog_23_method_5_code 49 = .ok (.sipush 255, 3) := by decide +kernel
theorem dd_StringUTF16_getChar_52 : decode prog_23_method_5_code 52 = .ok (.iand, 1) := by decide +kernel
theorem dd_StringUTF16_getChar_53 : decode prog_23_method_5_code 53 = .ok (.getstatic 63, 3) := by decide +kernel
theorem dd_StringUTF16_getChar_56 : decode prog_23_method_5_code 56 = .ok (.ishl, 1) := by decide +kernel
theorem dd_StringUTF16_getChar_57 : decode prog_23_method_5_code 57 = .ok (.ior, 1) := by decide +kernel
theorem dd_StringUTF16_getChar_58 : decode prog_23_method_5_code 58 = .ok (.i2c, 1) := by decide +kernel
theorem dd_StringUTF16_getChar_59 : decode prog_23_method_5_code 59 = .ok (.ireturn, 1) := by decide +kernel
theorem dd_StringUTF16_length_0 : decode prog_23_method_6_code 0 = .ok (.aload_n 0, 1) := by decide +kernel
theorem dd_StringUTF16_length_1 : decode prog_23_method_6_code 1 = .ok (.arraylength, 1) := by decide +kernel
theorem dd_StringUTF16_length_2 : decode prog_23_method_6_code 2 = .ok (.iconst 1, 1) := by decide +kernel
theorem dd_StringUTF16_length_3 : decode prog_23_method_6_code 3 = .ok (.ishr, 1) := by decide +kernel
theorem dd_StringUTF16_length_4 : decode prog_23_method_6_code 4 = .ok (.ireturn, 1) := by decide +kernel
theorem dd_StringUTF16_charAt_0 : decode prog_23_method_83_code 0 = .ok (.iload_n 1, 1) := by decide +kernel
theorem dd_StringUTF16_charAt_1 : decode prog_23_method_83_code 1 = .ok (.aload_n 0, 1) := by decide +kernel
theorem dd_StringUTF16_charAt_2 : decode prog_23_method_83_code 2 = .ok (.invokestatic 67, 3) := by decide +kernel
theorem dd_StringUTF16_charAt_5 : decode prog_23_method_83_code 5 = .ok (.aload_n 0, 1) := by decide +kernel
theorem dd_StringUTF16_charAt_6 : decode prog_23_method_83_code 6 = .ok (.iload_n 1, 1) := by decide +kernel
theorem dd_StringUTF16_charAt_7 : decode prog_23_method_83_code 7 = .ok (.invokestatic 71, 3) := by decide +kernel
theorem dd_StringUTF16_charAt_10 : decode prog_23_method_83_code 10 = .ok (.ireturn, 1) := by decide +kernel
theorem dd_StringUTF16_checkIndex_0 : decode prog_23_method_91_code 0 = .ok (.iload_n 0, 1) := by decide +kernel
theorem dd_StringUTF16_checkIndex_1 : decode prog_23_method_91_code 1 = .ok (.aload_n 1, 1) := by decide +kernel
theorem dd_StringUTF16_checkIndex_2 : decode prog_23_method_91_code 2 = .ok (.invokestatic 48, 3) := by decide +kernel
theorem dd_StringUTF16_checkIndex_5 : decode prog_23_method_91_code 5 = .ok (.invokestatic 414, 3) := by decide +kernel
theorem dd_StringUTF16_checkIndex_8 : decode prog_23_method_91_code 8 = .ok (.return_, 1) := by decide +kernel
theorem dd_Arrays_fill_0 : decode prog_26_method_103_code 0 = .ok (.iconst 0, 1) := by decide +kernel
theorem dd_Arrays_fill_1 : decode prog_26_method_103_code 1 = .ok (.istore_n 2, 1) := by decide +kernel
theorem dd_Arrays_fill_2 : decode prog_26_method_103_code 2 = .ok (.aload_n 0, 1) := by decide +kernel
theorem dd_Arrays_fill_3 : decode prog_26_method_103_code 3 = .ok (.arraylength, 1) := by decide +kernel
theorem dd_Arrays_fill_4 : decode prog_26_method_103_code 4 = .ok (.istore_n 3, 1) := by decide +kernel
theorem dd_Arrays_fill_5 : decode prog_26_method_103_code 5 = .ok (.iload_n 2, 1) := by decide +kernel
theorem dd_Arrays_fill_6 : decode prog_26_method_103_code 6 = .ok (.iload_n 3, 1) := by decide +kernel
theorem dd_Arrays_fill_7 : decode prog_26_method_103_code 7 = .ok (.if_icmp .ge 13, 3) := by decide +kernel
theorem dd_Arrays_fill_10 : decode prog_26_method_103_code 10 = .ok (.aload_n 0, 1) := by decide +kernel
theorem dd_Arrays_fill_11 : decode prog_26_method_103_code 11 = .ok (.iload_n 2, 1) := by decide +kernel
theorem dd_Arrays_fill_12 : decode prog_26_method_103_code 12 = .ok (.iload_n 1, 1) := by decide +kernel
theorem dd_Arrays_fill_13 : decode prog_26_method_103_code 13 = .ok (.iastore, 1) := by decide +kernel
theorem dd_Arrays_fill_14 : decode prog_26_method_103_code 14 = .ok (.iinc 2 1, 3) := by decide +kernel
theorem dd_Arrays_fill_17 : decode prog_26_method_103_code 17 = .ok (.goto (-12), 3) := by decide +kernel
theorem dd_Arrays_fill_20 : decode prog_26_method_103_code 20 = .ok (.return_, 1) := by decide +kernel
theorem dd_Law_enumeration_0 : decode method_3_code 0 = .ok (.aload 4, 2) := by decide +kernel
theorem dd_Law_enumeration_2 : decode method_3_code 2 = .ok (.iconst 0, 1) := by decide +kernel
theorem dd_Law_enumeration_3 : decode method_3_code 3 = .ok (.aload_n 0, 1) := by decide +kernel
theorem dd_Law_enumeration_4 : decode method_3_code 4 = .ok (.lload_n 1, 1) := by decide +kernel
theorem dd_Law_enumeration_5 : decode method_3_code 5 = .ok (.iload_n 3, 1) := by decide +kernel
theorem dd_Law_enumeration_6 : decode method_3_code 6 = .ok (.invokevirtual 7, 3) := by decide +kernel
theorem dd_Law_enumeration_9 : decode method_3_code 9 = .ok (.i2l, 1) := by decide +kernel
theorem dd_Law_enumeration_10 : decode method_3_code 10 = .ok (.lastore, 1) := by decide +kernel
theorem dd_Law_enumeration_11 : decode method_3_code 11 = .ok (.goto 11, 3) := by decide +kernel
theorem dd_Law_enumeration_14 : decode method_3_code 14 = .ok (.astore 5, 2) := by decide +kernel
theorem dd_Law_enumeration_16 : decode method_3_code 16 = .ok (.iconst 1, 1) := by decide +kernel
theorem dd_Law_enumeration_17 : decode method_3_code 17 = .ok (.ireturn, 1) := by decide +kernel
theorem dd_Law_enumeration_18 : decode method_3_code 18 = .ok (.astore 5, 2) := by decide +kernel
theorem dd_Law_enumeration_20 : decode method_3_code 20 = .ok (.iconst 2, 1) := by decide +kernel
theorem dd_Law_enumeration_21 : decode method_3_code 21 = .ok (.ireturn, 1) := by decide +kernel
theorem dd_Law_enumeration_22 : decode method_3_code 22 = .ok (.iconst 0, 1) := by decide +kernel
theorem dd_Law_enumeration_23 : decode method_3_code 23 = .ok (.ireturn, 1) := by decide +kernel
theorem dd_Law_bean_0 : decode method_4_code 0 = .ok (.aload_n 1, 1) := by decide +kernel
theorem dd_Law_bean_1 : decode method_4_code 1 = .ok (.iconst 0, 1) := by decide +kernel
theorem dd_Law_bean_2 : decode method_4_code 2 = .ok (.aload_n 0, 1) := by decide +kernel
theorem dd_Law_bean_3 : decode method_4_code 3 = .ok (.invokevirtual 17, 3) := by decide +kernel
theorem dd_Law_bean_6 : decode method_4_code 6 = .ok (.i2l, 1) := by decide +kernel
theorem dd_Law_bean_7 : decode method_4_code 7 = .ok (.lastore, 1) := by decide +kernel
theorem dd_Law_bean_8 : decode method_4_code 8 = .ok (.goto 6, 3) := by decide +kernel
theorem dd_Law_bean_11 : decode method_4_code 11 = .ok (.astore_n 2, 1) := by decide +kernel
theorem dd_Law_bean_12 : decode method_4_code 12 = .ok (.iconst 1, 1) := by decide +kernel
theorem dd_Law_bean_13 : decode method_4_code 13 = .ok (.ireturn, 1) := by decide +kernel
theorem dd_Law_bean_14 : decode method_4_code 14 = .ok (.iconst 0, 1) := by decide +kernel
theorem dd_Law_bean_15 : decode method_4_code 15 = .ok (.ireturn, 1) := by decide +kernel
theorem dd_Law_property_0 : decode method_5_code 0 = .ok (.aload 4, 2) := by decide +kernel
theorem dd_Law_property_2 : decode method_5_code 2 = .ok (.iconst 0, 1) := by decide +kernel
theorem dd_Law_property_3 : decode method_5_code 3 = .ok (.aload_n 0, 1) := by decide +kernel
theorem dd_Law_property_4 : decode method_5_code 4 = .ok (.iload_n 1, 1) := by decide +kernel
theorem dd_Law_property_5 : decode method_5_code 5 = .ok (.iload_n 2, 1) := by decide +kernel
theorem dd_Law_property_6 : decode method_5_code 6 = .ok (.iload_n 3, 1) := by decide +kernel
theorem dd_Law_property_7 : decode method_5_code 7 = .ok (.invokevirtual 21, 3) := by decide +kernel
theorem dd_Law_property_10 : decode method_5_code 10 = .ok (.i2l, 1) := by decide +kernel
theorem dd_Law_property_11 : decode method_5_code 11 = .ok (.lastore, 1) := by decide +kernel
theorem dd_Law_property_12 : decode method_5_code 12 = .ok (.goto 11, 3) := by decide +kernel
theorem dd_Law_property_15 : decode method_5_code 15 = .ok (.astore 5, 2) := by decide +kernel
theorem dd_Law_property_17 : decode method_5_code 17 = .ok (.iconst 1, 1) := by decide +kernel
theorem dd_Law_property_18 : decode method_5_code 18 = .ok (.ireturn, 1) := by decide +kernel
theorem dd_Law_property_19 : decode method_5_code 19 = .ok (.astore 5, 2) := by decide +kernel
theorem dd_Law_property_21 : decode method_5_code 21 = .ok (.iconst 2, 1) := by decide +kernel
theorem dd_Law_property_22 : decode method_5_code 22 = .ok (.ireturn, 1) := by decide +kernel
theorem dd_Law_property_23 : decode method_5_code 23 = .ok (.iconst 0, 1) := by decide +kernel
theorem dd_Law_property_24 : decode method_5_code 24 = .ok (.ireturn, 1) := by decide +kernel
theorem dd_Law_list_0 : decode method_6_code 0 = .ok (.aload_n 2, 1) := by decide +kernel
theorem dd_Law_list_1 : decode method_6_code 1 = .ok (.iconst 0, 1) := by decide +kernel
theorem dd_Law_list_2 : decode method_6_code 2 = .ok (.aload_n 0, 1) := by decide +kernel
theorem dd_Law_list_3 : decode method_6_code 3 = .ok (.iload_n 1, 1) := by decide +kernel
theorem dd_Law_list_4 : decode method_6_code 4 = .ok (.invokevirtual 25, 3) := by decide +kernel
theorem dd_Law_list_7 : decode method_6_code 7 = .ok (.i2l, 1) := by decide +kernel
theorem dd_Law_list_8 : decode method_6_code 8 = .ok (.lastore, 1) := by decide +kernel
theorem dd_Law_list_9 : decode method_6_code 9 = .ok (.goto 9, 3) := by decide +kernel
theorem dd_Law_list_12 : decode method_6_code 12 = .ok (.astore_n 3, 1) := by decide +kernel
theorem dd_Law_list_13 : decode method_6_code 13 = .ok (.iconst 1, 1) := by decide +kernel
theorem dd_Law_list_14 : decode method_6_code 14 = .ok (.ireturn, 1) := by decide +kernel
theorem dd_Law_list_15 : decode method_6_code 15 = .ok (.astore_n 3, 1) := by decide +kernel
theorem dd_Law_list_16 : decode method_6_code 16 = .ok (.iconst 2, 1) := by decide +kernel
theorem dd_Law_list_17 : decode method_6_code 17 = .ok (.ireturn, 1) := by decide +kernel
theorem dd_Law_list_18 : decode method_6_code 18 = .ok (.iconst 0, 1) := by decide +kernel
theorem dd_Law_list_19 : decode method_6_code 19 = .ok (.ireturn, 1) := by decide +kernel
theorem dd_Law_method_0 : decode method_7_code 0 = .ok (.aload_n 3, 1) := by decide +kernel
theorem dd_Law_method_1 : decode method_7_code 1 = .ok (.iconst 0, 1) := by decide +kernel
theorem dd_Law_method_2 : decode method_7_code 2 = .ok (.aload_n 0, 1) := by decide +kernel
theorem dd_Law_method_3 : decode method_7_code 3 = .ok (.iload_n 1, 1) := by decide +kernel
theorem dd_Law_method_4 : decode method_7_code 4 = .ok (.iload_n 2, 1) := by decide +kernel
theorem dd_Law_method_5 : decode method_7_code 5 = .ok (.invokevirtual 29, 3) := by decide +kernel
theorem dd_Law_method_8 : decode method_7_code 8 = .ok (.i2l, 1) := by decide +kernel
theorem dd_Law_method_9 : decode method_7_code 9 = .ok (.lastore, 1) := by decide +kernel
theorem dd_Law_method_10 : decode method_7_code 10 = .ok (.goto 11, 3) := by decide +kernel
theorem dd_Law_method_13 : decode method_7_code 13 = .ok (.astore 4, 2) := by decide +kernel
theorem dd_Law_method_15 : decode method_7_code 15 = .ok (.iconst 1, 1) := by decide +kernel
theorem dd_Law_method_16 : decode method_7_code 16 = .ok (.ireturn, 1) := by decide +kernel
theorem dd_Law_method_17 : decode method_7_code 17 = .ok (.astore 4, 2) := by decide +kernel
theorem dd_Law_method_19 : decode method_7_code 19 = .ok (.iconst 2, 1) := by decide +kernel
theorem dd_Law_method_20 : decode method_7_code 20 = .ok (.ireturn, 1) := by decide +kernel
theorem dd_Law_method_21 : decode method_7_code 21 = .ok (.iconst 0, 1) := by decide +kernel
theorem dd_Law_method_22 : decode method_7_code 22 = .ok (.ireturn, 1) := by decide +kernel
theorem dd_Law_function_0 : decode method_8_code 0 = .ok (.aload 5, 2) := by decide +kernel
theorem dd_Law_function_2 : decode method_8_code 2 = .ok (.iconst 0, 1) := by decide +kernel
theorem dd_Law_function_3 : decode method_8_code 3 = .ok (.aload_n 0, 1) := by decide +kernel
theorem dd_Law_function_4 : decode method_8_code 4 = .ok (.iload_n 1, 1) := by decide +kernel
theorem dd_Law_function_5 : decode method_8_code 5 = .ok (.iload_n 2, 1) := by decide +kernel
theorem dd_Law_function_6 : decode method_8_code 6 = .ok (.iload_n 3, 1) := by decide +kernel
theorem dd_Law_function_7 : decode method_8_code 7 = .ok (.iload 4, 2) := by decide +kernel
theorem dd_Law_function_9 : decode method_8_code 9 = .ok (.invokevirtual 33, 3) := by decide +kernel
theorem dd_Law_function_12 : decode method_8_code 12 = .ok (.i2l, 1) := by decide +kernel
theorem dd_Law_function_13 : decode method_8_code 13 = .ok (.lastore, 1) := by decide +kernel
theorem dd_Law_function_14 : decode method_8_code 14 = .ok (.goto 11, 3) := by decide +kernel
theorem dd_Law_function_17 : decode method_8_code 17 = .ok (.astore 6, 2) := by decide +kernel
theorem dd_Law_function_19 : decode method_8_code 19 = .ok (.iconst 1, 1) := by decide +kernel
theorem dd_Law_function_20 : decode method_8_code 20 = .ok (.ireturn, 1) := by decide +kernel
theorem dd_Law_function_21 : decode method_8_code 21 = .ok (.astore 6, 2) := by decide +kernel
theorem dd_Law_function_23 : decode method_8_code 23 = .ok (.iconst 2, 1) := by decide +kernel
theorem dd_Law_function_24 : decode method_8_code 24 = .ok (.ireturn, 1) := by decide +kernel
theorem dd_Law_function_25 : decode method_8_code 25 = .ok (.iconst 0, 1) := by decide +kernel
theorem dd_Law_function_26 : decode method_8_code 26 = .ok (.ireturn, 1) := by decide +kernel
theorem dd_Law_rule_0 : decode method_9_code 0 = .ok (.aload_n 0, 1) := by decide +kernel
theorem dd_Law_rule_1 : decode method_9_code 1 = .ok (.iload_n 1, 1) := by decide +kernel
theorem dd_Law_rule_2 : decode method_9_code 2 = .ok (.iload_n 2, 1) := by decide +kernel
theorem dd_Law_rule_3 : decode method_9_code 3 = .ok (.iload_n 3, 1) := by decide +kernel
theorem dd_Law_rule_4 : decode method_9_code 4 = .ok (.lload 4, 2) := by decide +kernel
theorem dd_Law_rule_6 : decode method_9_code 6 = .ok (.invokevirtual 37, 3) := by decide +kernel
theorem dd_Law_rule_9 : decode method_9_code 9 = .ok (.goto 11, 3) := by decide +kernel
theorem dd_Law_rule_12 : decode method_9_code 12 = .ok (.astore 6, 2) := by decide +kernel
theorem dd_Law_rule_14 : decode method_9_code 14 = .ok (.iconst 1, 1) := by decide +kernel
theorem dd_Law_rule_15 : decode method_9_code 15 = .ok (.ireturn, 1) := by decide +kernel
theorem dd_Law_rule_16 : decode method_9_code 16 = .ok (.astore 6, 2) := by decide +kernel
theorem dd_Law_rule_18 : decode method_9_code 18 = .ok (.iconst 2, 1) := by decide +kernel
theorem dd_Law_rule_19 : decode method_9_code 19 = .ok (.ireturn, 1) := by decide +kernel
theorem dd_Law_rule_20 : decode method_9_code 20 = .ok (.iconst 0, 1) := by decide +kernel
theorem dd_Law_rule_21 : decode method_9_code 21 = .ok (.ireturn, 1) := by decide +kernel
theorem dd_Law_build_0 : decode method_10_code 0 = .ok (.aload_n 1, 1) := by decide +kernel
theorem dd_Law_build_1 : decode method_10_code 1 = .ok (.iconst 0, 1) := by decide +kernel
theorem dd_Law_build_2 : decode method_10_code 2 = .ok (.aload_n 0, 1) := by decide +kernel
theorem dd_Law_build_3 : decode method_10_code 3 = .ok (.invokevirtual 41, 3) := by decide +kernel
theorem dd_Law_build_6 : decode method_10_code 6 = .ok (.i2l, 1) := by decide +kernel
theorem dd_Law_build_7 : decode method_10_code 7 = .ok (.lastore, 1) := by decide +kernel
theorem dd_Law_build_8 : decode method_10_code 8 = .ok (.goto 9, 3) := by decide +kernel
theorem dd_Law_build_11 : decode method_10_code 11 = .ok (.astore_n 2, 1) := by decide +kernel
theorem dd_Law_build_12 : decode method_10_code 12 = .ok (.iconst 1, 1) := by decide +kernel
theorem dd_Law_build_13 : decode method_10_code 13 = .ok (.ireturn, 1) := by decide +kernel
theorem dd_Law_build_14 : decode method_10_code 14 = .ok (.astore_n 2, 1) := by decide +kernel
theorem dd_Law_build_15 : decode method_10_code 15 = .ok (.iconst 2, 1) := by decide +kernel
theorem dd_Law_build_16 : decode method_10_code 16 = .ok (.ireturn, 1) := by decide +kernel
theorem dd_Law_build_17 : decode method_10_code 17 = .ok (.iconst 0, 1) := by decide +kernel
theorem dd_Law_build_18 : decode method_10_code 18 = .ok (.ireturn, 1) := by decide +kernel
theorem dd_Law_make_0 : decode method_11_code 0 = .ok (.aload 4, 2) := by decide +kernel
theorem dd_Law_make_2 : decode method_11_code 2 = .ok (.iconst 0, 1) := by decide +kernel
theorem dd_Law_make_3 : decode method_11_code 3 = .ok (.aload_n 0, 1) := by decide +kernel
theorem dd_Law_make_4 : decode method_11_code 4 = .ok (.iload_n 1, 1) := by decide +kernel
theorem dd_Law_make_5 : decode method_11_code 5 = .ok (.lload_n 2, 1) := by decide +kernel
theorem dd_Law_make_6 : decode method_11_code 6 = .ok (.invokevirtual 44, 3) := by decide +kernel
theorem dd_Law_make_9 : decode method_11_code 9 = .ok (.i2l, 1) := by decide +kernel
theorem dd_Law_make_10 : decode method_11_code 10 = .ok (.lastore, 1) := by decide +kernel
theorem dd_Law_make_11 : decode method_11_code 11 = .ok (.goto 11, 3) := by decide +kernel
theorem dd_Law_make_14 : decode method_11_code 14 = .ok (.astore 5, 2) := by decide +kernel
theorem dd_Law_make_16 : decode method_11_code 16 = .ok (.iconst 1, 1) := by decide +kernel
theorem dd_Law_make_17 : decode method_11_code 17 = .ok (.ireturn, 1) := by decide +kernel
theorem dd_Law_make_18 : decode method_11_code 18 = .ok (.astore 5, 2) := by decide +kernel
theorem dd_Law_make_20 : decode method_11_code 20 = .ok (.iconst 2, 1) := by decide +kernel
theorem dd_Law_make_21 : decode method_11_code 21 = .ok (.ireturn, 1) := by decide +kernel
theorem dd_Law_make_22 : decode method_11_code 22 = .ok (.iconst 0, 1) := by decide +kernel
theorem dd_Law_make_23 : decode method_11_code 23 = .ok (.ireturn, 1) := by decide +kernel
theorem dd_Law_map_0 : decode method_12_code 0 = .ok (.aload_n 3, 1) := by decide +kernel
theorem dd_Law_map_1 : decode method_12_code 1 = .ok (.iconst 0, 1) := by decide +kernel
theorem dd_Law_map_2 : decode method_12_code 2 = .ok (.aload_n 0, 1) := by decide +kernel
theorem dd_Law_map_3 : decode method_12_code 3 = .ok (.iload_n 1, 1) := by decide +kernel
theorem dd_Law_map_4 : decode method_12_code 4 = .ok (.iload_n 2, 1) := by decide +kernel
theorem dd_Law_map_5 : decode method_12_code 5 = .ok (.invokevirtual 48, 3) := by decide +kernel
theorem dd_Law_map_8 : decode method_12_code 8 = .ok (.i2l, 1) := by decide +kernel
theorem dd_Law_map_9 : decode method_12_code 9 = .ok (.lastore, 1) := by decide +kernel
theorem dd_Law_map_10 : decode method_12_code 10 = .ok (.goto 15, 3) := by decide +kernel
theorem dd_Law_map_13 : decode method_12_code 13 = .ok (.astore 4, 2) := by decide +kernel
theorem dd_Law_map_15 : decode method_12_code 15 = .ok (.iconst 1, 1) := by decide +kernel
theorem dd_Law_map_16 : decode method_12_code 16 = .ok (.ireturn, 1) := by decide +kernel
theorem dd_Law_map_17 : decode method_12_code 17 = .ok (.astore 4, 2) := by decide +kernel
theorem dd_Law_map_19 : decode method_12_code 19 = .ok (.iconst 2, 1) := by decide +kernel
theorem dd_Law_map_20 : decode method_12_code 20 = .ok (.ireturn, 1) := by decide +kernel
theorem dd_Law_map_21 : decode method_12_code 21 = .ok (.astore 4, 2) := by decide +kernel
theorem dd_Law_map_23 : decode method_12_code 23 = .ok (.iconst 3, 1) := by decide +kernel
theorem dd_Law_map_24 : decode method_12_code 24 = .ok (.ireturn, 1) := by decide +kernel
theorem dd_Law_map_25 : decode method_12_code 25 = .ok (.iconst 0, 1) := by decide +kernel
theorem dd_Law_map_26 : decode method_12_code 26 = .ok (.ireturn, 1) := by decide +kernel
theorem dd_Law_get_0 : decode method_13_code 0 = .ok (.aload_n 3, 1) := by decide +kernel
theorem dd_Law_get_1 : decode method_13_code 1 = .ok (.iconst 0, 1) := by decide +kernel
theorem dd_Law_get_2 : decode method_13_code 2 = .ok (.aload_n 0, 1) := by decide +kernel
theorem dd_Law_get_3 : decode method_13_code 3 = .ok (.iload_n 1, 1) := by decide +kernel
theorem dd_Law_get_4 : decode method_13_code 4 = .ok (.iload_n 2, 1) := by decide +kernel
theorem dd_Law_get_5 : decode method_13_code 5 = .ok (.invokevirtual 53, 3) := by decide +kernel
theorem dd_Law_get_8 : decode method_13_code 8 = .ok (.lastore, 1) := by decide +kernel
theorem dd_Law_get_9 : decode method_13_code 9 = .ok (.goto 7, 3) := by decide +kernel
theorem dd_Law_get_12 : decode method_13_code 12 = .ok (.astore 4, 2) := by decide +kernel
theorem dd_Law_get_14 : decode method_13_code 14 = .ok (.iconst 1, 1) := by decide +kernel
theorem dd_Law_get_15 : decode method_13_code 15 = .ok (.ireturn, 1) := by decide +kernel
theorem dd_Law_get_16 : decode method_13_code 16 = .ok (.iconst 0, 1) := by decide +kernel
theorem dd_Law_get_17 : decode method_13_code 17 = .ok (.ireturn, 1) := by decide +kernel
theorem dd_Law_about_0 : decode method_14_code 0 = .ok (.aload_n 3, 1) := by decide +kernel
theorem dd_Law_about_1 : decode method_14_code 1 = .ok (.iconst 0, 1) := by decide +kernel
theorem dd_Law_about_2 : decode method_14_code 2 = .ok (.aload_n 0, 1) := by decide +kernel
theorem dd_Law_about_3 : decode method_14_code 3 = .ok (.iload_n 1, 1) := by decide +kernel
theorem dd_Law_about_4 : decode method_14_code 4 = .ok (.iload_n 2, 1) := by decide +kernel
theorem dd_Law_about_5 : decode method_14_code 5 = .ok (.invokevirtual 59, 3) := by decide +kernel
theorem dd_Law_about_8 : decode method_14_code 8 = .ok (.i2l, 1) := by decide +kernel
theorem dd_Law_about_9 : decode method_14_code 9 = .ok (.lastore, 1) := by decide +kernel
theorem dd_Law_about_10 : decode method_14_code 10 = .ok (.goto 7, 3) := by decide +kernel
theorem dd_Law_about_13 : decode method_14_code 13 = .ok (.astore 4, 2) := by decide +kernel
theorem dd_Law_about_15 : decode method_14_code 15 = .ok (.iconst 1, 1) := by decide +kernel
theorem dd_Law_about_16 : decode method_14_code 16 = .ok (.ireturn, 1) := by decide +kernel
theorem dd_Law_about_17 : decode method_14_code 17 = .ok (.iconst 0, 1) := by decide +kernel
theorem dd_Law_about_18 : decode method_14_code 18 = .ok (.ireturn, 1) := by decide +kernel
theorem dd_Law_law_0 : decode code 0 = .ok (.new 8, 3) := by decide +kernel
theorem dd_Law_law_3 : decode code 3 = .ok (.dup, 1) := by decide +kernel
theorem dd_Law_law_4 : decode code 4 = .ok (.invokespecial 62, 3) := by decide +kernel
theorem dd_Law_law_7 : decode code 7 = .ok (.astore_n 1, 1) := by decide +kernel
theorem dd_Law_law_8 : decode code 8 = .ok (.new 63, 3) := by decide +kernel
theorem dd_Law_law_11 : decode code 11 = .ok (.dup, 1) := by decide +kernel
theorem dd_Law_law_12 : decode code 12 = .ok (.invokespecial 65, 3) := by decide +kernel
theorem dd_Law_law_15 : decode code 15 = .ok (.astore_n 2, 1) := by decide +kernel
theorem dd_Law_law_16 : decode code 16 = .ok (.iconst 1, 1) := by decide +kernel
theorem dd_Law_law_17 : decode code 17 = .ok (.newarray .long, 2) := by decide +kernel
theorem dd_Law_law_19 : decode code 19 = .ok (.astore_n 3, 1) := by decide +kernel
theorem dd_Law_law_20 : decode code 20 = .ok (.iconst 0, 1) := by decide +kernel
theorem dd_Law_law_21 : decode code 21 = .ok (.istore 4, 2) := by decide +kernel
theorem dd_Law_law_23 : decode code 23 = .ok (.iload 4, 2) := by decide +kernel
theorem dd_Law_law_25 : decode code 25 = .ok (.aload_n 0, 1) := by decide +kernel
theorem dd_Law_law_26 : decode code 26 = .ok (.arraylength, 1) := by decide +kernel
theorem dd_Law_law_27 : decode code 27 = .ok (.bipush 6, 2) := by decide +kernel
theorem dd_Law_law_29 : decode code 29 = .ok (.isub, 1) := by decide +kernel
theorem dd_Law_law_30 : decode code 30 = .ok (.if_icmp .gt 1114, 3) := by decide +kernel
theorem dd_Law_law_33 : decode code 33 = .ok (.aload_n 0, 1) := by decide +kernel
theorem dd_Law_law_34 : decode code 34 = .ok (.iload 4, 2) := by decide +kernel
theorem dd_Law_law_36 : decode code 36 = .ok (.iaload, 1) := by decide +kernel
theorem dd_Law_law_37 : decode code 37 = .ok (.bipush 15, 2) := by decide +kernel
theorem dd_Law_law_39 : decode code 39 = .ok (.iand, 1) := by decide +kernel
theorem dd_Law_law_40 : decode code 40 = .ok (.tableswitch 1098 0 14 #[76, 176, 220, 300, 356, 424, 516, 620, 664, 689, 789, 870, 938, 1005, 1073], 76) := by decide +kernel
theorem dd_Law_law_116 : decode code 116 = .ok (.aload_n 1, 1) := by decide +kernel
theorem dd_Law_law_117 : decode code 117 = .ok (.aload_n 0, 1) := by decide +kernel
theorem dd_Law_law_118 : decode code 118 = .ok (.iload 4, 2) := by decide +kernel
theorem dd_Law_law_120 : decode code 120 = .ok (.iconst 1, 1) := by decide +kernel
theorem dd_Law_law_121 : decode code 121 = .ok (.iadd, 1) := by decide +kernel
theorem dd_Law_law_122 : decode code 122 = .ok (.iaload, 1) := by decide +kernel
theorem dd_Law_law_123 : decode code 123 = .ok (.i2l, 1) := by decide +kernel
theorem dd_Law_law_124 : decode code 124 = .ok (.bipush 32, 2) := by decide +kernel
theorem dd_Law_law_126 : decode code 126 = .ok (.lshl, 1) := by decide +kernel
theorem dd_Law_law_127 : decode code 127 = .ok (.aload_n 0, 1) := by decide +kernel
theorem dd_Law_law_128 : decode code 128 = .ok (.iload 4, 2) := by decide +kernel
theorem dd_Law_law_130 : decode code 130 = .ok (.iconst 2, 1) := by decide +kernel
theorem dd_Law_law_131 : decode code 131 = .ok (.iadd, 1) := by decide +kernel
theorem dd_Law_law_132 : decode code 132 = .ok (.iaload, 1) := by decide +kernel
theorem dd_Law_law_133 : decode code 133 = .ok (.i2l, 1) := by decide +kernel
theorem dd_Law_law_134 : decode code 134 = .ok (.ldc2_w 66, 3) := by decide +kernel
theorem dd_Law_law_137 : decode code 137 = .ok (.land, 1) := by decide +kernel
theorem dd_Law_law_138 : decode code 138 = .ok (.lor, 1) := by decide +kernel
theorem dd_Law_law_139 : decode code 139 = .ok (.aload_n 0, 1) := by decide +kernel
theorem dd_Law_law_140 : decode code 140 = .ok (.iload 4, 2) := by decide +kernel
theorem dd_Law_law_142 : decode code 142 = .ok (.iconst 3, 1) := by decide +kernel
theorem dd_Law_law_143 : decode code 143 = .ok (.iadd, 1) := by decide +kernel
theorem dd_Law_law_144 : decode code 144 = .ok (.iaload, 1) := by decide +kernel
theorem dd_Law_law_145 : decode code 145 = .ok (.aload_n 3, 1) := by decide +kernel
theorem dd_Law_law_146 : decode code 146 = .ok (.invokestatic 68, 3) := by decide +kernel
theorem dd_Law_law_149 : decode code 149 = .ok (.istore 5, 2) := by decide +kernel
theorem dd_Law_law_151 : decode code 151 = .ok (.aload_n 2, 1) := by decide +kernel
theorem dd_Law_law_152 : decode code 152 = .ok (.aload_n 0, 1) := by decide +kernel
theorem dd_Law_law_153 : decode code 153 = .ok (.iload 4, 2) := by decide +kernel
theorem dd_Law_law_155 : decode code 155 = .ok (.iconst 1, 1) := by decide +kernel
theorem dd_Law_law_156 : decode code 156 = .ok (.iadd, 1) := by decide +kernel
theorem dd_Law_law_157 : decode code 157 = .ok (.iaload, 1) := by decide +kernel
theorem dd_Law_law_158 : decode code 158 = .ok (.i2l, 1) := by decide +kernel
theorem dd_Law_law_159 : decode code 159 = .ok (.bipush 32, 2) := by decide +kernel
theorem dd_Law_law_161 : decode code 161 = .ok (.lshl, 1) := by decide +kernel
theorem dd_Law_law_162 : decode code 162 = .ok (.aload_n 0, 1) := by decide +kernel
theorem dd_Law_law_163 : decode code 163 = .ok (.iload 4, 2) := by decide +kernel
theorem dd_Law_law_165 : decode code 165 = .ok (.iconst 2, 1) := by decide +kernel
theorem dd_Law_law_166 : decode code 166 = .ok (.iadd, 1) := by decide +kernel
theorem dd_Law_law_167 : decode code 167 = .ok (.iaload, 1) := by decide +kernel
theorem dd_Law_law_168 : decode code 168 = .ok (.i2l, 1) := by decide +kernel
theorem dd_Law_law_169 : decode code 169 = .ok (.ldc2_w 66, 3) := by decide +kernel
theorem dd_Law_law_172 : decode code 172 = .ok (.land, 1) := by decide +kernel
theorem dd_Law_law_173 : decode code 173 = .ok (.lor, 1) := by decide +kernel
theorem dd_Law_law_174 : decode code 174 = .ok (.aload_n 0, 1) := by decide +kernel
theorem dd_Law_law_175 : decode code 175 = .ok (.iload 4, 2) := by decide +kernel
theorem dd_Law_law_177 : decode code 177 = .ok (.iconst 3, 1) := by decide +kernel
theorem dd_Law_law_178 : decode code 178 = .ok (.iadd, 1) := by decide +kernel
theorem dd_Law_law_179 : decode code 179 = .ok (.iaload, 1) := by decide +kernel
theorem dd_Law_law_180 : decode code 180 = .ok (.invokevirtual 73, 3) := by decide +kernel
theorem dd_Law_law_183 : decode code 183 = .ok (.istore 6, 2) := by decide +kernel
theorem dd_Law_law_185 : decode code 185 = .ok (.aload_n 2, 1) := by decide +kernel
theorem dd_Law_law_186 : decode code 186 = .ok (.invokevirtual 74, 3) := by decide +kernel
theorem dd_Law_law_189 : decode code 189 = .ok (.iload 5, 2) := by decide +kernel
theorem dd_Law_law_191 : decode code 191 = .ok (.if_icmp .eq 5, 3) := by decide +kernel
theorem dd_Law_law_194 : decode code 194 = .ok (.iconst 0, 1) := by decide +kernel
theorem dd_Law_law_195 : decode code 195 = .ok (.ireturn, 1) := by decide +kernel
theorem dd_Law_law_196 : decode code 196 = .ok (.iload 5, 2) := by decide +kernel
theorem dd_Law_law_198 : decode code 198 = .ok (.ifCond .ne 15, 3) := by decide +kernel
theorem dd_Law_law_201 : decode code 201 = .ok (.aload_n 3, 1) := by decide +kernel
theorem dd_Law_law_202 : decode code 202 = .ok (.iconst 0, 1) := by decide +kernel
theorem dd_Law_law_203 : decode code 203 = .ok (.laload, 1) := by decide +kernel
theorem dd_Law_law_204 : decode code 204 = .ok (.iload 6, 2) := by decide +kernel
theorem dd_Law_law_206 : decode code 206 = .ok (.i2l, 1) := by decide +kernel
theorem dd_Law_law_207 : decode code 207 = .ok (.lcmp, 1) := by decide +kernel
theorem dd_Law_law_208 : decode code 208 = .ok (.ifCond .eq 5, 3) := by decide +kernel
theorem dd_Law_law_211 : decode code 211 = .ok (.iconst 0, 1) := by decide +kernel
theorem dd_Law_law_212 : decode code 212 = .ok (.ireturn, 1) := by decide +kernel
theorem dd_Law_law_213 : decode code 213 = .ok (.goto 925, 3) := by decide +kernel
theorem dd_Law_law_216 : decode code 216 = .ok (.aload_n 1, 1) := by decide +kernel
theorem dd_Law_law_217 : decode code 217 = .ok (.aload_n 3, 1) := by decide +kernel
theorem dd_Law_law_218 : decode code 218 = .ok (.invokestatic 77, 3) := by decide +kernel
theorem dd_Law_law_221 : decode code 221 = .ok (.istore 5, 2) := by decide +kernel
theorem dd_Law_law_223 : decode code 223 = .ok (.aload_n 2, 1) := by decide +kernel
theorem dd_Law_law_224 : decode code 224 = .ok (.invokevirtual 80, 3) := by decide +kernel
theorem dd_Law_law_227 : decode code 227 = .ok (.istore 6, 2) := by decide +kernel
theorem dd_Law_law_229 : decode code 229 = .ok (.aload_n 2, 1) := by decide +kernel
theorem dd_Law_law_230 : decode code 230 = .ok (.invokevirtual 74, 3) := by decide +kernel
theorem dd_Law_law_233 : decode code 233 = .ok (.iload 5, 2) := by decide +kernel
theorem dd_Law_law_235 : decode code 235 = .ok (.if_icmp .eq 5, 3) := by decide +kernel
theorem dd_Law_law_238 : decode code 238 = .ok (.iconst 0, 1) := by decide +kernel
theorem dd_Law_law_239 : decode code 239 = .ok (.ireturn, 1) := by decide +kernel
theorem dd_Law_law_240 : decode code 240 = .ok (.iload 5, 2) := by decide +kernel
theorem dd_Law_law_242 : decode code 242 = .ok (.ifCond .ne 15, 3) := by decide +kernel
theorem dd_Law_law_245 : decode code 245 = .ok (.aload_n 3, 1) := by decide +kernel
theorem dd_Law_law_246 : decode code 246 = .ok (.iconst 0, 1) := by decide +kernel
theorem dd_Law_law_247 : decode code 247 = .ok (.laload, 1) := by decide +kernel
theorem dd_Law_law_248 : decode code 248 = .ok (.iload 6, 2) := by decide +kernel
theorem dd_Law_law_250 : decode code 250 = .ok (.i2l, 1) := by decide +kernel
theorem dd_Law_law_251 : decode code 251 = .ok (.lcmp, 1) := by decide +kernel
theorem dd_Law_law_252 : decode code 252 = .ok (.ifCond .eq 5, 3) := by decide +kernel
theorem dd_Law_law_255 : decode code 255 = .ok (.iconst 0, 1) := by decide +kernel
theorem dd_Law_law_256 : decode code 256 = .ok (.ireturn, 1) := by decide +kernel
theorem dd_Law_law_257 : decode code 257 = .ok (.goto 881, 3) := by decide +kernel
theorem dd_Law_law_260 : decode code 260 = .ok (.aload_n 1, 1) := by decide +kernel
theorem dd_Law_law_261 : decode code 261 = .ok (.aload_n 0, 1) := by decide +kernel
theorem dd_Law_law_262 : decode code 262 = .ok (.iload 4, 2) := by decide +kernel
theorem dd_Law_law_264 : decode code 264 = .ok (.iconst 1, 1) := by decide +kernel
theorem dd_Law_law_265 : decode code 265 = .ok (.iadd, 1) := by decide +kernel
theorem dd_Law_law_266 : decode code 266 = .ok (.iaload, 1) := by decide +kernel
theorem dd_Law_law_267 : decode code 267 = .ok (.aload_n 0, 1) := by decide +kernel
theorem dd_Law_law_268 : decode code 268 = .ok (.iload 4, 2) := by decide +kernel
theorem dd_Law_law_270 : decode code 270 = .ok (.iconst 2, 1) := by decide +kernel
theorem dd_Law_law_271 : decode code 271 = .ok (.iadd, 1) := by decide +kernel
theorem dd_Law_law_272 : decode code 272 = .ok (.iaload, 1) := by decide +kernel
theorem dd_Law_law_273 : decode code 273 = .ok (.aload_n 0, 1) := by decide +kernel
theorem dd_Law_law_274 : decode code 274 = .ok (.iload 4, 2) := by decide +kernel
theorem dd_Law_law_276 : decode code 276 = .ok (.iconst 3, 1) := by decide +kernel
theorem dd_Law_law_277 : decode code 277 = .ok (.iadd, 1) := by decide +kernel
theorem dd_Law_law_278 : decode code 278 = .ok (.iaload, 1) := by decide +kernel
theorem dd_Law_law_279 : decode code 279 = .ok (.aload_n 3, 1) := by decide +kernel
theorem dd_Law_law_280 : decode code 280 = .ok (.invokestatic 81, 3) := by decide +kernel
theorem dd_Law_law_283 : decode code 283 = .ok (.istore 5, 2) := by decide +kernel
theorem dd_Law_law_285 : decode code 285 = .ok (.aload_n 2, 1) := by decide +kernel
theorem dd_Law_law_286 : decode code 286 = .ok (.aload_n 0, 1) := by decide +kernel
theorem dd_Law_law_287 : decode code 287 = .ok (.iload 4, 2) := by decide +kernel
theorem dd_Law_law_289 : decode code 289 = .ok (.iconst 1, 1) := by decide +kernel
theorem dd_Law_law_290 : decode code 290 = .ok (.iadd, 1) := by decide +kernel
theorem dd_Law_law_291 : decode code 291 = .ok (.iaload, 1) := by decide +kernel
theorem dd_Law_law_292 : decode code 292 = .ok (.aload_n 0, 1) := by decide +kernel
theorem dd_Law_law_293 : decode code 293 = .ok (.iload 4, 2) := by decide +kernel
theorem dd_Law_law_295 : decode code 295 = .ok (.iconst 2, 1) := by decide +kernel
theorem dd_Law_law_296 : decode code 296 = .ok (.iadd, 1) := by decide +kernel
theorem dd_Law_law_297 : decode code 297 = .ok (.iaload, 1) := by decide +kernel
theorem dd_Law_law_298 : decode code 298 = .ok (.aload_n 0, 1) := by decide +kernel
theorem dd_Law_law_299 : decode code 299 = .ok (.iload 4, 2) := by decide +kernel
theorem dd_Law_law_301 : decode code 301 = .ok (.iconst 3, 1) := by decide +kernel
theorem dd_Law_law_302 : decode code 302 = .ok (.iadd, 1) := by decide +kernel
theorem dd_Law_law_303 : decode code 303 = .ok (.iaload, 1) := by decide +kernel
theorem dd_Law_law_304 : decode code 304 = .ok (.invokevirtual 84, 3) := by decide +kernel
theorem dd_Law_law_307 : decode code 307 = .ok (.istore 6, 2) := by decide +kernel
theorem dd_Law_law_309 : decode code 309 = .ok (.aload_n 2, 1) := by decide +kernel
theorem dd_Law_law_310 : decode code 310 = .ok (.invokevirtual 74, 3) := by decide +kernel
theorem dd_Law_law_313 : decode code 313 = .ok (.iload 5, 2) := by decide +kernel
theorem dd_Law_law_315 : decode code 315 = .ok (.if_icmp .eq 5, 3) := by decide +kernel
theorem dd_Law_law_318 : decode code 318 = .ok (.iconst 0, 1) := by decide +kernel
theorem dd_Law_law_319 : decode code 319 = .ok (.ireturn, 1) := by decide +kernel
theorem dd_Law_law_320 : decode code 320 = .ok (.iload 5, 2) := by decide +kernel
theorem dd_Law_law_322 : decode code 322 = .ok (.ifCond .ne 15, 3) := by decide +kernel
theorem dd_Law_law_325 : decode code 325 = .ok (.aload_n 3, 1) := by decide +kernel
theorem dd_Law_law_326 : decode code 326 = .ok (.iconst 0, 1) := by decide +kernel
theorem dd_Law_law_327 : decode code 327 = .ok (.laload, 1) := by decide +kernel
theorem dd_Law_law_328 : decode code 328 = .ok (.iload 6, 2) := by decide +kernel
theorem dd_Law_law_330 : decode code 330 = .ok (.i2l, 1) := by decide +kernel
theorem dd_Law_law_331 : decode code 331 = .ok (.lcmp, 1) := by decide +kernel
theorem dd_Law_law_332 : decode code 332 = .ok (.ifCond .eq 5, 3) := by decide +kernel
theorem dd_Law_law_335 : decode code 335 = .ok (.iconst 0, 1) := by decide +kernel
theorem dd_Law_law_336 : decode code 336 = .ok (.ireturn, 1) := by decide +kernel
theorem dd_Law_law_337 : decode code 337 = .ok (.goto 801, 3) := by decide +kernel
theorem dd_Law_law_340 : decode code 340 = .ok (.aload_n 1, 1) := by decide +kernel
theorem dd_Law_law_341 : decode code 341 = .ok (.aload_n 0, 1) := by decide +kernel
theorem dd_Law_law_342 : decode code 342 = .ok (.iload 4, 2) := by decide +kernel
theorem dd_Law_law_344 : decode code 344 = .ok (.iconst 1, 1) := by decide +kernel
theorem dd_Law_law_345 : decode code 345 = .ok (.iadd, 1) := by decide +kernel
theorem dd_Law_law_346 : decode code 346 = .ok (.iaload, 1) := by decide +kernel
theorem dd_Law_law_347 : decode code 347 = .ok (.aload_n 3, 1) := by decide +kernel
theorem dd_Law_law_348 : decode code 348 = .ok (.invokestatic 85, 3) := by decide +kernel
theorem dd_Law_law_351 : decode code 351 = .ok (.istore 5, 2) := by decide +kernel
theorem dd_Law_law_353 : decode code 353 = .ok (.aload_n 2, 1) := by decide +kernel
theorem dd_Law_law_354 : decode code 354 = .ok (.aload_n 0, 1) := by decide +kernel
theorem dd_Law_law_355 : decode code 355 = .ok (.iload 4, 2) := by decide +kernel
theorem dd_Law_law_357 : decode code 357 = .ok (.iconst 1, 1) := by decide +kernel
theorem dd_Law_law_358 : decode code 358 = .ok (.iadd, 1) := by decide +kernel
theorem dd_Law_law_359 : decode code 359 = .ok (.iaload, 1) := by decide +kernel
theorem dd_Law_law_360 : decode code 360 = .ok (.invokevirtual 88, 3) := by decide +kernel
theorem dd_Law_law_363 : decode code 363 = .ok (.istore 6, 2) := by decide +kernel
theorem dd_Law_law_365 : decode code 365 = .ok (.aload_n 2, 1) := by decide +kernel
theorem dd_Law_law_366 : decode code 366 = .ok (.invokevirtual 74, 3) := by decide +kernel
theorem dd_Law_law_369 : decode code 369 = .ok (.iload 5, 2) := by decide +kernel
theorem dd_Law_law_371 : decode code 371 = .ok (.if_icmp .eq 5, 3) := by decide +kernel
theorem dd_Law_law_374 : decode code 374 = .ok (.iconst 0, 1) := by decide +kernel
theorem dd_Law_law_375 : decode code 375 = .ok (.ireturn, 1) := by decide +kernel
theorem dd_Law_law_376 : decode code 376 = .ok (.iload 5, 2) := by decide +kernel
theorem dd_Law_law_378 : decode code 378 = .ok (.ifCond .ne 15, 3) := by decide +kernel
theorem dd_Law_law_381 : decode code 381 = .ok (.aload_n 3, 1) := by decide +kernel
theorem dd_Law_law_382 : decode code 382 = .ok (.iconst 0, 1) := by decide +kernel
theorem dd_Law_law_383 : decode code 383 = .ok (.laload, 1) := by decide +kernel
theorem dd_Law_law_384 : decode code 384 = .ok (.iload 6, 2) := by decide +kernel
theorem dd_Law_law_386 : decode code 386 = .ok (.i2l, 1) := by decide +kernel
theorem dd_Law_law_387 : decode code 387 = .ok (.lcmp, 1) := by decide +kernel
theorem dd_Law_law_388 : decode code 388 = .ok (.ifCond .eq 5, 3) := by decide +kernel
theorem dd_Law_law_391 : decode code 391 = .ok (.iconst 0, 1) := by decide +kernel
theorem dd_Law_law_392 : decode code 392 = .ok (.ireturn, 1) := by decide +kernel
theorem dd_Law_law_393 : decode code 393 = .ok (.goto 745, 3) := by decide +kernel
theorem dd_Law_law_396 : decode code 396 = .ok (.aload_n 1, 1) := by decide +kernel
theorem dd_Law_law_397 : decode code 397 = .ok (.aload_n 0, 1) := by decide +kernel
theorem dd_Law_law_398 : decode code 398 = .ok (.iload 4, 2) := by decide +kernel
theorem dd_Law_law_400 : decode code 400 = .ok (.iconst 1, 1) := by decide +kernel
theorem dd_Law_law_401 : decode code 401 = .ok (.iadd, 1) := by decide +kernel
theorem dd_Law_law_402 : decode code 402 = .ok (.iaload, 1) := by decide +kernel
theorem dd_Law_law_403 : decode code 403 = .ok (.aload_n 0, 1) := by decide +kernel
theorem dd_Law_law_404 : decode code 404 = .ok (.iload 4, 2) := by decide +kernel
theorem dd_Law_law_406 : decode code 406 = .ok (.iconst 2, 1) := by decide +kernel
theorem dd_Law_law_407 : decode code 407 = .ok (.iadd, 1) := by decide +kernel
theorem dd_Law_law_408 : decode code 408 = .ok (.iaload, 1) := by decide +kernel
theorem dd_Law_law_409 : decode code 409 = .ok (.aload_n 3, 1) := by decide +kernel
theorem dd_Law_law_410 : decode code 410 = .ok (.invokestatic 89, 3) := by decide +kernel
theorem dd_Law_law_413 : decode code 413 = .ok (.istore 5, 2) := by decide +kernel
theorem dd_Law_law_415 : decode code 415 = .ok (.aload_n 2, 1) := by decide +kernel
theorem dd_Law_law_416 : decode code 416 = .ok (.aload_n 0, 1) := by decide +kernel
theorem dd_Law_law_417 : decode code 417 = .ok (.iload 4, 2) := by decide +kernel
theorem dd_Law_law_419 : decode code 419 = .ok (.iconst 1, 1) := by decide +kernel
theorem dd_Law_law_420 : decode code 420 = .ok (.iadd, 1) := by decide +kernel
theorem dd_Law_law_421 : decode code 421 = .ok (.iaload, 1) := by decide +kernel
theorem dd_Law_law_422 : decode code 422 = .ok (.aload_n 0, 1) := by decide +kernel
theorem dd_Law_law_423 : decode code 423 = .ok (.iload 4, 2) := by decide +kernel
theorem dd_Law_law_425 : decode code 425 = .ok (.iconst 2, 1) := by decide +kernel
theorem dd_Law_law_426 : decode code 426 = .ok (.iadd, 1) := by decide +kernel
theorem dd_Law_law_427 : decode code 427 = .ok (.iaload, 1) := by decide +kernel
theorem dd_Law_law_428 : decode code 428 = .ok (.invokevirtual 92, 3) := by decide +kernel
theorem dd_Law_law_431 : decode code 431 = .ok (.istore 6, 2) := by decide +kernel
theorem dd_Law_law_433 : decode code 433 = .ok (.aload_n 2, 1) := by decide +kernel
theorem dd_Law_law_434 : decode code 434 = .ok (.invokevirtual 74, 3) := by decide +kernel
theorem dd_Law_law_437 : decode code 437 = .ok (.iload 5, 2) := by decide +kernel
theorem dd_Law_law_439 : decode code 439 = .ok (.if_icmp .eq 5, 3) := by decide +kernel
theorem dd_Law_law_442 : decode code 442 = .ok (.iconst 0, 1) := by decide +kernel
theorem dd_Law_law_443 : decode code 443 = .ok (.ireturn, 1) := by decide +kernel
theorem dd_Law_law_444 : decode code 444 = .ok (.iload 5, 2) := by decide +kernel
theorem dd_Law_law_446 : decode code 446 = .ok (.ifCond .ne 15, 3) := by decide +kernel
theorem dd_Law_law_449 : decode code 449 = .ok (.aload_n 3, 1) := by decide +kernel
theorem dd_Law_law_450 : decode code 450 = .ok (.iconst 0, 1) := by decide +kernel
theorem dd_Law_law_451 : decode code 451 = .ok (.laload, 1) := by decide +kernel
theorem dd_Law_law_452 : decode code 452 = .ok (.iload 6, 2) := by decide +kernel
theorem dd_Law_law_454 : decode code 454 = .ok (.i2l, 1) := by decide +kernel
theorem dd_Law_law_455 : decode code 455 = .ok (.lcmp, 1) := by decide +kernel
theorem dd_Law_law_456 : decode code 456 = .ok (.ifCond .eq 5, 3) := by decide +kernel
theorem dd_Law_law_459 : decode code 459 = .ok (.iconst 0, 1) := by decide +kernel
theorem dd_Law_law_460 : decode code 460 = .ok (.ireturn, 1) := by decide +kernel
theorem dd_Law_law_461 : decode code 461 = .ok (.goto 677, 3) := by decide +kernel
theorem dd_Law_law_464 : decode code 464 = .ok (.aload_n 1, 1) := by decide +kernel
theorem dd_Law_law_465 : decode code 465 = .ok (.aload_n 0, 1) := by decide +kernel
theorem dd_Law_law_466 : decode code 466 = .ok (.iload 4, 2) := by decide +kernel
theorem dd_Law_law_468 : decode code 468 = .ok (.iconst 1, 1) := by decide +kernel
theorem dd_Law_law_469 : decode code 469 = .ok (.iadd, 1) := by decide +kernel
theorem dd_Law_law_470 : decode code 470 = .ok (.iaload, 1) := by decide +kernel
theorem dd_Law_law_471 : decode code 471 = .ok (.aload_n 0, 1) := by decide +kernel
theorem dd_Law_law_472 : decode code 472 = .ok (.iload 4, 2) := by decide +kernel
theorem dd_Law_law_474 : decode code 474 = .ok (.iconst 2, 1) := by decide +kernel
theorem dd_Law_law_475 : decode code 475 = .ok (.iadd, 1) := by decide +kernel
theorem dd_Law_law_476 : decode code 476 = .ok (.iaload, 1) := by decide +kernel
theorem dd_Law_law_477 : decode code 477 = .ok (.aload_n 0, 1) := by decide +kernel
theorem dd_Law_law_478 : decode code 478 = .ok (.iload 4, 2) := by decide +kernel
theorem dd_Law_law_480 : decode code 480 = .ok (.iconst 3, 1) := by decide +kernel
theorem dd_Law_law_481 : decode code 481 = .ok (.iadd, 1) := by decide +kernel
theorem dd_Law_law_482 : decode code 482 = .ok (.iaload, 1) := by decide +kernel
theorem dd_Law_law_483 : decode code 483 = .ok (.aload_n 0, 1) := by decide +kernel
theorem dd_Law_law_484 : decode code 484 = .ok (.iload 4, 2) := by decide +kernel
theorem dd_Law_law_486 : decode code 486 = .ok (.iconst 4, 1) := by decide +kernel
theorem dd_Law_law_487 : decode code 487 = .ok (.iadd, 1) := by decide +kernel
theorem dd_Law_law_488 : decode code 488 = .ok (.iaload, 1) := by decide +kernel
theorem dd_Law_law_489 : decode code 489 = .ok (.aload_n 3, 1) := by decide +kernel
theorem dd_Law_law_490 : decode code 490 = .ok (.invokestatic 93, 3) := by decide +kernel
theorem dd_Law_law_493 : decode code 493 = .ok (.istore 5, 2) := by decide +kernel
theorem dd_Law_law_495 : decode code 495 = .ok (.aload_n 2, 1) := by decide +kernel
theorem dd_Law_law_496 : decode code 496 = .ok (.aload_n 0, 1) := by decide +kernel
theorem dd_Law_law_497 : decode code 497 = .ok (.iload 4, 2) := by decide +kernel
theorem dd_Law_law_499 : decode code 499 = .ok (.iconst 1, 1) := by decide +kernel
theorem dd_Law_law_500 : decode code 500 = .ok (.iadd, 1) := by decide +kernel
theorem dd_Law_law_501 : decode code 501 = .ok (.iaload, 1) := by decide +kernel
theorem dd_Law_law_502 : decode code 502 = .ok (.aload_n 0, 1) := by decide +kernel
theorem dd_Law_law_503 : decode code 503 = .ok (.iload 4, 2) := by decide +kernel
theorem dd_Law_law_505 : decode code 505 = .ok (.iconst 2, 1) := by decide +kernel
theorem dd_Law_law_506 : decode code 506 = .ok (.iadd, 1) := by decide +kernel
theorem dd_Law_law_507 : decode code 507 = .ok (.iaload, 1) := by decide +kernel
theorem dd_Law_law_508 : decode code 508 = .ok (.aload_n 0, 1) := by decide +kernel
theorem dd_Law_law_509 : decode code 509 = .ok (.iload 4, 2) := by decide +kernel
theorem dd_Law_law_511 : decode code 511 = .ok (.iconst 3, 1) := by decide +kernel
theorem dd_Law_law_512 : decode code 512 = .ok (.iadd, 1) := by decide +kernel
theorem dd_Law_law_513 : decode code 513 = .ok (.iaload, 1) := by decide +kernel
theorem dd_Law_law_514 : decode code 514 = .ok (.aload_n 0, 1) := by decide +kernel
theorem dd_Law_law_515 : decode code 515 = .ok (.iload 4, 2) := by decide +kernel
theorem dd_Law_law_517 : decode code 517 = .ok (.iconst 4, 1) := by decide +kernel
theorem dd_Law_law_518 : decode code 518 = .ok (.iadd, 1) := by decide +kernel
theorem dd_Law_law_519 : decode code 519 = .ok (.iaload, 1) := by decide +kernel
theorem dd_Law_law_520 : decode code 520 = .ok (.invokevirtual 96, 3) := by decide +kernel
theorem dd_Law_law_523 : decode code 523 = .ok (.istore 6, 2) := by decide +kernel
theorem dd_Law_law_525 : decode code 525 = .ok (.aload_n 2, 1) := by decide +kernel
theorem dd_Law_law_526 : decode code 526 = .ok (.invokevirtual 74, 3) := by decide +kernel
theorem dd_Law_law_529 : decode code 529 = .ok (.iload 5, 2) := by decide +kernel
theorem dd_Law_law_531 : decode code 531 = .ok (.if_icmp .eq 5, 3) := by decide +kernel
theorem dd_Law_law_534 : decode code 534 = .ok (.iconst 0, 1) := by decide +kernel
theorem dd_Law_law_535 : decode code 535 = .ok (.ireturn, 1) := by decide +kernel
theorem dd_Law_law_536 : decode code 536 = .ok (.iload 5, 2) := by decide +kernel
theorem dd_Law_law_538 : decode code 538 = .ok (.ifCond .ne 15, 3) := by decide +kernel
theorem dd_Law_law_541 : decode code 541 = .ok (.aload_n 3, 1) := by decide +kernel
theorem dd_Law_law_542 : decode code 542 = .ok (.iconst 0, 1) := by decide +kernel
theorem dd_Law_law_543 : decode code 543 = .ok (.laload, 1) := by decide +kernel
theorem dd_Law_law_544 : decode code 544 = .ok (.iload 6, 2) := by decide +kernel
theorem dd_Law_law_546 : decode code 546 = .ok (.i2l, 1) := by decide +kernel
theorem dd_Law_law_547 : decode code 547 = .ok (.lcmp, 1) := by decide +kernel
theorem dd_Law_law_548 : decode code 548 = .ok (.ifCond .eq 5, 3) := by decide +kernel
theorem dd_Law_law_551 : decode code 551 = .ok (.iconst 0, 1) := by decide +kernel
theorem dd_Law_law_552 : decode code 552 = .ok (.ireturn, 1) := by decide +kernel
theorem dd_Law_law_553 : decode code 553 = .ok (.goto 585, 3) := by decide +kernel
theorem dd_Law_law_556 : decode code 556 = .ok (.aload_n 1, 1) := by decide +kernel
theorem dd_Law_law_557 : decode code 557 = .ok (.aload_n 0, 1) := by decide +kernel
theorem dd_Law_law_558 : decode code 558 = .ok (.iload 4, 2) := by decide +kernel
theorem dd_Law_law_560 : decode code 560 = .ok (.iconst 1, 1) := by decide +kernel
theorem dd_Law_law_561 : decode code 561 = .ok (.iadd, 1) := by decide +kernel
theorem dd_Law_law_562 : decode code 562 = .ok (.iaload, 1) := by decide +kernel
theorem dd_Law_law_563 : decode code 563 = .ok (.aload_n 0, 1) := by decide +kernel
theorem dd_Law_law_564 : decode code 564 = .ok (.iload 4, 2) := by decide +kernel
theorem dd_Law_law_566 : decode code 566 = .ok (.iconst 2, 1) := by decide +kernel
theorem dd_Law_law_567 : decode code 567 = .ok (.iadd, 1) := by decide +kernel
theorem dd_Law_law_568 : decode code 568 = .ok (.iaload, 1) := by decide +kernel
theorem dd_Law_law_569 : decode code 569 = .ok (.aload_n 0, 1) := by decide +kernel
theorem dd_Law_law_570 : decode code 570 = .ok (.iload 4, 2) := by decide +kernel
theorem dd_Law_law_572 : decode code 572 = .ok (.iconst 3, 1) := by decide +kernel
theorem dd_Law_law_573 : decode code 573 = .ok (.iadd, 1) := by decide +kernel
theorem dd_Law_law_574 : decode code 574 = .ok (.iaload, 1) := by decide +kernel
theorem dd_Law_law_575 : decode code 575 = .ok (.aload_n 0, 1) := by decide +kernel
theorem dd_Law_law_576 : decode code 576 = .ok (.iload 4, 2) := by decide +kernel
theorem dd_Law_law_578 : decode code 578 = .ok (.iconst 4, 1) := by decide +kernel
theorem dd_Law_law_579 : decode code 579 = .ok (.iadd, 1) := by decide +kernel
theorem dd_Law_law_580 : decode code 580 = .ok (.iaload, 1) := by decide +kernel
theorem dd_Law_law_581 : decode code 581 = .ok (.i2l, 1) := by decide +kernel
theorem dd_Law_law_582 : decode code 582 = .ok (.bipush 32, 2) := by decide +kernel
theorem dd_Law_law_584 : decode code 584 = .ok (.lshl, 1) := by decide +kernel
theorem dd_Law_law_585 : decode code 585 = .ok (.aload_n 0, 1) := by decide +kernel
theorem dd_Law_law_586 : decode code 586 = .ok (.iload 4, 2) := by decide +kernel
theorem dd_Law_law_588 : decode code 588 = .ok (.iconst 5, 1) := by decide +kernel
theorem dd_Law_law_589 : decode code 589 = .ok (.iadd, 1) := by decide +kernel
theorem dd_Law_law_590 : decode code 590 = .ok (.iaload, 1) := by decide +kernel
theorem dd_Law_law_591 : decode code 591 = .ok (.i2l, 1) := by decide +kernel
theorem dd_Law_law_592 : decode code 592 = .ok (.ldc2_w 66, 3) := by decide +kernel
theorem dd_Law_law_595 : decode code 595 = .ok (.land, 1) := by decide +kernel
theorem dd_Law_law_596 : decode code 596 = .ok (.lor, 1) := by decide +kernel
theorem dd_Law_law_597 : decode code 597 = .ok (.invokestatic 97, 3) := by decide +kernel
theorem dd_Law_law_600 : decode code 600 = .ok (.istore 5, 2) := by decide +kernel
theorem dd_Law_law_602 : decode code 602 = .ok (.aload_n 2, 1) := by decide +kernel
theorem dd_Law_law_603 : decode code 603 = .ok (.aload_n 0, 1) := by decide +kernel
theorem dd_Law_law_604 : decode code 604 = .ok (.iload 4, 2) := by decide +kernel
theorem dd_Law_law_606 : decode code 606 = .ok (.iconst 1, 1) := by decide +kernel
theorem dd_Law_law_607 : decode code 607 = .ok (.iadd, 1) := by decide +kernel
theorem dd_Law_law_608 : decode code 608 = .ok (.iaload, 1) := by decide +kernel
theorem dd_Law_law_609 : decode code 609 = .ok (.aload_n 0, 1) := by decide +kernel
theorem dd_Law_law_610 : decode code 610 = .ok (.iload 4, 2) := by decide +kernel
theorem dd_Law_law_612 : decode code 612 = .ok (.iconst 2, 1) := by decide +kernel
theorem dd_Law_law_613 : decode code 613 = .ok (.iadd, 1) := by decide +kernel
theorem dd_Law_law_614 : decode code 614 = .ok (.iaload, 1) := by decide +kernel
theorem dd_Law_law_615 : decode code 615 = .ok (.aload_n 0, 1) := by decide +kernel
theorem dd_Law_law_616 : decode code 616 = .ok (.iload 4, 2) := by decide +kernel
theorem dd_Law_law_618 : decode code 618 = .ok (.iconst 3, 1) := by decide +kernel
theorem dd_Law_law_619 : decode code 619 = .ok (.iadd, 1) := by decide +kernel
theorem dd_Law_law_620 : decode code 620 = .ok (.iaload, 1) := by decide +kernel
theorem dd_Law_law_621 : decode code 621 = .ok (.aload_n 0, 1) := by decide +kernel
theorem dd_Law_law_622 : decode code 622 = .ok (.iload 4, 2) := by decide +kernel
theorem dd_Law_law_624 : decode code 624 = .ok (.iconst 4, 1) := by decide +kernel
theorem dd_Law_law_625 : decode code 625 = .ok (.iadd, 1) := by decide +kernel
theorem dd_Law_law_626 : decode code 626 = .ok (.iaload, 1) := by decide +kernel
theorem dd_Law_law_627 : decode code 627 = .ok (.i2l, 1) := by decide +kernel
theorem dd_Law_law_628 : decode code 628 = .ok (.bipush 32, 2) := by decide +kernel
theorem dd_Law_law_630 : decode code 630 = .ok (.lshl, 1) := by decide +kernel
theorem dd_Law_law_631 : decode code 631 = .ok (.aload_n 0, 1) := by decide +kernel
theorem dd_Law_law_632 : decode code 632 = .ok (.iload 4, 2) := by decide +kernel
theorem dd_Law_law_634 : decode code 634 = .ok (.iconst 5, 1) := by decide +kernel
theorem dd_Law_law_635 : decode code 635 = .ok (.iadd, 1) := by decide +kernel
theorem dd_Law_law_636 : decode code 636 = .ok (.iaload, 1) := by decide +kernel
theorem dd_Law_law_637 : decode code 637 = .ok (.i2l, 1) := by decide +kernel
theorem dd_Law_law_638 : decode code 638 = .ok (.ldc2_w 66, 3) := by decide +kernel
theorem dd_Law_law_641 : decode code 641 = .ok (.land, 1) := by decide +kernel
theorem dd_Law_law_642 : decode code 642 = .ok (.lor, 1) := by decide +kernel
theorem dd_Law_law_643 : decode code 643 = .ok (.invokevirtual 100, 3) := by decide +kernel
theorem dd_Law_law_646 : decode code 646 = .ok (.aload_n 2, 1) := by decide +kernel
theorem dd_Law_law_647 : decode code 647 = .ok (.invokevirtual 74, 3) := by decide +kernel
theorem dd_Law_law_650 : decode code 650 = .ok (.iload 5, 2) := by decide +kernel
theorem dd_Law_law_652 : decode code 652 = .ok (.if_icmp .eq 5, 3) := by decide +kernel
theorem dd_Law_law_655 : decode code 655 = .ok (.iconst 0, 1) := by decide +kernel
theorem dd_Law_law_656 : decode code 656 = .ok (.ireturn, 1) := by decide +kernel
theorem dd_Law_law_657 : decode code 657 = .ok (.goto 481, 3) := by decide +kernel
theorem dd_Law_law_660 : decode code 660 = .ok (.aload_n 1, 1) := by decide +kernel
theorem dd_Law_law_661 : decode code 661 = .ok (.aload_n 3, 1) := by decide +kernel
theorem dd_Law_law_662 : decode code 662 = .ok (.invokestatic 101, 3) := by decide +kernel
theorem dd_Law_law_665 : decode code 665 = .ok (.istore 5, 2) := by decide +kernel
theorem dd_Law_law_667 : decode code 667 = .ok (.aload_n 2, 1) := by decide +kernel
theorem dd_Law_law_668 : decode code 668 = .ok (.invokevirtual 103, 3) := by decide +kernel
theorem dd_Law_law_671 : decode code 671 = .ok (.istore 6, 2) := by decide +kernel
theorem dd_Law_law_673 : decode code 673 = .ok (.aload_n 2, 1) := by decide +kernel
theorem dd_Law_law_674 : decode code 674 = .ok (.invokevirtual 74, 3) := by decide +kernel
theorem dd_Law_law_677 : decode code 677 = .ok (.iload 5, 2) := by decide +kernel
theorem dd_Law_law_679 : decode code 679 = .ok (.if_icmp .eq 5, 3) := by decide +kernel
theorem dd_Law_law_682 : decode code 682 = .ok (.iconst 0, 1) := by decide +kernel
theorem dd_Law_law_683 : decode code 683 = .ok (.ireturn, 1) := by decide +kernel
theorem dd_Law_law_684 : decode code 684 = .ok (.iload 5, 2) := by decide +kernel
theorem dd_Law_law_686 : decode code 686 = .ok (.ifCond .ne 15, 3) := by decide +kernel
theorem dd_Law_law_689 : decode code 689 = .ok (.aload_n 3, 1) := by decide +kernel
theorem dd_Law_law_690 : decode code 690 = .ok (.iconst 0, 1) := by decide +kernel
theorem dd_Law_law_691 : decode code 691 = .ok (.laload, 1) := by decide +kernel
theorem dd_Law_law_692 : decode code 692 = .ok (.iload 6, 2) := by decide +kernel
theorem dd_Law_law_694 : decode code 694 = .ok (.i2l, 1) := by decide +kernel
theorem dd_Law_law_695 : decode code 695 = .ok (.lcmp, 1) := by decide +kernel
theorem dd_Law_law_696 : decode code 696 = .ok (.ifCond .eq 5, 3) := by decide +kernel
theorem dd_Law_law_699 : decode code 699 = .ok (.iconst 0, 1) := by decide +kernel
theorem dd_Law_law_700 : decode code 700 = .ok (.ireturn, 1) := by decide +kernel
theorem dd_Law_law_701 : decode code 701 = .ok (.goto 437, 3) := by decide +kernel
theorem dd_Law_law_704 : decode code 704 = .ok (.aload_n 1, 1) := by decide +kernel
theorem dd_Law_law_705 : decode code 705 = .ok (.aload_n 0, 1) := by decide +kernel
theorem dd_Law_law_706 : decode code 706 = .ok (.iload 4, 2) := by decide +kernel
theorem dd_Law_law_708 : decode code 708 = .ok (.iconst 1, 1) := by decide +kernel
theorem dd_Law_law_709 : decode code 709 = .ok (.iadd, 1) := by decide +kernel
theorem dd_Law_law_710 : decode code 710 = .ok (.iaload, 1) := by decide +kernel
theorem dd_Law_law_711 : decode code 711 = .ok (.invokevirtual 104, 3) := by decide +kernel
theorem dd_Law_law_714 : decode code 714 = .ok (.aload_n 2, 1) := by decide +kernel
theorem dd_Law_law_715 : decode code 715 = .ok (.aload_n 0, 1) := by decide +kernel
theorem dd_Law_law_716 : decode code 716 = .ok (.iload 4, 2) := by decide +kernel
theorem dd_Law_law_718 : decode code 718 = .ok (.iconst 1, 1) := by decide +kernel
theorem dd_Law_law_719 : decode code 719 = .ok (.iadd, 1) := by decide +kernel
theorem dd_Law_law_720 : decode code 720 = .ok (.iaload, 1) := by decide +kernel
theorem dd_Law_law_721 : decode code 721 = .ok (.invokevirtual 107, 3) := by decide +kernel
theorem dd_Law_law_724 : decode code 724 = .ok (.if_icmp .eq 414, 3) := by decide +kernel
theorem dd_Law_law_727 : decode code 727 = .ok (.iconst 0, 1) := by decide +kernel
theorem dd_Law_law_728 : decode code 728 = .ok (.ireturn, 1) := by decide +kernel
theorem dd_Law_law_729 : decode code 729 = .ok (.aload_n 1, 1) := by decide +kernel
theorem dd_Law_law_730 : decode code 730 = .ok (.aload_n 0, 1) := by decide +kernel
theorem dd_Law_law_731 : decode code 731 = .ok (.iload 4, 2) := by decide +kernel
theorem dd_Law_law_733 : decode code 733 = .ok (.iconst 1, 1) := by decide +kernel
theorem dd_Law_law_734 : decode code 734 = .ok (.iadd, 1) := by decide +kernel
theorem dd_Law_law_735 : decode code 735 = .ok (.iaload, 1) := by decide +kernel
theorem dd_Law_law_736 : decode code 736 = .ok (.aload_n 0, 1) := by decide +kernel
theorem dd_Law_law_737 : decode code 737 = .ok (.iload 4, 2) := by decide +kernel
theorem dd_Law_law_739 : decode code 739 = .ok (.iconst 2, 1) := by decide +kernel
theorem dd_Law_law_740 : decode code 740 = .ok (.iadd, 1) := by decide +kernel
theorem dd_Law_law_741 : decode code 741 = .ok (.iaload, 1) := by decide +kernel
theorem dd_Law_law_742 : decode code 742 = .ok (.i2l, 1) := by decide +kernel
theorem dd_Law_law_743 : decode code 743 = .ok (.bipush 32, 2) := by decide +kernel
theorem dd_Law_law_745 : decode code 745 = .ok (.lshl, 1) := by decide +kernel
theorem dd_Law_law_746 : decode code 746 = .ok (.aload_n 0, 1) := by decide +kernel
theorem dd_Law_law_747 : decode code 747 = .ok (.iload 4, 2) := by decide +kernel
theorem dd_Law_law_749 : decode code 749 = .ok (.iconst 3, 1) := by decide +kernel
theorem dd_Law_law_750 : decode code 750 = .ok (.iadd, 1) := by decide +kernel
theorem dd_Law_law_751 : decode code 751 = .ok (.iaload, 1) := by decide +kernel
theorem dd_Law_law_752 : decode code 752 = .ok (.i2l, 1) := by decide +kernel
theorem dd_Law_law_753 : decode code 753 = .ok (.ldc2_w 66, 3) := by decide +kernel
theorem dd_Law_law_756 : decode code 756 = .ok (.land, 1) := by decide +kernel
theorem dd_Law_law_757 : decode code 757 = .ok (.lor, 1) := by decide +kernel
theorem dd_Law_law_758 : decode code 758 = .ok (.aload_n 3, 1) := by decide +kernel
theorem dd_Law_law_759 : decode code 759 = .ok (.invokestatic 108, 3) := by decide +kernel
theorem dd_Law_law_762 : decode code 762 = .ok (.istore 5, 2) := by decide +kernel
theorem dd_Law_law_764 : decode code 764 = .ok (.aload_n 2, 1) := by decide +kernel
theorem dd_Law_law_765 : decode code 765 = .ok (.aload_n 0, 1) := by decide +kernel
theorem dd_Law_law_766 : decode code 766 = .ok (.iload 4, 2) := by decide +kernel
theorem dd_Law_law_768 : decode code 768 = .ok (.iconst 1, 1) := by decide +kernel
theorem dd_Law_law_769 : decode code 769 = .ok (.iadd, 1) := by decide +kernel
theorem dd_Law_law_770 : decode code 770 = .ok (.iaload, 1) := by decide +kernel
theorem dd_Law_law_771 : decode code 771 = .ok (.aload_n 0, 1) := by decide +kernel
theorem dd_Law_law_772 : decode code 772 = .ok (.iload 4, 2) := by decide +kernel
theorem dd_Law_law_774 : decode code 774 = .ok (.iconst 2, 1) := by decide +kernel
theorem dd_Law_law_775 : decode code 775 = .ok (.iadd, 1) := by decide +kernel
theorem dd_Law_law_776 : decode code 776 = .ok (.iaload, 1) := by decide +kernel
theorem dd_Law_law_777 : decode code 777 = .ok (.i2l, 1) := by decide +kernel
theorem dd_Law_law_778 : decode code 778 = .ok (.bipush 32, 2) := by decide +kernel
theorem dd_Law_law_780 : decode code 780 = .ok (.lshl, 1) := by decide +kernel
theorem dd_Law_law_781 : decode code 781 = .ok (.aload_n 0, 1) := by decide +kernel
theorem dd_Law_law_782 : decode code 782 = .ok (.iload 4, 2) := by decide +kernel
theorem dd_Law_law_784 : decode code 784 = .ok (.iconst 3, 1) := by decide +kernel
theorem dd_Law_law_785 : decode code 785 = .ok (.iadd, 1) := by decide +kernel
theorem dd_Law_law_786 : decode code 786 = .ok (.iaload, 1) := by decide +kernel
theorem dd_Law_law_787 : decode code 787 = .ok (.i2l, 1) := by decide +kernel
theorem dd_Law_law_788 : decode code 788 = .ok (.ldc2_w 66, 3) := by decide +kernel
theorem dd_Law_law_791 : decode code 791 = .ok (.land, 1) := by decide +kernel
theorem dd_Law_law_792 : decode code 792 = .ok (.lor, 1) := by decide +kernel
theorem dd_Law_law_793 : decode code 793 = .ok (.invokevirtual 111, 3) := by decide +kernel
theorem dd_Law_law_796 : decode code 796 = .ok (.istore 6, 2) := by decide +kernel
theorem dd_Law_law_798 : decode code 798 = .ok (.aload_n 2, 1) := by decide +kernel
theorem dd_Law_law_799 : decode code 799 = .ok (.invokevirtual 74, 3) := by decide +kernel
theorem dd_Law_law_802 : decode code 802 = .ok (.iload 5, 2) := by decide +kernel
theorem dd_Law_law_804 : decode code 804 = .ok (.if_icmp .eq 5, 3) := by decide +kernel
theorem dd_Law_law_807 : decode code 807 = .ok (.iconst 0, 1) := by decide +kernel
theorem dd_Law_law_808 : decode code 808 = .ok (.ireturn, 1) := by decide +kernel
theorem dd_Law_law_809 : decode code 809 = .ok (.iload 5, 2) := by decide +kernel
theorem dd_Law_law_811 : decode code 811 = .ok (.ifCond .ne 15, 3) := by decide +kernel
theorem dd_Law_law_814 : decode code 814 = .ok (.aload_n 3, 1) := by decide +kernel
theorem dd_Law_law_815 : decode code 815 = .ok (.iconst 0, 1) := by decide +kernel
theorem dd_Law_law_816 : decode code 816 = .ok (.laload, 1) := by decide +kernel
theorem dd_Law_law_817 : decode code 817 = .ok (.iload 6, 2) := by decide +kernel
theorem dd_Law_law_819 : decode code 819 = .ok (.i2l, 1) := by decide +kernel
theorem dd_Law_law_820 : decode code 820 = .ok (.lcmp, 1) := by decide +kernel
theorem dd_Law_law_821 : decode code 821 = .ok (.ifCond .eq 5, 3) := by decide +kernel
theorem dd_Law_law_824 : decode code 824 = .ok (.iconst 0, 1) := by decide +kernel
theorem dd_Law_law_825 : decode code 825 = .ok (.ireturn, 1) := by decide +kernel
theorem dd_Law_law_826 : decode code 826 = .ok (.goto 312, 3) := by decide +kernel
theorem dd_Law_law_829 : decode code 829 = .ok (.aload_n 1, 1) := by decide +kernel
theorem dd_Law_law_830 : decode code 830 = .ok (.aload_n 0, 1) := by decide +kernel
theorem dd_Law_law_831 : decode code 831 = .ok (.iload 4, 2) := by decide +kernel
theorem dd_Law_law_833 : decode code 833 = .ok (.iconst 1, 1) := by decide +kernel
theorem dd_Law_law_834 : decode code 834 = .ok (.iadd, 1) := by decide +kernel
theorem dd_Law_law_835 : decode code 835 = .ok (.iaload, 1) := by decide +kernel
theorem dd_Law_law_836 : decode code 836 = .ok (.aload_n 0, 1) := by decide +kernel
theorem dd_Law_law_837 : decode code 837 = .ok (.iload 4, 2) := by decide +kernel
theorem dd_Law_law_839 : decode code 839 = .ok (.iconst 2, 1) := by decide +kernel
theorem dd_Law_law_840 : decode code 840 = .ok (.iadd, 1) := by decide +kernel
theorem dd_Law_law_841 : decode code 841 = .ok (.iaload, 1) := by decide +kernel
theorem dd_Law_law_842 : decode code 842 = .ok (.aload_n 0, 1) := by decide +kernel
theorem dd_Law_law_843 : decode code 843 = .ok (.iload 4, 2) := by decide +kernel
theorem dd_Law_law_845 : decode code 845 = .ok (.iconst 3, 1) := by decide +kernel
theorem dd_Law_law_846 : decode code 846 = .ok (.iadd, 1) := by decide +kernel
theorem dd_Law_law_847 : decode code 847 = .ok (.iaload, 1) := by decide +kernel
theorem dd_Law_law_848 : decode code 848 = .ok (.i2l, 1) := by decide +kernel
theorem dd_Law_law_849 : decode code 849 = .ok (.bipush 32, 2) := by decide +kernel
theorem dd_Law_law_851 : decode code 851 = .ok (.lshl, 1) := by decide +kernel
theorem dd_Law_law_852 : decode code 852 = .ok (.aload_n 0, 1) := by decide +kernel
theorem dd_Law_law_853 : decode code 853 = .ok (.iload 4, 2) := by decide +kernel
theorem dd_Law_law_855 : decode code 855 = .ok (.iconst 4, 1) := by decide +kernel
theorem dd_Law_law_856 : decode code 856 = .ok (.iadd, 1) := by decide +kernel
theorem dd_Law_law_857 : decode code 857 = .ok (.iaload, 1) := by decide +kernel
theorem dd_Law_law_858 : decode code 858 = .ok (.i2l, 1) := by decide +kernel
theorem dd_Law_law_859 : decode code 859 = .ok (.ldc2_w 66, 3) := by decide +kernel
theorem dd_Law_law_862 : decode code 862 = .ok (.land, 1) := by decide +kernel
theorem dd_Law_law_863 : decode code 863 = .ok (.lor, 1) := by decide +kernel
theorem dd_Law_law_864 : decode code 864 = .ok (.invokevirtual 112, 3) := by decide +kernel
theorem dd_Law_law_867 : decode code 867 = .ok (.aload_n 2, 1) := by decide +kernel
theorem dd_Law_law_868 : decode code 868 = .ok (.aload_n 0, 1) := by decide +kernel
theorem dd_Law_law_869 : decode code 869 = .ok (.iload 4, 2) := by decide +kernel
theorem dd_Law_law_871 : decode code 871 = .ok (.iconst 1, 1) := by decide +kernel
theorem dd_Law_law_872 : decode code 872 = .ok (.iadd, 1) := by decide +kernel
theorem dd_Law_law_873 : decode code 873 = .ok (.iaload, 1) := by decide +kernel
theorem dd_Law_law_874 : decode code 874 = .ok (.aload_n 0, 1) := by decide +kernel
theorem dd_Law_law_875 : decode code 875 = .ok (.iload 4, 2) := by decide +kernel
theorem dd_Law_law_877 : decode code 877 = .ok (.iconst 2, 1) := by decide +kernel
theorem dd_Law_law_878 : decode code 878 = .ok (.iadd, 1) := by decide +kernel
theorem dd_Law_law_879 : decode code 879 = .ok (.iaload, 1) := by decide +kernel
theorem dd_Law_law_880 : decode code 880 = .ok (.aload_n 0, 1) := by decide +kernel
theorem dd_Law_law_881 : decode code 881 = .ok (.iload 4, 2) := by decide +kernel
theorem dd_Law_law_883 : decode code 883 = .ok (.iconst 3, 1) := by decide +kernel
theorem dd_Law_law_884 : decode code 884 = .ok (.iadd, 1) := by decide +kernel
theorem dd_Law_law_885 : decode code 885 = .ok (.iaload, 1) := by decide +kernel
theorem dd_Law_law_886 : decode code 886 = .ok (.i2l, 1) := by decide +kernel
theorem dd_Law_law_887 : decode code 887 = .ok (.bipush 32, 2) := by decide +kernel
theorem dd_Law_law_889 : decode code 889 = .ok (.lshl, 1) := by decide +kernel
theorem dd_Law_law_890 : decode code 890 = .ok (.aload_n 0, 1) := by decide +kernel
theorem dd_Law_law_891 : decode code 891 = .ok (.iload 4, 2) := by decide +kernel
theorem dd_Law_law_893 : decode code 893 = .ok (.iconst 4, 1) := by decide +kernel
theorem dd_Law_law_894 : decode code 894 = .ok (.iadd, 1) := by decide +kernel
theorem dd_Law_law_895 : decode code 895 = .ok (.iaload, 1) := by decide +kernel
theorem dd_Law_law_896 : decode code 896 = .ok (.i2l, 1) := by decide +kernel
theorem dd_Law_law_897 : decode code 897 = .ok (.ldc2_w 66, 3) := by decide +kernel
theorem dd_Law_law_900 : decode code 900 = .ok (.land, 1) := by decide +kernel
theorem dd_Law_law_901 : decode code 901 = .ok (.lor, 1) := by decide +kernel
theorem dd_Law_law_902 : decode code 902 = .ok (.invokevirtual 116, 3) := by decide +kernel
theorem dd_Law_law_905 : decode code 905 = .ok (.if_icmp .eq 233, 3) := by decide +kernel
theorem dd_Law_law_908 : decode code 908 = .ok (.iconst 0, 1) := by decide +kernel
theorem dd_Law_law_909 : decode code 909 = .ok (.ireturn, 1) := by decide +kernel
theorem dd_Law_law_910 : decode code 910 = .ok (.aload_n 1, 1) := by decide +kernel
theorem dd_Law_law_911 : decode code 911 = .ok (.aload_n 0, 1) := by decide +kernel
theorem dd_Law_law_912 : decode code 912 = .ok (.iload 4, 2) := by decide +kernel
theorem dd_Law_law_914 : decode code 914 = .ok (.iconst 1, 1) := by decide +kernel
theorem dd_Law_law_915 : decode code 915 = .ok (.iadd, 1) := by decide +kernel
theorem dd_Law_law_916 : decode code 916 = .ok (.iaload, 1) := by decide +kernel
theorem dd_Law_law_917 : decode code 917 = .ok (.aload_n 0, 1) := by decide +kernel
theorem dd_Law_law_918 : decode code 918 = .ok (.iload 4, 2) := by decide +kernel
theorem dd_Law_law_920 : decode code 920 = .ok (.iconst 2, 1) := by decide +kernel
theorem dd_Law_law_921 : decode code 921 = .ok (.iadd, 1) := by decide +kernel
theorem dd_Law_law_922 : decode code 922 = .ok (.iaload, 1) := by decide +kernel
theorem dd_Law_law_923 : decode code 923 = .ok (.aload_n 3, 1) := by decide +kernel
theorem dd_Law_law_924 : decode code 924 = .ok (.invokestatic 117, 3) := by decide +kernel
theorem dd_Law_law_927 : decode code 927 = .ok (.istore 5, 2) := by decide +kernel
theorem dd_Law_law_929 : decode code 929 = .ok (.aload_n 2, 1) := by decide +kernel
theorem dd_Law_law_930 : decode code 930 = .ok (.aload_n 0, 1) := by decide +kernel
theorem dd_Law_law_931 : decode code 931 = .ok (.iload 4, 2) := by decide +kernel
theorem dd_Law_law_933 : decode code 933 = .ok (.iconst 1, 1) := by decide +kernel
theorem dd_Law_law_934 : decode code 934 = .ok (.iadd, 1) := by decide +kernel
theorem dd_Law_law_935 : decode code 935 = .ok (.iaload, 1) := by decide +kernel
theorem dd_Law_law_936 : decode code 936 = .ok (.aload_n 0, 1) := by decide +kernel
theorem dd_Law_law_937 : decode code 937 = .ok (.iload 4, 2) := by decide +kernel
theorem dd_Law_law_939 : decode code 939 = .ok (.iconst 2, 1) := by decide +kernel
theorem dd_Law_law_940 : decode code 940 = .ok (.iadd, 1) := by decide +kernel
theorem dd_Law_law_941 : decode code 941 = .ok (.iaload, 1) := by decide +kernel
theorem dd_Law_law_942 : decode code 942 = .ok (.invokevirtual 119, 3) := by decide +kernel
theorem dd_Law_law_945 : decode code 945 = .ok (.istore 6, 2) := by decide +kernel
theorem dd_Law_law_947 : decode code 947 = .ok (.aload_n 2, 1) := by decide +kernel
theorem dd_Law_law_948 : decode code 948 = .ok (.invokevirtual 74, 3) := by decide +kernel
theorem dd_Law_law_951 : decode code 951 = .ok (.iload 5, 2) := by decide +kernel
theorem dd_Law_law_953 : decode code 953 = .ok (.if_icmp .eq 5, 3) := by decide +kernel
theorem dd_Law_law_956 : decode code 956 = .ok (.iconst 0, 1) := by decide +kernel
theorem dd_Law_law_957 : decode code 957 = .ok (.ireturn, 1) := by decide +kernel
theorem dd_Law_law_958 : decode code 958 = .ok (.iload 5, 2) := by decide +kernel
theorem dd_Law_law_960 : decode code 960 = .ok (.ifCond .ne 15, 3) := by decide +kernel
theorem dd_Law_law_963 : decode code 963 = .ok (.aload_n 3, 1) := by decide +kernel
theorem dd_Law_law_964 : decode code 964 = .ok (.iconst 0, 1) := by decide +kernel
theorem dd_Law_law_965 : decode code 965 = .ok (.laload, 1) := by decide +kernel
theorem dd_Law_law_966 : decode code 966 = .ok (.iload 6, 2) := by decide +kernel
theorem dd_Law_law_968 : decode code 968 = .ok (.i2l, 1) := by decide +kernel
theorem dd_Law_law_969 : decode code 969 = .ok (.lcmp, 1) := by decide +kernel
theorem dd_Law_law_970 : decode code 970 = .ok (.ifCond .eq 5, 3) := by decide +kernel
theorem dd_Law_law_973 : decode code 973 = .ok (.iconst 0, 1) := by decide +kernel
theorem dd_Law_law_974 : decode code 974 = .ok (.ireturn, 1) := by decide +kernel
theorem dd_Law_law_975 : decode code 975 = .ok (.goto 163, 3) := by decide +kernel
theorem dd_Law_law_978 : decode code 978 = .ok (.aload_n 1, 1) := by decide +kernel
theorem dd_Law_law_979 : decode code 979 = .ok (.aload_n 0, 1) := by decide +kernel
theorem dd_Law_law_980 : decode code 980 = .ok (.iload 4, 2) := by decide +kernel
theorem dd_Law_law_982 : decode code 982 = .ok (.iconst 1, 1) := by decide +kernel
theorem dd_Law_law_983 : decode code 983 = .ok (.iadd, 1) := by decide +kernel
theorem dd_Law_law_984 : decode code 984 = .ok (.iaload, 1) := by decide +kernel
theorem dd_Law_law_985 : decode code 985 = .ok (.aload_n 0, 1) := by decide +kernel
theorem dd_Law_law_986 : decode code 986 = .ok (.iload 4, 2) := by decide +kernel
theorem dd_Law_law_988 : decode code 988 = .ok (.iconst 2, 1) := by decide +kernel
theorem dd_Law_law_989 : decode code 989 = .ok (.iadd, 1) := by decide +kernel
theorem dd_Law_law_990 : decode code 990 = .ok (.iaload, 1) := by decide +kernel
theorem dd_Law_law_991 : decode code 991 = .ok (.aload_n 3, 1) := by decide +kernel
theorem dd_Law_law_992 : decode code 992 = .ok (.invokestatic 120, 3) := by decide +kernel
theorem dd_Law_law_995 : decode code 995 = .ok (.istore 5, 2) := by decide +kernel
theorem dd_Law_law_997 : decode code 997 = .ok (.aload_n 2, 1) := by decide +kernel
theorem dd_Law_law_998 : decode code 998 = .ok (.aload_n 0, 1) := by decide +kernel
theorem dd_Law_law_999 : decode code 999 = .ok (.iload 4, 2) := by decide +kernel
theorem dd_Law_law_1001 : decode code 1001 = .ok (.iconst 1, 1) := by decide +kernel
theorem dd_Law_law_1002 : decode code 1002 = .ok (.iadd, 1) := by decide +kernel
theorem dd_Law_law_1003 : decode code 1003 = .ok (.iaload, 1) := by decide +kernel
theorem dd_Law_law_1004 : decode code 1004 = .ok (.aload_n 0, 1) := by decide +kernel
theorem dd_Law_law_1005 : decode code 1005 = .ok (.iload 4, 2) := by decide +kernel
theorem dd_Law_law_1007 : decode code 1007 = .ok (.iconst 2, 1) := by decide +kernel
theorem dd_Law_law_1008 : decode code 1008 = .ok (.iadd, 1) := by decide +kernel
theorem dd_Law_law_1009 : decode code 1009 = .ok (.iaload, 1) := by decide +kernel
theorem dd_Law_law_1010 : decode code 1010 = .ok (.invokevirtual 122, 3) := by decide +kernel
theorem dd_Law_law_1013 : decode code 1013 = .ok (.lstore 6, 2) := by decide +kernel
theorem dd_Law_law_1015 : decode code 1015 = .ok (.aload_n 2, 1) := by decide +kernel
theorem dd_Law_law_1016 : decode code 1016 = .ok (.invokevirtual 74, 3) := by decide +kernel
theorem dd_Law_law_1019 : decode code 1019 = .ok (.iload 5, 2) := by decide +kernel
theorem dd_Law_law_1021 : decode code 1021 = .ok (.if_icmp .eq 5, 3) := by decide +kernel
theorem dd_Law_law_1024 : decode code 1024 = .ok (.iconst 0, 1) := by decide +kernel
theorem dd_Law_law_1025 : decode code 1025 = .ok (.ireturn, 1) := by decide +kernel
theorem dd_Law_law_1026 : decode code 1026 = .ok (.iload 5, 2) := by decide +kernel
theorem dd_Law_law_1028 : decode code 1028 = .ok (.ifCond .ne 14, 3) := by decide +kernel
theorem dd_Law_law_1031 : decode code 1031 = .ok (.aload_n 3, 1) := by decide +kernel
theorem dd_Law_law_1032 : decode code 1032 = .ok (.iconst 0, 1) := by decide +kernel
theorem dd_Law_law_1033 : decode code 1033 = .ok (.laload, 1) := by decide +kernel
theorem dd_Law_law_1034 : decode code 1034 = .ok (.lload 6, 2) := by decide +kernel
theorem dd_Law_law_1036 : decode code 1036 = .ok (.lcmp, 1) := by decide +kernel
theorem dd_Law_law_1037 : decode code 1037 = .ok (.ifCond .eq 5, 3) := by decide +kernel
theorem dd_Law_law_1040 : decode code 1040 = .ok (.iconst 0, 1) := by decide +kernel
theorem dd_Law_law_1041 : decode code 1041 = .ok (.ireturn, 1) := by decide +kernel
theorem dd_Law_law_1042 : decode code 1042 = .ok (.goto 96, 3) := by decide +kernel
theorem dd_Law_law_1045 : decode code 1045 = .ok (.aload_n 1, 1) := by decide +kernel
theorem dd_Law_law_1046 : decode code 1046 = .ok (.aload_n 0, 1) := by decide +kernel
theorem dd_Law_law_1047 : decode code 1047 = .ok (.iload 4, 2) := by decide +kernel
theorem dd_Law_law_1049 : decode code 1049 = .ok (.iconst 1, 1) := by decide +kernel
theorem dd_Law_law_1050 : decode code 1050 = .ok (.iadd, 1) := by decide +kernel
theorem dd_Law_law_1051 : decode code 1051 = .ok (.iaload, 1) := by decide +kernel
theorem dd_Law_law_1052 : decode code 1052 = .ok (.aload_n 0, 1) := by decide +kernel
theorem dd_Law_law_1053 : decode code 1053 = .ok (.iload 4, 2) := by decide +kernel
theorem dd_Law_law_1055 : decode code 1055 = .ok (.iconst 2, 1) := by decide +kernel
theorem dd_Law_law_1056 : decode code 1056 = .ok (.iadd, 1) := by decide +kernel
theorem dd_Law_law_1057 : decode code 1057 = .ok (.iaload, 1) := by decide +kernel
theorem dd_Law_law_1058 : decode code 1058 = .ok (.aload_n 3, 1) := by decide +kernel
theorem dd_Law_law_1059 : decode code 1059 = .ok (.invokestatic 123, 3) := by decide +kernel
theorem dd_Law_law_1062 : decode code 1062 = .ok (.istore 5, 2) := by decide +kernel
theorem dd_Law_law_1064 : decode code 1064 = .ok (.aload_n 2, 1) := by decide +kernel
theorem dd_Law_law_1065 : decode code 1065 = .ok (.aload_n 0, 1) := by decide +kernel
theorem dd_Law_law_1066 : decode code 1066 = .ok (.iload 4, 2) := by decide +kernel
theorem dd_Law_law_1068 : decode code 1068 = .ok (.iconst 1, 1) := by decide +kernel
theorem dd_Law_law_1069 : decode code 1069 = .ok (.iadd, 1) := by decide +kernel
theorem dd_Law_law_1070 : decode code 1070 = .ok (.iaload, 1) := by decide +kernel
theorem dd_Law_law_1071 : decode code 1071 = .ok (.aload_n 0, 1) := by decide +kernel
theorem dd_Law_law_1072 : decode code 1072 = .ok (.iload 4, 2) := by decide +kernel
theorem dd_Law_law_1074 : decode code 1074 = .ok (.iconst 2, 1) := by decide +kernel
theorem dd_Law_law_1075 : decode code 1075 = .ok (.iadd, 1) := by decide +kernel
theorem dd_Law_law_1076 : decode code 1076 = .ok (.iaload, 1) := by decide +kernel
theorem dd_Law_law_1077 : decode code 1077 = .ok (.invokevirtual 125, 3) := by decide +kernel
theorem dd_Law_law_1080 : decode code 1080 = .ok (.istore 6, 2) := by decide +kernel
theorem dd_Law_law_1082 : decode code 1082 = .ok (.aload_n 2, 1) := by decide +kernel
theorem dd_Law_law_1083 : decode code 1083 = .ok (.invokevirtual 74, 3) := by decide +kernel
theorem dd_Law_law_1086 : decode code 1086 = .ok (.iload 5, 2) := by decide +kernel
theorem dd_Law_law_1088 : decode code 1088 = .ok (.if_icmp .eq 5, 3) := by decide +kernel
theorem dd_Law_law_1091 : decode code 1091 = .ok (.iconst 0, 1) := by decide +kernel
theorem dd_Law_law_1092 : decode code 1092 = .ok (.ireturn, 1) := by decide +kernel
theorem dd_Law_law_1093 : decode code 1093 = .ok (.iload 5, 2) := by decide +kernel
theorem dd_Law_law_1095 : decode code 1095 = .ok (.ifCond .ne 15, 3) := by decide +kernel
theorem dd_Law_law_1098 : decode code 1098 = .ok (.aload_n 3, 1) := by decide +kernel
theorem dd_Law_law_1099 : decode code 1099 = .ok (.iconst 0, 1) := by decide +kernel
theorem dd_Law_law_1100 : decode code 1100 = .ok (.laload, 1) := by decide +kernel
theorem dd_Law_law_1101 : decode code 1101 = .ok (.iload 6, 2) := by decide +kernel
theorem dd_Law_law_1103 : decode code 1103 = .ok (.i2l, 1) := by decide +kernel
theorem dd_Law_law_1104 : decode code 1104 = .ok (.lcmp, 1) := by decide +kernel
theorem dd_Law_law_1105 : decode code 1105 = .ok (.ifCond .eq 5, 3) := by decide +kernel
theorem dd_Law_law_1108 : decode code 1108 = .ok (.iconst 0, 1) := by decide +kernel
theorem dd_Law_law_1109 : decode code 1109 = .ok (.ireturn, 1) := by decide +kernel
theorem dd_Law_law_1110 : decode code 1110 = .ok (.goto 28, 3) := by decide +kernel
theorem dd_Law_law_1113 : decode code 1113 = .ok (.aload_n 1, 1) := by decide +kernel
theorem dd_Law_law_1114 : decode code 1114 = .ok (.aload_n 0, 1) := by decide +kernel
theorem dd_Law_law_1115 : decode code 1115 = .ok (.iload 4, 2) := by decide +kernel
theorem dd_Law_law_1117 : decode code 1117 = .ok (.iconst 1, 1) := by decide +kernel
theorem dd_Law_law_1118 : decode code 1118 = .ok (.iadd, 1) := by decide +kernel
theorem dd_Law_law_1119 : decode code 1119 = .ok (.iaload, 1) := by decide +kernel
theorem dd_Law_law_1120 : decode code 1120 = .ok (.invokevirtual 126, 3) := by decide +kernel
theorem dd_Law_law_1123 : decode code 1123 = .ok (.aload_n 2, 1) := by decide +kernel
theorem dd_Law_law_1124 : decode code 1124 = .ok (.aload_n 0, 1) := by decide +kernel
theorem dd_Law_law_1125 : decode code 1125 = .ok (.iload 4, 2) := by decide +kernel
theorem dd_Law_law_1127 : decode code 1127 = .ok (.iconst 1, 1) := by decide +kernel
theorem dd_Law_law_1128 : decode code 1128 = .ok (.iadd, 1) := by decide +kernel
theorem dd_Law_law_1129 : decode code 1129 = .ok (.iaload, 1) := by decide +kernel
theorem dd_Law_law_1130 : decode code 1130 = .ok (.invokevirtual 129, 3) := by decide +kernel
theorem dd_Law_law_1133 : decode code 1133 = .ok (.if_icmp .eq 5, 3) := by decide +kernel
theorem dd_Law_law_1136 : decode code 1136 = .ok (.iconst 0, 1) := by decide +kernel
theorem dd_Law_law_1137 : decode code 1137 = .ok (.ireturn, 1) := by decide +kernel
theorem dd_Law_law_1138 : decode code 1138 = .ok (.iinc 4 6, 3) := by decide +kernel
theorem dd_Law_law_1141 : decode code 1141 = .ok (.goto (-1118), 3) := by decide +kernel
theorem dd_Law_law_1144 : decode code 1144 = .ok (.iconst 1, 1) := by decide +kernel
theorem dd_Law_law_1145 : decode code 1145 = .ok (.ireturn, 1) := by decide +kernel
