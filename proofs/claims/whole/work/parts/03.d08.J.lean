theorem d_JStringUTF16_newBytesFor_0 : decode b_JStringUTF16_newBytesFor 0 = .ok (.iload_n 0, 1) := by decide +kernel
theorem d_JStringUTF16_newBytesFor_1 : decode b_JStringUTF16_newBytesFor 1 = .ok (.invokestatic 11, 3) := by decide +kernel
theorem d_JStringUTF16_newBytesFor_4 : decode b_JStringUTF16_newBytesFor 4 = .ok (.newarray .byte, 2) := by decide +kernel
theorem d_JStringUTF16_newBytesFor_6 : decode b_JStringUTF16_newBytesFor 6 = .ok (.areturn, 1) := by decide +kernel
theorem d_JStringUTF16_newBytesLength_0 : decode b_JStringUTF16_newBytesLength 0 = .ok (.iload_n 0, 1) := by decide +kernel
theorem d_JStringUTF16_newBytesLength_1 : decode b_JStringUTF16_newBytesLength 1 = .ok (.ifCond .ge 11, 3) := by decide +kernel
theorem d_JStringUTF16_newBytesLength_4 : decode b_JStringUTF16_newBytesLength 4 = .ok (.new 17, 3) := by decide +kernel
theorem d_JStringUTF16_newBytesLength_7 : decode b_JStringUTF16_newBytesLength 7 = .ok (.dup, 1) := by decide +kernel
theorem d_JStringUTF16_newBytesLength_8 : decode b_JStringUTF16_newBytesLength 8 = .ok (.invokespecial 19, 3) := by decide +kernel
theorem d_JStringUTF16_newBytesLength_11 : decode b_JStringUTF16_newBytesLength 11 = .ok (.athrow, 1) := by decide +kernel
theorem d_JStringUTF16_newBytesLength_12 : decode b_JStringUTF16_newBytesLength 12 = .ok (.iload_n 0, 1) := by decide +kernel
theorem d_JStringUTF16_newBytesLength_13 : decode b_JStringUTF16_newBytesLength 13 = .ok (.ldc 20, 2) := by decide +kernel
theorem d_JStringUTF16_newBytesLength_15 : decode b_JStringUTF16_newBytesLength 15 = .ok (.if_icmp .lt 40, 3) := by decide +kernel
theorem d_JStringUTF16_newBytesLength_18 : decode b_JStringUTF16_newBytesLength 18 = .ok (.new 21, 3) := by decide +kernel
theorem d_JStringUTF16_newBytesLength_21 : decode b_JStringUTF16_newBytesLength 21 = .ok (.dup, 1) := by decide +kernel
theorem d_JStringUTF16_newBytesLength_22 : decode b_JStringUTF16_newBytesLength 22 = .ok (.new 23, 3) := by decide +kernel
theorem d_JStringUTF16_newBytesLength_25 : decode b_JStringUTF16_newBytesLength 25 = .ok (.dup, 1) := by decide +kernel
theorem d_JStringUTF16_newBytesLength_26 : decode b_JStringUTF16_newBytesLength 26 = .ok (.invokespecial 25, 3) := by decide +kernel
theorem d_JStringUTF16_newBytesLength_29 : decode b_JStringUTF16_newBytesLength 29 = .ok (.ldc 26, 2) := by decide +kernel
theorem d_JStringUTF16_newBytesLength_31 : decode b_JStringUTF16_newBytesLength 31 = .ok (.invokevirtual 28, 3) := by decide +kernel
theorem d_JStringUTF16_newBytesLength_34 : decode b_JStringUTF16_newBytesLength 34 = .ok (.iload_n 0, 1) := by decide +kernel
theorem d_JStringUTF16_newBytesLength_35 : decode b_JStringUTF16_newBytesLength 35 = .ok (.invokevirtual 32, 3) := by decide +kernel
theorem d_JStringUTF16_newBytesLength_38 : decode b_JStringUTF16_newBytesLength 38 = .ok (.ldc 35, 2) := by decide +kernel
theorem d_JStringUTF16_newBytesLength_40 : decode b_JStringUTF16_newBytesLength 40 = .ok (.invokevirtual 28, 3) := by decide +kernel
theorem d_JStringUTF16_newBytesLength_43 : decode b_JStringUTF16_newBytesLength 43 = .ok (.ldc 20, 2) := by decide +kernel
theorem d_JStringUTF16_newBytesLength_45 : decode b_JStringUTF16_newBytesLength 45 = .ok (.invokevirtual 32, 3) := by decide +kernel
theorem d_JStringUTF16_newBytesLength_48 : decode b_JStringUTF16_newBytesLength 48 = .ok (.invokevirtual 37, 3) := by decide +kernel
theorem d_JStringUTF16_newBytesLength_51 : decode b_JStringUTF16_newBytesLength 51 = .ok (.invokespecial 41, 3) := by decide +kernel
theorem d_JStringUTF16_newBytesLength_54 : decode b_JStringUTF16_newBytesLength 54 = .ok (.athrow, 1) := by decide +kernel
theorem d_JStringUTF16_newBytesLength_55 : decode b_JStringUTF16_newBytesLength 55 = .ok (.iload_n 0, 1) := by decide +kernel
theorem d_JStringUTF16_newBytesLength_56 : decode b_JStringUTF16_newBytesLength 56 = .ok (.iconst 1, 1) := by decide +kernel
theorem d_JStringUTF16_newBytesLength_57 : decode b_JStringUTF16_newBytesLength 57 = .ok (.ishl, 1) := by decide +kernel
theorem d_JStringUTF16_newBytesLength_58 : decode b_JStringUTF16_newBytesLength 58 = .ok (.ireturn, 1) := by decide +kernel
theorem d_JMath_abs_0 : decode b_JMath_abs 0 = .ok (.iload_n 0, 1) := by decide +kernel
theorem d_JMath_abs_1 : decode b_JMath_abs 1 = .ok (.ifCond .ge 8, 3) := by decide +kernel
theorem d_JMath_abs_4 : decode b_JMath_abs 4 = .ok (.iload_n 0, 1) := by decide +kernel
theorem d_JMath_abs_5 : decode b_JMath_abs 5 = .ok (.ineg, 1) := by decide +kernel
theorem d_JMath_abs_6 : decode b_JMath_abs 6 = .ok (.goto 4, 3) := by decide +kernel
theorem d_JMath_abs_9 : decode b_JMath_abs 9 = .ok (.iload_n 0, 1) := by decide +kernel
theorem d_JMath_abs_10 : decode b_JMath_abs 10 = .ok (.ireturn, 1) := by decide +kernel
theorem d_JMath_floorDiv_0 : decode b_JMath_floorDiv 0 = .ok (.lload_n 0, 1) := by decide +kernel
theorem d_JMath_floorDiv_1 : decode b_JMath_floorDiv 1 = .ok (.lload_n 2, 1) := by decide +kernel
theorem d_JMath_floorDiv_2 : decode b_JMath_floorDiv 2 = .ok (.ldiv, 1) := by decide +kernel
theorem d_JMath_floorDiv_3 : decode b_JMath_floorDiv 3 = .ok (.lstore 4, 2) := by decide +kernel
theorem d_JMath_floorDiv_5 : decode b_JMath_floorDiv 5 = .ok (.lload_n 0, 1) := by decide +kernel
theorem d_JMath_floorDiv_6 : decode b_JMath_floorDiv 6 = .ok (.lload_n 2, 1) := by decide +kernel
theorem d_JMath_floorDiv_7 : decode b_JMath_floorDiv 7 = .ok (.lxor, 1) := by decide +kernel
theorem d_JMath_floorDiv_8 : decode b_JMath_floorDiv 8 = .ok (.lconst 0, 1) := by decide +kernel
theorem d_JMath_floorDiv_9 : decode b_JMath_floorDiv 9 = .ok (.lcmp, 1) := by decide +kernel
theorem d_JMath_floorDiv_10 : decode b_JMath_floorDiv 10 = .ok (.ifCond .ge 17, 3) := by decide +kernel
theorem d_JMath_floorDiv_13 : decode b_JMath_floorDiv 13 = .ok (.lload 4, 2) := by decide +kernel
theorem d_JMath_floorDiv_15 : decode b_JMath_floorDiv 15 = .ok (.lload_n 2, 1) := by decide +kernel
theorem d_JMath_floorDiv_16 : decode b_JMath_floorDiv 16 = .ok (.lmul, 1) := by decide +kernel
theorem d_JMath_floorDiv_17 : decode b_JMath_floorDiv 17 = .ok (.lload_n 0, 1) := by decide +kernel
theorem d_JMath_floorDiv_18 : decode b_JMath_floorDiv 18 = .ok (.lcmp, 1) := by decide +kernel
theorem d_JMath_floorDiv_19 : decode b_JMath_floorDiv 19 = .ok (.ifCond .eq 8, 3) := by decide +kernel
theorem d_JMath_floorDiv_22 : decode b_JMath_floorDiv 22 = .ok (.lload 4, 2) := by decide +kernel
theorem d_JMath_floorDiv_24 : decode b_JMath_floorDiv 24 = .ok (.lconst 1, 1) := by decide +kernel
theorem d_JMath_floorDiv_25 : decode b_JMath_floorDiv 25 = .ok (.lsub, 1) := by decide +kernel
theorem d_JMath_floorDiv_26 : decode b_JMath_floorDiv 26 = .ok (.lreturn, 1) := by decide +kernel
theorem d_JMath_floorDiv_27 : decode b_JMath_floorDiv 27 = .ok (.lload 4, 2) := by decide +kernel
theorem d_JMath_floorDiv_29 : decode b_JMath_floorDiv 29 = .ok (.lreturn, 1) := by decide +kernel
theorem d_JMath_max1_0 : decode b_JMath_max1 0 = .ok (.iload_n 0, 1) := by decide +kernel
theorem d_JMath_max1_1 : decode b_JMath_max1 1 = .ok (.iload_n 1, 1) := by decide +kernel
theorem d_JMath_max1_2 : decode b_JMath_max1 2 = .ok (.if_icmp .lt 7, 3) := by decide +kernel
theorem d_JMath_max1_5 : decode b_JMath_max1 5 = .ok (.iload_n 0, 1) := by decide +kernel
theorem d_JMath_max1_6 : decode b_JMath_max1 6 = .ok (.goto 4, 3) := by decide +kernel
theorem d_JMath_max1_9 : decode b_JMath_max1 9 = .ok (.iload_n 1, 1) := by decide +kernel
theorem d_JMath_max1_10 : decode b_JMath_max1 10 = .ok (.ireturn, 1) := by decide +kernel
theorem d_JString_length_0 : decode b_JString_length 0 = .ok (.aload_n 0, 1) := by decide +kernel
theorem d_JString_length_1 : decode b_JString_length 1 = .ok (.getfield 9, 3) := by decide +kernel
theorem d_JString_length_4 : decode b_JString_length 4 = .ok (.arraylength, 1) := by decide +kernel
theorem d_JString_length_5 : decode b_JString_length 5 = .ok (.aload_n 0, 1) := by decide +kernel
theorem d_JString_length_6 : decode b_JString_length 6 = .ok (.invokevirtual 335, 3) := by decide +kernel
theorem d_JString_length_9 : decode b_JString_length 9 = .ok (.ishr, 1) := by decide +kernel
theorem d_JString_length_10 : decode b_JString_length 10 = .ok (.ireturn, 1) := by decide +kernel
theorem d_JString_coder_0 : decode b_JString_coder 0 = .ok (.getstatic 38, 3) := by decide +kernel
theorem d_JString_coder_3 : decode b_JString_coder 3 = .ok (.ifCond .eq 10, 3) := by decide +kernel
theorem d_JString_coder_6 : decode b_JString_coder 6 = .ok (.aload_n 0, 1) := by decide +kernel
theorem d_JString_coder_7 : decode b_JString_coder 7 = .ok (.getfield 15, 3) := by decide +kernel
theorem d_JString_coder_10 : decode b_JString_coder 10 = .ok (.goto 4, 3) := by decide +kernel
theorem d_JString_coder_13 : decode b_JString_coder 13 = .ok (.iconst 1, 1) := by decide +kernel
theorem d_JString_coder_14 : decode b_JString_coder 14 = .ok (.ireturn, 1) := by decide +kernel
theorem d_JString_charAt_0 : decode b_JString_charAt 0 = .ok (.aload_n 0, 1) := by decide +kernel
theorem d_JString_charAt_1 : decode b_JString_charAt 1 = .ok (.invokevirtual 492, 3) := by decide +kernel
theorem d_JString_charAt_4 : decode b_JString_charAt 4 = .ok (.ifCond .eq 12, 3) := by decide +kernel
theorem d_JString_charAt_7 : decode b_JString_charAt 7 = .ok (.aload_n 0, 1) := by decide +kernel
theorem d_JString_charAt_8 : decode b_JString_charAt 8 = .ok (.getfield 9, 3) := by decide +kernel
theorem d_JString_charAt_11 : decode b_JString_charAt 11 = .ok (.iload_n 1, 1) := by decide +kernel
theorem d_JString_charAt_12 : decode b_JString_charAt 12 = .ok (.invokestatic 495, 3) := by decide +kernel
theorem d_JString_charAt_15 : decode b_JString_charAt 15 = .ok (.ireturn, 1) := by decide +kernel
theorem d_JString_charAt_16 : decode b_JString_charAt 16 = .ok (.aload_n 0, 1) := by decide +kernel
theorem d_JString_charAt_17 : decode b_JString_charAt 17 = .ok (.getfield 9, 3) := by decide +kernel
theorem d_JString_charAt_20 : decode b_JString_charAt 20 = .ok (.iload_n 1, 1) := by decide +kernel
theorem d_JString_charAt_21 : decode b_JString_charAt 21 = .ok (.invokestatic 498, 3) := by decide +kernel
theorem d_JString_charAt_24 : decode b_JString_charAt 24 = .ok (.ireturn, 1) := by decide +kernel
theorem d_JString_isLatin1_0 : decode b_JString_isLatin1 0 = .ok (.getstatic 38, 3) := by decide +kernel
theorem d_JString_isLatin1_3 : decode b_JString_isLatin1 3 = .ok (.ifCond .eq 14, 3) := by decide +kernel
theorem d_JString_isLatin1_6 : decode b_JString_isLatin1 6 = .ok (.aload_n 0, 1) := by decide +kernel
theorem d_JString_isLatin1_7 : decode b_JString_isLatin1 7 = .ok (.getfield 15, 3) := by decide +kernel
theorem d_JString_isLatin1_10 : decode b_JString_isLatin1 10 = .ok (.ifCond .ne 7, 3) := by decide +kernel
theorem d_JString_isLatin1_13 : decode b_JString_isLatin1 13 = .ok (.iconst 1, 1) := by decide +kernel
theorem d_JString_isLatin1_14 : decode b_JString_isLatin1 14 = .ok (.goto 4, 3) := by decide +kernel
theorem d_JString_isLatin1_17 : decode b_JString_isLatin1 17 = .ok (.iconst 0, 1) := by decide +kernel
theorem d_JString_isLatin1_18 : decode b_JString_isLatin1 18 = .ok (.ireturn, 1) := by decide +kernel
theorem d_JStringLatin1_charAt_0 : decode b_JStringLatin1_charAt 0 = .ok (.iload_n 1, 1) := by decide +kernel
theorem d_JStringLatin1_charAt_1 : decode b_JStringLatin1_charAt 1 = .ok (.aload_n 0, 1) := by decide +kernel
theorem d_JStringLatin1_charAt_2 : decode b_JStringLatin1_charAt 2 = .ok (.arraylength, 1) := by decide +kernel
theorem d_JStringLatin1_charAt_3 : decode b_JStringLatin1_charAt 3 = .ok (.invokestatic 9, 3) := by decide +kernel
theorem d_JStringLatin1_charAt_6 : decode b_JStringLatin1_charAt 6 = .ok (.aload_n 0, 1) := by decide +kernel
theorem d_JStringLatin1_charAt_7 : decode b_JStringLatin1_charAt 7 = .ok (.iload_n 1, 1) := by decide +kernel
theorem d_JStringLatin1_charAt_8 : decode b_JStringLatin1_charAt 8 = .ok (.baload, 1) := by decide +kernel
theorem d_JStringLatin1_charAt_9 : decode b_JStringLatin1_charAt 9 = .ok (.sipush 255, 3) := by decide +kernel
theorem d_JStringLatin1_charAt_12 : decode b_JStringLatin1_charAt 12 = .ok (.iand, 1) := by decide +kernel
theorem d_JStringLatin1_charAt_13 : decode b_JStringLatin1_charAt 13 = .ok (.i2c, 1) := by decide +kernel
theorem d_JStringLatin1_charAt_14 : decode b_JStringLatin1_charAt 14 = .ok (.ireturn, 1) := by decide +kernel
theorem d_JString_checkIndex_0 : decode b_JString_checkIndex 0 = .ok (.iload_n 0, 1) := by decide +kernel
theorem d_JString_checkIndex_1 : decode b_JString_checkIndex 1 = .ok (.iload_n 1, 1) := by decide +kernel
theorem d_JString_checkIndex_2 : decode b_JString_checkIndex 2 = .ok (.getstatic 1053, 3) := by decide +kernel
theorem d_JString_checkIndex_5 : decode b_JString_checkIndex 5 = .ok (.invokestatic 1059, 3) := by decide +kernel
theorem d_JString_checkIndex_8 : decode b_JString_checkIndex 8 = .ok (.pop, 1) := by decide +kernel
theorem d_JString_checkIndex_9 : decode b_JString_checkIndex 9 = .ok (.return_, 1) := by decide +kernel
theorem d_JPreconditions_checkIndex_0 : decode b_JPreconditions_checkIndex 0 = .ok (.iload_n 0, 1) := by decide +kernel
theorem d_JPreconditions_checkIndex_1 : decode b_JPreconditions_checkIndex 1 = .ok (.ifCond .lt 8, 3) := by decide +kernel
theorem d_JPreconditions_checkIndex_4 : decode b_JPreconditions_checkIndex 4 = .ok (.iload_n 0, 1) := by decide +kernel
theorem d_JPreconditions_checkIndex_5 : decode b_JPreconditions_checkIndex 5 = .ok (.iload_n 1, 1) := by decide +kernel
theorem d_JPreconditions_checkIndex_6 : decode b_JPreconditions_checkIndex 6 = .ok (.if_icmp .lt 10, 3) := by decide +kernel
theorem d_JPreconditions_checkIndex_9 : decode b_JPreconditions_checkIndex 9 = .ok (.aload_n 2, 1) := by decide +kernel
theorem d_JPreconditions_checkIndex_10 : decode b_JPreconditions_checkIndex 10 = .ok (.iload_n 0, 1) := by decide +kernel
theorem d_JPreconditions_checkIndex_11 : decode b_JPreconditions_checkIndex 11 = .ok (.iload_n 1, 1) := by decide +kernel
theorem d_JPreconditions_checkIndex_12 : decode b_JPreconditions_checkIndex 12 = .ok (.invokestatic 95, 3) := by decide +kernel
theorem d_JPreconditions_checkIndex_15 : decode b_JPreconditions_checkIndex 15 = .ok (.athrow, 1) := by decide +kernel
theorem d_JPreconditions_checkIndex_16 : decode b_JPreconditions_checkIndex 16 = .ok (.iload_n 0, 1) := by decide +kernel
theorem d_JPreconditions_checkIndex_17 : decode b_JPreconditions_checkIndex 17 = .ok (.ireturn, 1) := by decide +kernel
theorem d_JStringUTF16_charAt_0 : decode b_JStringUTF16_charAt 0 = .ok (.iload_n 1, 1) := by decide +kernel
theorem d_JStringUTF16_charAt_1 : decode b_JStringUTF16_charAt 1 = .ok (.aload_n 0, 1) := by decide +kernel
theorem d_JStringUTF16_charAt_2 : decode b_JStringUTF16_charAt 2 = .ok (.invokestatic 67, 3) := by decide +kernel
theorem d_JStringUTF16_charAt_5 : decode b_JStringUTF16_charAt 5 = .ok (.aload_n 0, 1) := by decide +kernel
theorem d_JStringUTF16_charAt_6 : decode b_JStringUTF16_charAt 6 = .ok (.iload_n 1, 1) := by decide +kernel
theorem d_JStringUTF16_charAt_7 : decode b_JStringUTF16_charAt 7 = .ok (.invokestatic 71, 3) := by decide +kernel
theorem d_JStringUTF16_charAt_10 : decode b_JStringUTF16_charAt 10 = .ok (.ireturn, 1) := by decide +kernel
theorem d_JStringUTF16_checkIndex_0 : decode b_JStringUTF16_checkIndex 0 = .ok (.iload_n 0, 1) := by decide +kernel
theorem d_JStringUTF16_checkIndex_1 : decode b_JStringUTF16_checkIndex 1 = .ok (.aload_n 1, 1) := by decide +kernel
theorem d_JStringUTF16_checkIndex_2 : decode b_JStringUTF16_checkIndex 2 = .ok (.invokestatic 48, 3) := by decide +kernel
theorem d_JStringUTF16_checkIndex_5 : decode b_JStringUTF16_checkIndex 5 = .ok (.invokestatic 414, 3) := by decide +kernel
theorem d_JStringUTF16_checkIndex_8 : decode b_JStringUTF16_checkIndex 8 = .ok (.return_, 1) := by decide +kernel
theorem d_JStringUTF16_length_0 : decode b_JStringUTF16_length 0 = .ok (.aload_n 0, 1) := by decide +kernel
theorem d_JStringUTF16_length_1 : decode b_JStringUTF16_length 1 = .ok (.arraylength, 1) := by decide +kernel
theorem d_JStringUTF16_length_2 : decode b_JStringUTF16_length 2 = .ok (.iconst 1, 1) := by decide +kernel
theorem d_JStringUTF16_length_3 : decode b_JStringUTF16_length 3 = .ok (.ishr, 1) := by decide +kernel
theorem d_JStringUTF16_length_4 : decode b_JStringUTF16_length 4 = .ok (.ireturn, 1) := by decide +kernel
theorem d_JStringUTF16_getChar_0 : decode b_JStringUTF16_getChar 0 = .ok (.getstatic 44, 3) := by decide +kernel
theorem d_JStringUTF16_getChar_3 : decode b_JStringUTF16_getChar 3 = .ok (.ifCond .ne 25, 3) := by decide +kernel
theorem d_JStringUTF16_getChar_6 : decode b_JStringUTF16_getChar 6 = .ok (.iload_n 1, 1) := by decide +kernel
theorem d_JStringUTF16_getChar_7 : decode b_JStringUTF16_getChar 7 = .ok (.ifCond .lt 11, 3) := by decide +kernel
theorem d_JStringUTF16_getChar_10 : decode b_JStringUTF16_getChar 10 = .ok (.iload_n 1, 1) := by decide +kernel
theorem d_JStringUTF16_getChar_11 : decode b_JStringUTF16_getChar 11 = .ok (.aload_n 0, 1) := by decide +kernel
theorem d_JStringUTF16_getChar_12 : decode b_JStringUTF16_getChar 12 = .ok (.invokestatic 48, 3) := by decide +kernel
theorem d_JStringUTF16_getChar_15 : decode b_JStringUTF16_getChar 15 = .ok (.if_icmp .lt 13, 3) := by decide +kernel
theorem d_JStringUTF16_getChar_18 : decode b_JStringUTF16_getChar 18 = .ok (.new 52, 3) := by decide +kernel
theorem d_JStringUTF16_getChar_21 : decode b_JStringUTF16_getChar 21 = .ok (.dup, 1) := by decide +kernel
theorem d_JStringUTF16_getChar_22 : decode b_JStringUTF16_getChar 22 = .ok (.ldc 54, 2) := by decide +kernel
theorem d_JStringUTF16_getChar_24 : decode b_JStringUTF16_getChar 24 = .ok (.invokespecial 56, 3) := by decide +kernel
theorem d_JStringUTF16_getChar_27 : decode b_JStringUTF16_getChar 27 = .ok (.athrow, 1) := by decide +kernel
theorem d_JStringUTF16_getChar_28 : decode b_JStringUTF16_getChar 28 = .ok (.iload_n 1, 1) := by decide +kernel
theorem d_JStringUTF16_getChar_29 : decode b_JStringUTF16_getChar 29 = .ok (.iconst 1, 1) := by decide +kernel
theorem d_JStringUTF16_getChar_30 : decode b_JStringUTF16_getChar 30 = .ok (.ishl, 1) := by decide +kernel
theorem d_JStringUTF16_getChar_31 : decode b_JStringUTF16_getChar 31 = .ok (.istore_n 1, 1) := by decide +kernel
theorem d_JStringUTF16_getChar_32 : decode b_JStringUTF16_getChar 32 = .ok (.aload_n 0, 1) := by decide +kernel
theorem d_JStringUTF16_getChar_33 : decode b_JStringUTF16_getChar 33 = .ok (.iload_n 1, 1) := by decide +kernel
theorem d_JStringUTF16_getChar_34 : decode b_JStringUTF16_getChar 34 = .ok (.iinc 1 1, 3) := by decide +kernel
theorem d_JStringUTF16_getChar_37 : decode b_JStringUTF16_getChar 37 = .ok (.baload, 1) := by decide +kernel
theorem d_JStringUTF16_getChar_38 : decode b_JStringUTF16_getChar 38 = .ok (.sipush 255, 3) := by decide +kernel
theorem d_JStringUTF16_getChar_41 : decode b_JStringUTF16_getChar 41 = .ok (.iand, 1) := by decide +kernel
theorem d_JStringUTF16_getChar_42 : decode b_JStringUTF16_getChar 42 = .ok (.getstatic 59, 3) := by decide +kernel
theorem d_JStringUTF16_getChar_45 : decode b_JStringUTF16_getChar 45 = .ok (.ishl, 1) := by decide +kernel
theorem d_JStringUTF16_getChar_46 : decode b_JStringUTF16_getChar 46 = .ok (.aload_n 0, 1) := by decide +kernel
theorem d_JStringUTF16_getChar_47 : decode b_JStringUTF16_getChar 47 = .ok (.iload_n 1, 1) := by decide +kernel
theorem d_JStringUTF16_getChar_48 : decode b_JStringUTF16_getChar 48 = .ok (.baload, 1) := by decide +kernel
theorem d_JStringUTF16_getChar_49 : decode b_JStringUTF16_getChar 49 = .ok (.sipush 255, 3) := by decide +kernel
theorem d_JStringUTF16_getChar_52 : decode b_JStringUTF16_getChar 52 = .ok (.iand, 1) := by decide +kernel
theorem d_JStringUTF16_getChar_53 : decode b_JStringUTF16_getChar 53 = .ok (.getstatic 63, 3) := by decide +kernel
theorem d_JStringUTF16_getChar_56 : decode b_JStringUTF16_getChar 56 = .ok (.ishl, 1) := by decide +kernel
theorem d_JStringUTF16_getChar_57 : decode b_JStringUTF16_getChar 57 = .ok (.ior, 1) := by decide +kernel
theorem d_JStringUTF16_getChar_58 : decode b_JStringUTF16_getChar 58 = .ok (.i2c, 1) := by decide +kernel
theorem d_JStringUTF16_getChar_59 : decode b_JStringUTF16_getChar 59 = .ok (.ireturn, 1) := by decide +kernel
theorem d_JMath_min1_0 : decode b_JMath_min1 0 = .ok (.lload_n 0, 1) := by decide +kernel
theorem d_JMath_min1_1 : decode b_JMath_min1 1 = .ok (.lload_n 2, 1) := by decide +kernel
theorem d_JMath_min1_2 : decode b_JMath_min1 2 = .ok (.lcmp, 1) := by decide +kernel
theorem d_JMath_min1_3 : decode b_JMath_min1 3 = .ok (.ifCond .gt 7, 3) := by decide +kernel
theorem d_JMath_min1_6 : decode b_JMath_min1 6 = .ok (.lload_n 0, 1) := by decide +kernel
theorem d_JMath_min1_7 : decode b_JMath_min1 7 = .ok (.goto 4, 3) := by decide +kernel
theorem d_JMath_min1_10 : decode b_JMath_min1 10 = .ok (.lload_n 2, 1) := by decide +kernel
theorem d_JMath_min1_11 : decode b_JMath_min1 11 = .ok (.lreturn, 1) := by decide +kernel
theorem d_JMath_max2_0 : decode b_JMath_max2 0 = .ok (.lload_n 0, 1) := by decide +kernel
theorem d_JMath_max2_1 : decode b_JMath_max2 1 = .ok (.lload_n 2, 1) := by decide +kernel
theorem d_JMath_max2_2 : decode b_JMath_max2 2 = .ok (.lcmp, 1) := by decide +kernel
theorem d_JMath_max2_3 : decode b_JMath_max2 3 = .ok (.ifCond .lt 7, 3) := by decide +kernel
theorem d_JMath_max2_6 : decode b_JMath_max2 6 = .ok (.lload_n 0, 1) := by decide +kernel
theorem d_JMath_max2_7 : decode b_JMath_max2 7 = .ok (.goto 4, 3) := by decide +kernel
theorem d_JMath_max2_10 : decode b_JMath_max2 10 = .ok (.lload_n 2, 1) := by decide +kernel
theorem d_JMath_max2_11 : decode b_JMath_max2 11 = .ok (.lreturn, 1) := by decide +kernel
theorem d_JMath_min2_0 : decode b_JMath_min2 0 = .ok (.iload_n 0, 1) := by decide +kernel
theorem d_JMath_min2_1 : decode b_JMath_min2 1 = .ok (.iload_n 1, 1) := by decide +kernel
theorem d_JMath_min2_2 : decode b_JMath_min2 2 = .ok (.if_icmp .gt 7, 3) := by decide +kernel
theorem d_JMath_min2_5 : decode b_JMath_min2 5 = .ok (.iload_n 0, 1) := by decide +kernel
theorem d_JMath_min2_6 : decode b_JMath_min2 6 = .ok (.goto 4, 3) := by decide +kernel
theorem d_JMath_min2_9 : decode b_JMath_min2 9 = .ok (.iload_n 1, 1) := by decide +kernel
theorem d_JMath_min2_10 : decode b_JMath_min2 10 = .ok (.ireturn, 1) := by decide +kernel
theorem d_JArraysSupport_newLength_0 : decode b_JArraysSupport_newLength 0 = .ok (.iload_n 0, 1) := by decide +kernel
theorem d_JArraysSupport_newLength_1 : decode b_JArraysSupport_newLength 1 = .ok (.iload_n 1, 1) := by decide +kernel
theorem d_JArraysSupport_newLength_2 : decode b_JArraysSupport_newLength 2 = .ok (.iload_n 2, 1) := by decide +kernel
theorem d_JArraysSupport_newLength_3 : decode b_JArraysSupport_newLength 3 = .ok (.invokestatic 194, 3) := by decide +kernel
theorem d_JArraysSupport_newLength_6 : decode b_JArraysSupport_newLength 6 = .ok (.iadd, 1) := by decide +kernel
theorem d_JArraysSupport_newLength_7 : decode b_JArraysSupport_newLength 7 = .ok (.istore_n 3, 1) := by decide +kernel
theorem d_JArraysSupport_newLength_8 : decode b_JArraysSupport_newLength 8 = .ok (.iconst 0, 1) := by decide +kernel
theorem d_JArraysSupport_newLength_9 : decode b_JArraysSupport_newLength 9 = .ok (.iload_n 3, 1) := by decide +kernel
theorem d_JArraysSupport_newLength_10 : decode b_JArraysSupport_newLength 10 = .ok (.if_icmp .ge 11, 3) := by decide +kernel
theorem d_JArraysSupport_newLength_13 : decode b_JArraysSupport_newLength 13 = .ok (.iload_n 3, 1) := by decide +kernel
theorem d_JArraysSupport_newLength_14 : decode b_JArraysSupport_newLength 14 = .ok (.ldc 200, 2) := by decide +kernel
theorem d_JArraysSupport_newLength_16 : decode b_JArraysSupport_newLength 16 = .ok (.if_icmp .gt 5, 3) := by decide +kernel
theorem d_JArraysSupport_newLength_19 : decode b_JArraysSupport_newLength 19 = .ok (.iload_n 3, 1) := by decide +kernel
theorem d_JArraysSupport_newLength_20 : decode b_JArraysSupport_newLength 20 = .ok (.ireturn, 1) := by decide +kernel
theorem d_JArraysSupport_newLength_21 : decode b_JArraysSupport_newLength 21 = .ok (.iload_n 0, 1) := by decide +kernel
theorem d_JArraysSupport_newLength_22 : decode b_JArraysSupport_newLength 22 = .ok (.iload_n 1, 1) := by decide +kernel
theorem d_JArraysSupport_newLength_23 : decode b_JArraysSupport_newLength 23 = .ok (.invokestatic 201, 3) := by decide +kernel
theorem d_JArraysSupport_newLength_26 : decode b_JArraysSupport_newLength 26 = .ok (.ireturn, 1) := by decide +kernel
theorem d_JArraysSupport_hugeLength_0 : decode b_JArraysSupport_hugeLength 0 = .ok (.iload_n 0, 1) := by decide +kernel
theorem d_JArraysSupport_hugeLength_1 : decode b_JArraysSupport_hugeLength 1 = .ok (.iload_n 1, 1) := by decide +kernel
theorem d_JArraysSupport_hugeLength_2 : decode b_JArraysSupport_hugeLength 2 = .ok (.iadd, 1) := by decide +kernel
theorem d_JArraysSupport_hugeLength_3 : decode b_JArraysSupport_hugeLength 3 = .ok (.istore_n 2, 1) := by decide +kernel
theorem d_JArraysSupport_hugeLength_4 : decode b_JArraysSupport_hugeLength 4 = .ok (.iload_n 2, 1) := by decide +kernel
theorem d_JArraysSupport_hugeLength_5 : decode b_JArraysSupport_hugeLength 5 = .ok (.ifCond .ge 44, 3) := by decide +kernel
theorem d_JArraysSupport_hugeLength_8 : decode b_JArraysSupport_hugeLength 8 = .ok (.new 204, 3) := by decide +kernel
theorem d_JArraysSupport_hugeLength_11 : decode b_JArraysSupport_hugeLength 11 = .ok (.dup, 1) := by decide +kernel
theorem d_JArraysSupport_hugeLength_12 : decode b_JArraysSupport_hugeLength 12 = .ok (.new 89, 3) := by decide +kernel
theorem d_JArraysSupport_hugeLength_15 : decode b_JArraysSupport_hugeLength 15 = .ok (.dup, 1) := by decide +kernel
theorem d_JArraysSupport_hugeLength_16 : decode b_JArraysSupport_hugeLength 16 = .ok (.invokespecial 91, 3) := by decide +kernel
theorem d_JArraysSupport_hugeLength_19 : decode b_JArraysSupport_hugeLength 19 = .ok (.ldc 206, 2) := by decide +kernel
theorem d_JArraysSupport_hugeLength_21 : decode b_JArraysSupport_hugeLength 21 = .ok (.invokevirtual 94, 3) := by decide +kernel
theorem d_JArraysSupport_hugeLength_24 : decode b_JArraysSupport_hugeLength 24 = .ok (.iload_n 0, 1) := by decide +kernel
theorem d_JArraysSupport_hugeLength_25 : decode b_JArraysSupport_hugeLength 25 = .ok (.invokevirtual 98, 3) := by decide +kernel
theorem d_JArraysSupport_hugeLength_28 : decode b_JArraysSupport_hugeLength 28 = .ok (.ldc 208, 2) := by decide +kernel
theorem d_JArraysSupport_hugeLength_30 : decode b_JArraysSupport_hugeLength 30 = .ok (.invokevirtual 94, 3) := by decide +kernel
theorem d_JArraysSupport_hugeLength_33 : decode b_JArraysSupport_hugeLength 33 = .ok (.iload_n 1, 1) := by decide +kernel
theorem d_JArraysSupport_hugeLength_34 : decode b_JArraysSupport_hugeLength 34 = .ok (.invokevirtual 98, 3) := by decide +kernel
theorem d_JArraysSupport_hugeLength_37 : decode b_JArraysSupport_hugeLength 37 = .ok (.ldc 210, 2) := by decide +kernel
theorem d_JArraysSupport_hugeLength_39 : decode b_JArraysSupport_hugeLength 39 = .ok (.invokevirtual 94, 3) := by decide +kernel
theorem d_JArraysSupport_hugeLength_42 : decode b_JArraysSupport_hugeLength 42 = .ok (.invokevirtual 101, 3) := by decide +kernel
theorem d_JArraysSupport_hugeLength_45 : decode b_JArraysSupport_hugeLength 45 = .ok (.invokespecial 212, 3) := by decide +kernel
theorem d_JArraysSupport_hugeLength_48 : decode b_JArraysSupport_hugeLength 48 = .ok (.athrow, 1) := by decide +kernel
theorem d_JArraysSupport_hugeLength_49 : decode b_JArraysSupport_hugeLength 49 = .ok (.iload_n 2, 1) := by decide +kernel
theorem d_JArraysSupport_hugeLength_50 : decode b_JArraysSupport_hugeLength 50 = .ok (.ldc 200, 2) := by decide +kernel
theorem d_JArraysSupport_hugeLength_52 : decode b_JArraysSupport_hugeLength 52 = .ok (.if_icmp .gt 6, 3) := by decide +kernel
theorem d_JArraysSupport_hugeLength_55 : decode b_JArraysSupport_hugeLength 55 = .ok (.ldc 200, 2) := by decide +kernel
theorem d_JArraysSupport_hugeLength_57 : decode b_JArraysSupport_hugeLength 57 = .ok (.ireturn, 1) := by decide +kernel
theorem d_JArraysSupport_hugeLength_58 : decode b_JArraysSupport_hugeLength 58 = .ok (.iload_n 2, 1) := by decide +kernel
theorem d_JArraysSupport_hugeLength_59 : decode b_JArraysSupport_hugeLength 59 = .ok (.ireturn, 1) := by decide +kernel
theorem d_JArrays_copyOf_0 : decode b_JArrays_copyOf 0 = .ok (.iload_n 1, 1) := by decide +kernel
theorem d_JArrays_copyOf_1 : decode b_JArrays_copyOf 1 = .ok (.aload_n 0, 1) := by decide +kernel
theorem d_JArrays_copyOf_2 : decode b_JArrays_copyOf 2 = .ok (.arraylength, 1) := by decide +kernel
theorem d_JArrays_copyOf_3 : decode b_JArrays_copyOf 3 = .ok (.if_icmp .ne 11, 3) := by decide +kernel
theorem d_JArrays_copyOf_6 : decode b_JArrays_copyOf 6 = .ok (.aload_n 0, 1) := by decide +kernel
theorem d_JArrays_copyOf_7 : decode b_JArrays_copyOf 7 = .ok (.invokevirtual 310, 3) := by decide +kernel
theorem d_JArrays_copyOf_10 : decode b_JArrays_copyOf 10 = .ok (.checkcast 311, 3) := by decide +kernel
theorem d_JArrays_copyOf_13 : decode b_JArrays_copyOf 13 = .ok (.areturn, 1) := by decide +kernel
theorem d_JArrays_copyOf_14 : decode b_JArrays_copyOf 14 = .ok (.iload_n 1, 1) := by decide +kernel
theorem d_JArrays_copyOf_15 : decode b_JArrays_copyOf 15 = .ok (.newarray .byte, 2) := by decide +kernel
theorem d_JArrays_copyOf_17 : decode b_JArrays_copyOf 17 = .ok (.astore_n 2, 1) := by decide +kernel
theorem d_JArrays_copyOf_18 : decode b_JArrays_copyOf 18 = .ok (.aload_n 0, 1) := by decide +kernel
theorem d_JArrays_copyOf_19 : decode b_JArrays_copyOf 19 = .ok (.iconst 0, 1) := by decide +kernel
theorem d_JArrays_copyOf_20 : decode b_JArrays_copyOf 20 = .ok (.aload_n 2, 1) := by decide +kernel
theorem d_JArrays_copyOf_21 : decode b_JArrays_copyOf 21 = .ok (.iconst 0, 1) := by decide +kernel
theorem d_JArrays_copyOf_22 : decode b_JArrays_copyOf 22 = .ok (.aload_n 0, 1) := by decide +kernel
theorem d_JArrays_copyOf_23 : decode b_JArrays_copyOf 23 = .ok (.arraylength, 1) := by decide +kernel
theorem d_JArrays_copyOf_24 : decode b_JArrays_copyOf 24 = .ok (.iload_n 1, 1) := by decide +kernel
theorem d_JArrays_copyOf_25 : decode b_JArrays_copyOf 25 = .ok (.invokestatic 304, 3) := by decide +kernel
theorem d_JArrays_copyOf_28 : decode b_JArrays_copyOf 28 = .ok (.invokestatic 150, 3) := by decide +kernel
theorem d_JArrays_copyOf_31 : decode b_JArrays_copyOf 31 = .ok (.aload_n 2, 1) := by decide +kernel
theorem d_JArrays_copyOf_32 : decode b_JArrays_copyOf 32 = .ok (.areturn, 1) := by decide +kernel
theorem d_JStringLatin1_fillNull_0 : decode b_JStringLatin1_fillNull 0 = .ok (.aload_n 0, 1) := by decide +kernel
theorem d_JStringLatin1_fillNull_1 : decode b_JStringLatin1_fillNull 1 = .ok (.iload_n 1, 1) := by decide +kernel
theorem d_JStringLatin1_fillNull_2 : decode b_JStringLatin1_fillNull 2 = .ok (.iload_n 2, 1) := by decide +kernel
theorem d_JStringLatin1_fillNull_3 : decode b_JStringLatin1_fillNull 3 = .ok (.iconst 0, 1) := by decide +kernel
theorem d_JStringLatin1_fillNull_4 : decode b_JStringLatin1_fillNull 4 = .ok (.invokestatic 236, 3) := by decide +kernel
theorem d_JStringLatin1_fillNull_7 : decode b_JStringLatin1_fillNull 7 = .ok (.return_, 1) := by decide +kernel
theorem d_JArrays_fill_0 : decode b_JArrays_fill 0 = .ok (.aload_n 0, 1) := by decide +kernel
theorem d_JArrays_fill_1 : decode b_JArrays_fill 1 = .ok (.arraylength, 1) := by decide +kernel
theorem d_JArrays_fill_2 : decode b_JArrays_fill 2 = .ok (.iload_n 1, 1) := by decide +kernel
theorem d_JArrays_fill_3 : decode b_JArrays_fill 3 = .ok (.iload_n 2, 1) := by decide +kernel
theorem d_JArrays_fill_4 : decode b_JArrays_fill 4 = .ok (.invokestatic 13, 3) := by decide +kernel
theorem d_JArrays_fill_7 : decode b_JArrays_fill 7 = .ok (.iload_n 1, 1) := by decide +kernel
theorem d_JArrays_fill_8 : decode b_JArrays_fill 8 = .ok (.istore 4, 2) := by decide +kernel
theorem d_JArrays_fill_10 : decode b_JArrays_fill 10 = .ok (.iload 4, 2) := by decide +kernel
theorem d_JArrays_fill_12 : decode b_JArrays_fill 12 = .ok (.iload_n 2, 1) := by decide +kernel
theorem d_JArrays_fill_13 : decode b_JArrays_fill 13 = .ok (.if_icmp .ge 14, 3) := by decide +kernel
theorem d_JArrays_fill_16 : decode b_JArrays_fill 16 = .ok (.aload_n 0, 1) := by decide +kernel
theorem d_JArrays_fill_17 : decode b_JArrays_fill 17 = .ok (.iload 4, 2) := by decide +kernel
theorem d_JArrays_fill_19 : decode b_JArrays_fill 19 = .ok (.iload_n 3, 1) := by decide +kernel
theorem d_JArrays_fill_20 : decode b_JArrays_fill 20 = .ok (.bastore, 1) := by decide +kernel
theorem d_JArrays_fill_21 : decode b_JArrays_fill 21 = .ok (.iinc 4 1, 3) := by decide +kernel
theorem d_JArrays_fill_24 : decode b_JArrays_fill 24 = .ok (.goto (-14), 3) := by decide +kernel
theorem d_JArrays_fill_27 : decode b_JArrays_fill 27 = .ok (.return_, 1) := by decide +kernel
theorem d_JArrays_rangeCheck_0 : decode b_JArrays_rangeCheck 0 = .ok (.iload_n 1, 1) := by decide +kernel
theorem d_JArrays_rangeCheck_1 : decode b_JArrays_rangeCheck 1 = .ok (.iload_n 2, 1) := by decide +kernel
theorem d_JArrays_rangeCheck_2 : decode b_JArrays_rangeCheck 2 = .ok (.if_icmp .le 44, 3) := by decide +kernel
theorem d_JArrays_rangeCheck_5 : decode b_JArrays_rangeCheck 5 = .ok (.new 43, 3) := by decide +kernel
theorem d_JArrays_rangeCheck_8 : decode b_JArrays_rangeCheck 8 = .ok (.dup, 1) := by decide +kernel
theorem d_JArrays_rangeCheck_9 : decode b_JArrays_rangeCheck 9 = .ok (.new 45, 3) := by decide +kernel
theorem d_JArrays_rangeCheck_12 : decode b_JArrays_rangeCheck 12 = .ok (.dup, 1) := by decide +kernel
theorem d_JArrays_rangeCheck_13 : decode b_JArrays_rangeCheck 13 = .ok (.invokespecial 47, 3) := by decide +kernel
theorem d_JArrays_rangeCheck_16 : decode b_JArrays_rangeCheck 16 = .ok (.ldc 48, 2) := by decide +kernel
theorem d_JArrays_rangeCheck_18 : decode b_JArrays_rangeCheck 18 = .ok (.invokevirtual 50, 3) := by decide +kernel
theorem d_JArrays_rangeCheck_21 : decode b_JArrays_rangeCheck 21 = .ok (.iload_n 1, 1) := by decide +kernel
theorem d_JArrays_rangeCheck_22 : decode b_JArrays_rangeCheck 22 = .ok (.invokevirtual 54, 3) := by decide +kernel
theorem d_JArrays_rangeCheck_25 : decode b_JArrays_rangeCheck 25 = .ok (.ldc 57, 2) := by decide +kernel
theorem d_JArrays_rangeCheck_27 : decode b_JArrays_rangeCheck 27 = .ok (.invokevirtual 50, 3) := by decide +kernel
theorem d_JArrays_rangeCheck_30 : decode b_JArrays_rangeCheck 30 = .ok (.iload_n 2, 1) := by decide +kernel
theorem d_JArrays_rangeCheck_31 : decode b_JArrays_rangeCheck 31 = .ok (.invokevirtual 54, 3) := by decide +kernel
theorem d_JArrays_rangeCheck_34 : decode b_JArrays_rangeCheck 34 = .ok (.ldc 59, 2) := by decide +kernel
theorem d_JArrays_rangeCheck_36 : decode b_JArrays_rangeCheck 36 = .ok (.invokevirtual 50, 3) := by decide +kernel
theorem d_JArrays_rangeCheck_39 : decode b_JArrays_rangeCheck 39 = .ok (.invokevirtual 61, 3) := by decide +kernel
theorem d_JArrays_rangeCheck_42 : decode b_JArrays_rangeCheck 42 = .ok (.invokespecial 65, 3) := by decide +kernel
theorem d_JArrays_rangeCheck_45 : decode b_JArrays_rangeCheck 45 = .ok (.athrow, 1) := by decide +kernel
theorem d_JArrays_rangeCheck_46 : decode b_JArrays_rangeCheck 46 = .ok (.iload_n 1, 1) := by decide +kernel
theorem d_JArrays_rangeCheck_47 : decode b_JArrays_rangeCheck 47 = .ok (.ifCond .ge 12, 3) := by decide +kernel
theorem d_JArrays_rangeCheck_50 : decode b_JArrays_rangeCheck 50 = .ok (.new 68, 3) := by decide +kernel
theorem d_JArrays_rangeCheck_53 : decode b_JArrays_rangeCheck 53 = .ok (.dup, 1) := by decide +kernel
theorem d_JArrays_rangeCheck_54 : decode b_JArrays_rangeCheck 54 = .ok (.iload_n 1, 1) := by decide +kernel
theorem d_JArrays_rangeCheck_55 : decode b_JArrays_rangeCheck 55 = .ok (.invokespecial 70, 3) := by decide +kernel
theorem d_JArrays_rangeCheck_58 : decode b_JArrays_rangeCheck 58 = .ok (.athrow, 1) := by decide +kernel
theorem d_JArrays_rangeCheck_59 : decode b_JArrays_rangeCheck 59 = .ok (.iload_n 2, 1) := by decide +kernel
theorem d_JArrays_rangeCheck_60 : decode b_JArrays_rangeCheck 60 = .ok (.iload_n 0, 1) := by decide +kernel
theorem d_JArrays_rangeCheck_61 : decode b_JArrays_rangeCheck 61 = .ok (.if_icmp .le 12, 3) := by decide +kernel
theorem d_JArrays_rangeCheck_64 : decode b_JArrays_rangeCheck 64 = .ok (.new 68, 3) := by decide +kernel
theorem d_JArrays_rangeCheck_67 : decode b_JArrays_rangeCheck 67 = .ok (.dup, 1) := by decide +kernel
theorem d_JArrays_rangeCheck_68 : decode b_JArrays_rangeCheck 68 = .ok (.iload_n 2, 1) := by decide +kernel
theorem d_JArrays_rangeCheck_69 : decode b_JArrays_rangeCheck 69 = .ok (.invokespecial 70, 3) := by decide +kernel
theorem d_JArrays_rangeCheck_72 : decode b_JArrays_rangeCheck 72 = .ok (.athrow, 1) := by decide +kernel
theorem d_JArrays_rangeCheck_73 : decode b_JArrays_rangeCheck 73 = .ok (.return_, 1) := by decide +kernel
theorem d_JStringUTF16_fillNull_0 : decode b_JStringUTF16_fillNull 0 = .ok (.aload_n 0, 1) := by decide +kernel
theorem d_JStringUTF16_fillNull_1 : decode b_JStringUTF16_fillNull 1 = .ok (.iload_n 1, 1) := by decide +kernel
theorem d_JStringUTF16_fillNull_2 : decode b_JStringUTF16_fillNull 2 = .ok (.iconst 1, 1) := by decide +kernel
theorem d_JStringUTF16_fillNull_3 : decode b_JStringUTF16_fillNull 3 = .ok (.ishl, 1) := by decide +kernel
theorem d_JStringUTF16_fillNull_4 : decode b_JStringUTF16_fillNull 4 = .ok (.iload_n 2, 1) := by decide +kernel
theorem d_JStringUTF16_fillNull_5 : decode b_JStringUTF16_fillNull 5 = .ok (.iconst 1, 1) := by decide +kernel
theorem d_JStringUTF16_fillNull_6 : decode b_JStringUTF16_fillNull 6 = .ok (.ishl, 1) := by decide +kernel
theorem d_JStringUTF16_fillNull_7 : decode b_JStringUTF16_fillNull 7 = .ok (.iconst 0, 1) := by decide +kernel
theorem d_JStringUTF16_fillNull_8 : decode b_JStringUTF16_fillNull 8 = .ok (.invokestatic 380, 3) := by decide +kernel
theorem d_JStringUTF16_fillNull_11 : decode b_JStringUTF16_fillNull 11 = .ok (.return_, 1) := by decide +kernel
theorem d_JInteger_stringSize_0 : decode b_JInteger_stringSize 0 = .ok (.iconst 1, 1) := by decide +kernel
theorem d_JInteger_stringSize_1 : decode b_JInteger_stringSize 1 = .ok (.istore_n 1, 1) := by decide +kernel
theorem d_JInteger_stringSize_2 : decode b_JInteger_stringSize 2 = .ok (.iload_n 0, 1) := by decide +kernel
theorem d_JInteger_stringSize_3 : decode b_JInteger_stringSize 3 = .ok (.ifCond .lt 8, 3) := by decide +kernel
theorem d_JInteger_stringSize_6 : decode b_JInteger_stringSize 6 = .ok (.iconst 0, 1) := by decide +kernel
theorem d_JInteger_stringSize_7 : decode b_JInteger_stringSize 7 = .ok (.istore_n 1, 1) := by decide +kernel
theorem d_JInteger_stringSize_8 : decode b_JInteger_stringSize 8 = .ok (.iload_n 0, 1) := by decide +kernel
theorem d_JInteger_stringSize_9 : decode b_JInteger_stringSize 9 = .ok (.ineg, 1) := by decide +kernel
theorem d_JInteger_stringSize_10 : decode b_JInteger_stringSize 10 = .ok (.istore_n 0, 1) := by decide +kernel
theorem d_JInteger_stringSize_11 : decode b_JInteger_stringSize 11 = .ok (.bipush (-10), 2) := by decide +kernel
theorem d_JInteger_stringSize_13 : decode b_JInteger_stringSize 13 = .ok (.istore_n 2, 1) := by decide +kernel
theorem d_JInteger_stringSize_14 : decode b_JInteger_stringSize 14 = .ok (.iconst 1, 1) := by decide +kernel
theorem d_JInteger_stringSize_15 : decode b_JInteger_stringSize 15 = .ok (.istore_n 3, 1) := by decide +kernel
theorem d_JInteger_stringSize_16 : decode b_JInteger_stringSize 16 = .ok (.iload_n 3, 1) := by decide +kernel
theorem d_JInteger_stringSize_17 : decode b_JInteger_stringSize 17 = .ok (.bipush 10, 2) := by decide +kernel
theorem d_JInteger_stringSize_19 : decode b_JInteger_stringSize 19 = .ok (.if_icmp .ge 23, 3) := by decide +kernel
theorem d_JInteger_stringSize_22 : decode b_JInteger_stringSize 22 = .ok (.iload_n 0, 1) := by decide +kernel
theorem d_JInteger_stringSize_23 : decode b_JInteger_stringSize 23 = .ok (.iload_n 2, 1) := by decide +kernel
theorem d_JInteger_stringSize_24 : decode b_JInteger_stringSize 24 = .ok (.if_icmp .le 7, 3) := by decide +kernel
theorem d_JInteger_stringSize_27 : decode b_JInteger_stringSize 27 = .ok (.iload_n 3, 1) := by decide +kernel
theorem d_JInteger_stringSize_28 : decode b_JInteger_stringSize 28 = .ok (.iload_n 1, 1) := by decide +kernel
theorem d_JInteger_stringSize_29 : decode b_JInteger_stringSize 29 = .ok (.iadd, 1) := by decide +kernel
theorem d_JInteger_stringSize_30 : decode b_JInteger_stringSize 30 = .ok (.ireturn, 1) := by decide +kernel
theorem d_JInteger_stringSize_31 : decode b_JInteger_stringSize 31 = .ok (.bipush 10, 2) := by decide +kernel
theorem d_JInteger_stringSize_33 : decode b_JInteger_stringSize 33 = .ok (.iload_n 2, 1) := by decide +kernel
theorem d_JInteger_stringSize_34 : decode b_JInteger_stringSize 34 = .ok (.imul, 1) := by decide +kernel
theorem d_JInteger_stringSize_35 : decode b_JInteger_stringSize 35 = .ok (.istore_n 2, 1) := by decide +kernel
theorem d_JInteger_stringSize_36 : decode b_JInteger_stringSize 36 = .ok (.iinc 3 1, 3) := by decide +kernel
theorem d_JInteger_stringSize_39 : decode b_JInteger_stringSize 39 = .ok (.goto (-23), 3) := by decide +kernel
theorem d_JInteger_stringSize_42 : decode b_JInteger_stringSize 42 = .ok (.bipush 10, 2) := by decide +kernel
theorem d_JInteger_stringSize_44 : decode b_JInteger_stringSize 44 = .ok (.iload_n 1, 1) := by decide +kernel
theorem d_JInteger_stringSize_45 : decode b_JInteger_stringSize 45 = .ok (.iadd, 1) := by decide +kernel
theorem d_JInteger_stringSize_46 : decode b_JInteger_stringSize 46 = .ok (.ireturn, 1) := by decide +kernel
theorem d_JInteger_getChars_0 : decode b_JInteger_getChars 0 = .ok (.iload_n 1, 1) := by decide +kernel
theorem d_JInteger_getChars_1 : decode b_JInteger_getChars 1 = .ok (.istore 5, 2) := by decide +kernel
theorem d_JInteger_getChars_3 : decode b_JInteger_getChars 3 = .ok (.iload_n 0, 1) := by decide +kernel
theorem d_JInteger_getChars_4 : decode b_JInteger_getChars 4 = .ok (.ifCond .ge 7, 3) := by decide +kernel
theorem d_JInteger_getChars_7 : decode b_JInteger_getChars 7 = .ok (.iconst 1, 1) := by decide +kernel
theorem d_JInteger_getChars_8 : decode b_JInteger_getChars 8 = .ok (.goto 4, 3) := by decide +kernel
theorem d_JInteger_getChars_11 : decode b_JInteger_getChars 11 = .ok (.iconst 0, 1) := by decide +kernel
theorem d_JInteger_getChars_12 : decode b_JInteger_getChars 12 = .ok (.istore 6, 2) := by decide +kernel
theorem d_JInteger_getChars_14 : decode b_JInteger_getChars 14 = .ok (.iload 6, 2) := by decide +kernel
theorem d_JInteger_getChars_16 : decode b_JInteger_getChars 16 = .ok (.ifCond .ne 6, 3) := by decide +kernel
theorem d_JInteger_getChars_19 : decode b_JInteger_getChars 19 = .ok (.iload_n 0, 1) := by decide +kernel
theorem d_JInteger_getChars_20 : decode b_JInteger_getChars 20 = .ok (.ineg, 1) := by decide +kernel
theorem d_JInteger_getChars_21 : decode b_JInteger_getChars 21 = .ok (.istore_n 0, 1) := by decide +kernel
theorem d_JInteger_getChars_22 : decode b_JInteger_getChars 22 = .ok (.iload_n 0, 1) := by decide +kernel
theorem d_JInteger_getChars_23 : decode b_JInteger_getChars 23 = .ok (.bipush (-100), 2) := by decide +kernel
theorem d_JInteger_getChars_25 : decode b_JInteger_getChars 25 = .ok (.if_icmp .gt 47, 3) := by decide +kernel
theorem d_JInteger_getChars_28 : decode b_JInteger_getChars 28 = .ok (.iload_n 0, 1) := by decide +kernel
theorem d_JInteger_getChars_29 : decode b_JInteger_getChars 29 = .ok (.bipush 100, 2) := by decide +kernel
theorem d_JInteger_getChars_31 : decode b_JInteger_getChars 31 = .ok (.idiv, 1) := by decide +kernel
theorem d_JInteger_getChars_32 : decode b_JInteger_getChars 32 = .ok (.istore_n 3, 1) := by decide +kernel
theorem d_JInteger_getChars_33 : decode b_JInteger_getChars 33 = .ok (.iload_n 3, 1) := by decide +kernel
theorem d_JInteger_getChars_34 : decode b_JInteger_getChars 34 = .ok (.bipush 100, 2) := by decide +kernel
theorem d_JInteger_getChars_36 : decode b_JInteger_getChars 36 = .ok (.imul, 1) := by decide +kernel
theorem d_JInteger_getChars_37 : decode b_JInteger_getChars 37 = .ok (.iload_n 0, 1) := by decide +kernel
theorem d_JInteger_getChars_38 : decode b_JInteger_getChars 38 = .ok (.isub, 1) := by decide +kernel
theorem d_JInteger_getChars_39 : decode b_JInteger_getChars 39 = .ok (.istore 4, 2) := by decide +kernel
theorem d_JInteger_getChars_41 : decode b_JInteger_getChars 41 = .ok (.iload_n 3, 1) := by decide +kernel
theorem d_JInteger_getChars_42 : decode b_JInteger_getChars 42 = .ok (.istore_n 0, 1) := by decide +kernel
theorem d_JInteger_getChars_43 : decode b_JInteger_getChars 43 = .ok (.aload_n 2, 1) := by decide +kernel
theorem d_JInteger_getChars_44 : decode b_JInteger_getChars 44 = .ok (.iinc 5 (-1), 3) := by decide +kernel
theorem d_JInteger_getChars_47 : decode b_JInteger_getChars 47 = .ok (.iload 5, 2) := by decide +kernel
theorem d_JInteger_getChars_49 : decode b_JInteger_getChars 49 = .ok (.getstatic 83, 3) := by decide +kernel
theorem d_JInteger_getChars_52 : decode b_JInteger_getChars 52 = .ok (.iload 4, 2) := by decide +kernel
theorem d_JInteger_getChars_54 : decode b_JInteger_getChars 54 = .ok (.baload, 1) := by decide +kernel
theorem d_JInteger_getChars_55 : decode b_JInteger_getChars 55 = .ok (.bastore, 1) := by decide +kernel
theorem d_JInteger_getChars_56 : decode b_JInteger_getChars 56 = .ok (.aload_n 2, 1) := by decide +kernel
theorem d_JInteger_getChars_57 : decode b_JInteger_getChars 57 = .ok (.iinc 5 (-1), 3) := by decide +kernel
theorem d_JInteger_getChars_60 : decode b_JInteger_getChars 60 = .ok (.iload 5, 2) := by decide +kernel
theorem d_JInteger_getChars_62 : decode b_JInteger_getChars 62 = .ok (.getstatic 87, 3) := by decide +kernel
theorem d_JInteger_getChars_65 : decode b_JInteger_getChars 65 = .ok (.iload 4, 2) := by decide +kernel
theorem d_JInteger_getChars_67 : decode b_JInteger_getChars 67 = .ok (.baload, 1) := by decide +kernel
theorem d_JInteger_getChars_68 : decode b_JInteger_getChars 68 = .ok (.bastore, 1) := by decide +kernel
theorem d_JInteger_getChars_69 : decode b_JInteger_getChars 69 = .ok (.goto (-47), 3) := by decide +kernel
theorem d_JInteger_getChars_72 : decode b_JInteger_getChars 72 = .ok (.aload_n 2, 1) := by decide +kernel
theorem d_JInteger_getChars_73 : decode b_JInteger_getChars 73 = .ok (.iinc 5 (-1), 3) := by decide +kernel
theorem d_JInteger_getChars_76 : decode b_JInteger_getChars 76 = .ok (.iload 5, 2) := by decide +kernel
theorem d_JInteger_getChars_78 : decode b_JInteger_getChars 78 = .ok (.getstatic 83, 3) := by decide +kernel
theorem d_JInteger_getChars_81 : decode b_JInteger_getChars 81 = .ok (.iload_n 0, 1) := by decide +kernel
theorem d_JInteger_getChars_82 : decode b_JInteger_getChars 82 = .ok (.ineg, 1) := by decide +kernel
theorem d_JInteger_getChars_83 : decode b_JInteger_getChars 83 = .ok (.baload, 1) := by decide +kernel
theorem d_JInteger_getChars_84 : decode b_JInteger_getChars 84 = .ok (.bastore, 1) := by decide +kernel
theorem d_JInteger_getChars_85 : decode b_JInteger_getChars 85 = .ok (.iload_n 0, 1) := by decide +kernel
theorem d_JInteger_getChars_86 : decode b_JInteger_getChars 86 = .ok (.bipush (-9), 2) := by decide +kernel
theorem d_JInteger_getChars_88 : decode b_JInteger_getChars 88 = .ok (.if_icmp .ge 16, 3) := by decide +kernel
theorem d_JInteger_getChars_91 : decode b_JInteger_getChars 91 = .ok (.aload_n 2, 1) := by decide +kernel
theorem d_JInteger_getChars_92 : decode b_JInteger_getChars 92 = .ok (.iinc 5 (-1), 3) := by decide +kernel
theorem d_JInteger_getChars_95 : decode b_JInteger_getChars 95 = .ok (.iload 5, 2) := by decide +kernel
theorem d_JInteger_getChars_97 : decode b_JInteger_getChars 97 = .ok (.getstatic 87, 3) := by decide +kernel
theorem d_JInteger_getChars_100 : decode b_JInteger_getChars 100 = .ok (.iload_n 0, 1) := by decide +kernel
theorem d_JInteger_getChars_101 : decode b_JInteger_getChars 101 = .ok (.ineg, 1) := by decide +kernel
theorem d_JInteger_getChars_102 : decode b_JInteger_getChars 102 = .ok (.baload, 1) := by decide +kernel
theorem d_JInteger_getChars_103 : decode b_JInteger_getChars 103 = .ok (.bastore, 1) := by decide +kernel
theorem d_JInteger_getChars_104 : decode b_JInteger_getChars 104 = .ok (.iload 6, 2) := by decide +kernel
theorem d_JInteger_getChars_106 : decode b_JInteger_getChars 106 = .ok (.ifCond .eq 12, 3) := by decide +kernel
theorem d_JInteger_getChars_109 : decode b_JInteger_getChars 109 = .ok (.aload_n 2, 1) := by decide +kernel
theorem d_JInteger_getChars_110 : decode b_JInteger_getChars 110 = .ok (.iinc 5 (-1), 3) := by decide +kernel
theorem d_JInteger_getChars_113 : decode b_JInteger_getChars 113 = .ok (.iload 5, 2) := by decide +kernel
theorem d_JInteger_getChars_115 : decode b_JInteger_getChars 115 = .ok (.bipush 45, 2) := by decide +kernel
theorem d_JInteger_getChars_117 : decode b_JInteger_getChars 117 = .ok (.bastore, 1) := by decide +kernel
theorem d_JInteger_getChars_118 : decode b_JInteger_getChars 118 = .ok (.iload 5, 2) := by decide +kernel
theorem d_JInteger_getChars_120 : decode b_JInteger_getChars 120 = .ok (.ireturn, 1) := by decide +kernel
theorem d_JStringUTF16_getChars1_0 : decode b_JStringUTF16_getChars1 0 = .ok (.iload_n 1, 1) := by decide +kernel
theorem d_JStringUTF16_getChars1_1 : decode b_JStringUTF16_getChars1 1 = .ok (.iload_n 2, 1) := by decide +kernel
theorem d_JStringUTF16_getChars1_2 : decode b_JStringUTF16_getChars1 2 = .ok (.aload_n 3, 1) := by decide +kernel
theorem d_JStringUTF16_getChars1_3 : decode b_JStringUTF16_getChars1 3 = .ok (.invokestatic 96, 3) := by decide +kernel
theorem d_JStringUTF16_getChars1_6 : decode b_JStringUTF16_getChars1 6 = .ok (.iload_n 0, 1) := by decide +kernel
theorem d_JStringUTF16_getChars1_7 : decode b_JStringUTF16_getChars1 7 = .ok (.iload_n 2, 1) := by decide +kernel
theorem d_JStringUTF16_getChars1_8 : decode b_JStringUTF16_getChars1 8 = .ok (.aload_n 3, 1) := by decide +kernel
theorem d_JStringUTF16_getChars1_9 : decode b_JStringUTF16_getChars1 9 = .ok (.invokestatic 393, 3) := by decide +kernel
theorem d_JStringUTF16_getChars1_12 : decode b_JStringUTF16_getChars1 12 = .ok (.istore 4, 2) := by decide +kernel
theorem d_JStringUTF16_getChars1_14 : decode b_JStringUTF16_getChars1 14 = .ok (.getstatic 44, 3) := by decide +kernel
theorem d_JStringUTF16_getChars1_17 : decode b_JStringUTF16_getChars1 17 = .ok (.ifCond .ne 17, 3) := by decide +kernel
theorem d_JStringUTF16_getChars1_20 : decode b_JStringUTF16_getChars1 20 = .ok (.iload_n 1, 1) := by decide +kernel
theorem d_JStringUTF16_getChars1_21 : decode b_JStringUTF16_getChars1 21 = .ok (.iload 4, 2) := by decide +kernel
theorem d_JStringUTF16_getChars1_23 : decode b_JStringUTF16_getChars1 23 = .ok (.if_icmp .eq 11, 3) := by decide +kernel
theorem d_JStringUTF16_getChars1_26 : decode b_JStringUTF16_getChars1 26 = .ok (.new 52, 3) := by decide +kernel
theorem d_JStringUTF16_getChars1_29 : decode b_JStringUTF16_getChars1 29 = .ok (.dup, 1) := by decide +kernel
theorem d_JStringUTF16_getChars1_30 : decode b_JStringUTF16_getChars1 30 = .ok (.invokespecial 66, 3) := by decide +kernel
theorem d_JStringUTF16_getChars1_33 : decode b_JStringUTF16_getChars1 33 = .ok (.athrow, 1) := by decide +kernel
theorem d_JStringUTF16_getChars1_34 : decode b_JStringUTF16_getChars1 34 = .ok (.iload 4, 2) := by decide +kernel
theorem d_JStringUTF16_getChars1_36 : decode b_JStringUTF16_getChars1 36 = .ok (.ireturn, 1) := by decide +kernel
theorem d_JStringUTF16_checkBoundsBeginEnd_0 : decode b_JStringUTF16_checkBoundsBeginEnd 0 = .ok (.iload_n 0, 1) := by decide +kernel
theorem d_JStringUTF16_checkBoundsBeginEnd_1 : decode b_JStringUTF16_checkBoundsBeginEnd 1 = .ok (.iload_n 1, 1) := by decide +kernel
theorem d_JStringUTF16_checkBoundsBeginEnd_2 : decode b_JStringUTF16_checkBoundsBeginEnd 2 = .ok (.aload_n 2, 1) := by decide +kernel
theorem d_JStringUTF16_checkBoundsBeginEnd_3 : decode b_JStringUTF16_checkBoundsBeginEnd 3 = .ok (.invokestatic 48, 3) := by decide +kernel
theorem d_JStringUTF16_checkBoundsBeginEnd_6 : decode b_JStringUTF16_checkBoundsBeginEnd 6 = .ok (.invokestatic 241, 3) := by decide +kernel
theorem d_JStringUTF16_checkBoundsBeginEnd_9 : decode b_JStringUTF16_checkBoundsBeginEnd 9 = .ok (.return_, 1) := by decide +kernel
theorem d_JString_checkBoundsBeginEnd_0 : decode b_JString_checkBoundsBeginEnd 0 = .ok (.iload_n 0, 1) := by decide +kernel
theorem d_JString_checkBoundsBeginEnd_1 : decode b_JString_checkBoundsBeginEnd 1 = .ok (.iload_n 1, 1) := by decide +kernel
theorem d_JString_checkBoundsBeginEnd_2 : decode b_JString_checkBoundsBeginEnd 2 = .ok (.iload_n 2, 1) := by decide +kernel
theorem d_JString_checkBoundsBeginEnd_3 : decode b_JString_checkBoundsBeginEnd 3 = .ok (.getstatic 1053, 3) := by decide +kernel
theorem d_JString_checkBoundsBeginEnd_6 : decode b_JString_checkBoundsBeginEnd 6 = .ok (.invokestatic 1062, 3) := by decide +kernel
theorem d_JString_checkBoundsBeginEnd_9 : decode b_JString_checkBoundsBeginEnd 9 = .ok (.pop, 1) := by decide +kernel
theorem d_JString_checkBoundsBeginEnd_10 : decode b_JString_checkBoundsBeginEnd 10 = .ok (.return_, 1) := by decide +kernel
theorem d_JPreconditions_checkFromToIndex_0 : decode b_JPreconditions_checkFromToIndex 0 = .ok (.iload_n 0, 1) := by decide +kernel
theorem d_JPreconditions_checkFromToIndex_1 : decode b_JPreconditions_checkFromToIndex 1 = .ok (.ifCond .lt 13, 3) := by decide +kernel
theorem d_JPreconditions_checkFromToIndex_4 : decode b_JPreconditions_checkFromToIndex 4 = .ok (.iload_n 0, 1) := by decide +kernel
theorem d_JPreconditions_checkFromToIndex_5 : decode b_JPreconditions_checkFromToIndex 5 = .ok (.iload_n 1, 1) := by decide +kernel
theorem d_JPreconditions_checkFromToIndex_6 : decode b_JPreconditions_checkFromToIndex 6 = .ok (.if_icmp .gt 8, 3) := by decide +kernel
theorem d_JPreconditions_checkFromToIndex_9 : decode b_JPreconditions_checkFromToIndex 9 = .ok (.iload_n 1, 1) := by decide +kernel
theorem d_JPreconditions_checkFromToIndex_10 : decode b_JPreconditions_checkFromToIndex 10 = .ok (.iload_n 2, 1) := by decide +kernel
theorem d_JPreconditions_checkFromToIndex_11 : decode b_JPreconditions_checkFromToIndex 11 = .ok (.if_icmp .le 11, 3) := by decide +kernel
theorem d_JPreconditions_checkFromToIndex_14 : decode b_JPreconditions_checkFromToIndex 14 = .ok (.aload_n 3, 1) := by decide +kernel
theorem d_JPreconditions_checkFromToIndex_15 : decode b_JPreconditions_checkFromToIndex 15 = .ok (.iload_n 0, 1) := by decide +kernel
theorem d_JPreconditions_checkFromToIndex_16 : decode b_JPreconditions_checkFromToIndex 16 = .ok (.iload_n 1, 1) := by decide +kernel
theorem d_JPreconditions_checkFromToIndex_17 : decode b_JPreconditions_checkFromToIndex 17 = .ok (.iload_n 2, 1) := by decide +kernel
theorem d_JPreconditions_checkFromToIndex_18 : decode b_JPreconditions_checkFromToIndex 18 = .ok (.invokestatic 99, 3) := by decide +kernel
theorem d_JPreconditions_checkFromToIndex_21 : decode b_JPreconditions_checkFromToIndex 21 = .ok (.athrow, 1) := by decide +kernel
theorem d_JPreconditions_checkFromToIndex_22 : decode b_JPreconditions_checkFromToIndex 22 = .ok (.iload_n 0, 1) := by decide +kernel
theorem d_JPreconditions_checkFromToIndex_23 : decode b_JPreconditions_checkFromToIndex 23 = .ok (.ireturn, 1) := by decide +kernel
theorem d_JStringUTF16_getChars2_0 : decode b_JStringUTF16_getChars2 0 = .ok (.iload_n 1, 1) := by decide +kernel
theorem d_JStringUTF16_getChars2_1 : decode b_JStringUTF16_getChars2 1 = .ok (.istore 5, 2) := by decide +kernel
theorem d_JStringUTF16_getChars2_3 : decode b_JStringUTF16_getChars2 3 = .ok (.iload_n 0, 1) := by decide +kernel
theorem d_JStringUTF16_getChars2_4 : decode b_JStringUTF16_getChars2 4 = .ok (.ifCond .ge 7, 3) := by decide +kernel
theorem d_JStringUTF16_getChars2_7 : decode b_JStringUTF16_getChars2 7 = .ok (.iconst 1, 1) := by decide +kernel
theorem d_JStringUTF16_getChars2_8 : decode b_JStringUTF16_getChars2 8 = .ok (.goto 4, 3) := by decide +kernel
theorem d_JStringUTF16_getChars2_11 : decode b_JStringUTF16_getChars2 11 = .ok (.iconst 0, 1) := by decide +kernel
theorem d_JStringUTF16_getChars2_12 : decode b_JStringUTF16_getChars2 12 = .ok (.istore 6, 2) := by decide +kernel
theorem d_JStringUTF16_getChars2_14 : decode b_JStringUTF16_getChars2 14 = .ok (.iload 6, 2) := by decide +kernel
theorem d_JStringUTF16_getChars2_16 : decode b_JStringUTF16_getChars2 16 = .ok (.ifCond .ne 6, 3) := by decide +kernel
theorem d_JStringUTF16_getChars2_19 : decode b_JStringUTF16_getChars2 19 = .ok (.iload_n 0, 1) := by decide +kernel
theorem d_JStringUTF16_getChars2_20 : decode b_JStringUTF16_getChars2 20 = .ok (.ineg, 1) := by decide +kernel
theorem d_JStringUTF16_getChars2_21 : decode b_JStringUTF16_getChars2 21 = .ok (.istore_n 0, 1) := by decide +kernel
theorem d_JStringUTF16_getChars2_22 : decode b_JStringUTF16_getChars2 22 = .ok (.iload_n 0, 1) := by decide +kernel
theorem d_JStringUTF16_getChars2_23 : decode b_JStringUTF16_getChars2 23 = .ok (.bipush (-100), 2) := by decide +kernel
theorem d_JStringUTF16_getChars2_25 : decode b_JStringUTF16_getChars2 25 = .ok (.if_icmp .gt 51, 3) := by decide +kernel
theorem d_JStringUTF16_getChars2_28 : decode b_JStringUTF16_getChars2 28 = .ok (.iload_n 0, 1) := by decide +kernel
theorem d_JStringUTF16_getChars2_29 : decode b_JStringUTF16_getChars2 29 = .ok (.bipush 100, 2) := by decide +kernel
theorem d_JStringUTF16_getChars2_31 : decode b_JStringUTF16_getChars2 31 = .ok (.idiv, 1) := by decide +kernel
theorem d_JStringUTF16_getChars2_32 : decode b_JStringUTF16_getChars2 32 = .ok (.istore_n 3, 1) := by decide +kernel
theorem d_JStringUTF16_getChars2_33 : decode b_JStringUTF16_getChars2 33 = .ok (.iload_n 3, 1) := by decide +kernel
theorem d_JStringUTF16_getChars2_34 : decode b_JStringUTF16_getChars2 34 = .ok (.bipush 100, 2) := by decide +kernel
theorem d_JStringUTF16_getChars2_36 : decode b_JStringUTF16_getChars2 36 = .ok (.imul, 1) := by decide +kernel
theorem d_JStringUTF16_getChars2_37 : decode b_JStringUTF16_getChars2 37 = .ok (.iload_n 0, 1) := by decide +kernel
theorem d_JStringUTF16_getChars2_38 : decode b_JStringUTF16_getChars2 38 = .ok (.isub, 1) := by decide +kernel
theorem d_JStringUTF16_getChars2_39 : decode b_JStringUTF16_getChars2 39 = .ok (.istore 4, 2) := by decide +kernel
theorem d_JStringUTF16_getChars2_41 : decode b_JStringUTF16_getChars2 41 = .ok (.iload_n 3, 1) := by decide +kernel
theorem d_JStringUTF16_getChars2_42 : decode b_JStringUTF16_getChars2 42 = .ok (.istore_n 0, 1) := by decide +kernel
theorem d_JStringUTF16_getChars2_43 : decode b_JStringUTF16_getChars2 43 = .ok (.aload_n 2, 1) := by decide +kernel
theorem d_JStringUTF16_getChars2_44 : decode b_JStringUTF16_getChars2 44 = .ok (.iinc 5 (-1), 3) := by decide +kernel
theorem d_JStringUTF16_getChars2_47 : decode b_JStringUTF16_getChars2 47 = .ok (.iload 5, 2) := by decide +kernel
theorem d_JStringUTF16_getChars2_49 : decode b_JStringUTF16_getChars2 49 = .ok (.getstatic 403, 3) := by decide +kernel
theorem d_JStringUTF16_getChars2_52 : decode b_JStringUTF16_getChars2 52 = .ok (.iload 4, 2) := by decide +kernel
theorem d_JStringUTF16_getChars2_54 : decode b_JStringUTF16_getChars2 54 = .ok (.baload, 1) := by decide +kernel
theorem d_JStringUTF16_getChars2_55 : decode b_JStringUTF16_getChars2 55 = .ok (.invokestatic 111, 3) := by decide +kernel
theorem d_JStringUTF16_getChars2_58 : decode b_JStringUTF16_getChars2 58 = .ok (.aload_n 2, 1) := by decide +kernel
theorem d_JStringUTF16_getChars2_59 : decode b_JStringUTF16_getChars2 59 = .ok (.iinc 5 (-1), 3) := by decide +kernel
theorem d_JStringUTF16_getChars2_62 : decode b_JStringUTF16_getChars2 62 = .ok (.iload 5, 2) := by decide +kernel
theorem d_JStringUTF16_getChars2_64 : decode b_JStringUTF16_getChars2 64 = .ok (.getstatic 407, 3) := by decide +kernel
theorem d_JStringUTF16_getChars2_67 : decode b_JStringUTF16_getChars2 67 = .ok (.iload 4, 2) := by decide +kernel
theorem d_JStringUTF16_getChars2_69 : decode b_JStringUTF16_getChars2 69 = .ok (.baload, 1) := by decide +kernel
theorem d_JStringUTF16_getChars2_70 : decode b_JStringUTF16_getChars2 70 = .ok (.invokestatic 111, 3) := by decide +kernel
theorem d_JStringUTF16_getChars2_73 : decode b_JStringUTF16_getChars2 73 = .ok (.goto (-51), 3) := by decide +kernel
theorem d_JStringUTF16_getChars2_76 : decode b_JStringUTF16_getChars2 76 = .ok (.aload_n 2, 1) := by decide +kernel
theorem d_JStringUTF16_getChars2_77 : decode b_JStringUTF16_getChars2 77 = .ok (.iinc 5 (-1), 3) := by decide +kernel
theorem d_JStringUTF16_getChars2_80 : decode b_JStringUTF16_getChars2 80 = .ok (.iload 5, 2) := by decide +kernel
theorem d_JStringUTF16_getChars2_82 : decode b_JStringUTF16_getChars2 82 = .ok (.getstatic 403, 3) := by decide +kernel
theorem d_JStringUTF16_getChars2_85 : decode b_JStringUTF16_getChars2 85 = .ok (.iload_n 0, 1) := by decide +kernel
theorem d_JStringUTF16_getChars2_86 : decode b_JStringUTF16_getChars2 86 = .ok (.ineg, 1) := by decide +kernel
theorem d_JStringUTF16_getChars2_87 : decode b_JStringUTF16_getChars2 87 = .ok (.baload, 1) := by decide +kernel
theorem d_JStringUTF16_getChars2_88 : decode b_JStringUTF16_getChars2 88 = .ok (.invokestatic 111, 3) := by decide +kernel
theorem d_JStringUTF16_getChars2_91 : decode b_JStringUTF16_getChars2 91 = .ok (.iload_n 0, 1) := by decide +kernel
theorem d_JStringUTF16_getChars2_92 : decode b_JStringUTF16_getChars2 92 = .ok (.bipush (-9), 2) := by decide +kernel
theorem d_JStringUTF16_getChars2_94 : decode b_JStringUTF16_getChars2 94 = .ok (.if_icmp .ge 18, 3) := by decide +kernel
theorem d_JStringUTF16_getChars2_97 : decode b_JStringUTF16_getChars2 97 = .ok (.aload_n 2, 1) := by decide +kernel
theorem d_JStringUTF16_getChars2_98 : decode b_JStringUTF16_getChars2 98 = .ok (.iinc 5 (-1), 3) := by decide +kernel
theorem d_JStringUTF16_getChars2_101 : decode b_JStringUTF16_getChars2 101 = .ok (.iload 5, 2) := by decide +kernel
theorem d_JStringUTF16_getChars2_103 : decode b_JStringUTF16_getChars2 103 = .ok (.getstatic 407, 3) := by decide +kernel
theorem d_JStringUTF16_getChars2_106 : decode b_JStringUTF16_getChars2 106 = .ok (.iload_n 0, 1) := by decide +kernel
theorem d_JStringUTF16_getChars2_107 : decode b_JStringUTF16_getChars2 107 = .ok (.ineg, 1) := by decide +kernel
theorem d_JStringUTF16_getChars2_108 : decode b_JStringUTF16_getChars2 108 = .ok (.baload, 1) := by decide +kernel
theorem d_JStringUTF16_getChars2_109 : decode b_JStringUTF16_getChars2 109 = .ok (.invokestatic 111, 3) := by decide +kernel
theorem d_JStringUTF16_getChars2_112 : decode b_JStringUTF16_getChars2 112 = .ok (.iload 6, 2) := by decide +kernel
theorem d_JStringUTF16_getChars2_114 : decode b_JStringUTF16_getChars2 114 = .ok (.ifCond .eq 14, 3) := by decide +kernel
theorem d_JStringUTF16_getChars2_117 : decode b_JStringUTF16_getChars2 117 = .ok (.aload_n 2, 1) := by decide +kernel
theorem d_JStringUTF16_getChars2_118 : decode b_JStringUTF16_getChars2 118 = .ok (.iinc 5 (-1), 3) := by decide +kernel
theorem d_JStringUTF16_getChars2_121 : decode b_JStringUTF16_getChars2 121 = .ok (.iload 5, 2) := by decide +kernel
theorem d_JStringUTF16_getChars2_123 : decode b_JStringUTF16_getChars2 123 = .ok (.bipush 45, 2) := by decide +kernel
theorem d_JStringUTF16_getChars2_125 : decode b_JStringUTF16_getChars2 125 = .ok (.invokestatic 111, 3) := by decide +kernel
theorem d_JStringUTF16_getChars2_128 : decode b_JStringUTF16_getChars2 128 = .ok (.iload 5, 2) := by decide +kernel
theorem d_JStringUTF16_getChars2_130 : decode b_JStringUTF16_getChars2 130 = .ok (.ireturn, 1) := by decide +kernel
theorem d_JStringUTF16_putChar_0 : decode b_JStringUTF16_putChar 0 = .ok (.getstatic 44, 3) := by decide +kernel
theorem d_JStringUTF16_putChar_3 : decode b_JStringUTF16_putChar 3 = .ok (.ifCond .ne 25, 3) := by decide +kernel
theorem d_JStringUTF16_putChar_6 : decode b_JStringUTF16_putChar 6 = .ok (.iload_n 1, 1) := by decide +kernel
theorem d_JStringUTF16_putChar_7 : decode b_JStringUTF16_putChar 7 = .ok (.ifCond .lt 11, 3) := by decide +kernel
theorem d_JStringUTF16_putChar_10 : decode b_JStringUTF16_putChar 10 = .ok (.iload_n 1, 1) := by decide +kernel
theorem d_JStringUTF16_putChar_11 : decode b_JStringUTF16_putChar 11 = .ok (.aload_n 0, 1) := by decide +kernel
theorem d_JStringUTF16_putChar_12 : decode b_JStringUTF16_putChar 12 = .ok (.invokestatic 48, 3) := by decide +kernel
theorem d_JStringUTF16_putChar_15 : decode b_JStringUTF16_putChar 15 = .ok (.if_icmp .lt 13, 3) := by decide +kernel
theorem d_JStringUTF16_putChar_18 : decode b_JStringUTF16_putChar 18 = .ok (.new 52, 3) := by decide +kernel
theorem d_JStringUTF16_putChar_21 : decode b_JStringUTF16_putChar 21 = .ok (.dup, 1) := by decide +kernel
theorem d_JStringUTF16_putChar_22 : decode b_JStringUTF16_putChar 22 = .ok (.ldc 54, 2) := by decide +kernel
theorem d_JStringUTF16_putChar_24 : decode b_JStringUTF16_putChar 24 = .ok (.invokespecial 56, 3) := by decide +kernel
theorem d_JStringUTF16_putChar_27 : decode b_JStringUTF16_putChar 27 = .ok (.athrow, 1) := by decide +kernel
theorem d_JStringUTF16_putChar_28 : decode b_JStringUTF16_putChar 28 = .ok (.iload_n 1, 1) := by decide +kernel
theorem d_JStringUTF16_putChar_29 : decode b_JStringUTF16_putChar 29 = .ok (.iconst 1, 1) := by decide +kernel
theorem d_JStringUTF16_putChar_30 : decode b_JStringUTF16_putChar 30 = .ok (.ishl, 1) := by decide +kernel
theorem d_JStringUTF16_putChar_31 : decode b_JStringUTF16_putChar 31 = .ok (.istore_n 1, 1) := by decide +kernel
theorem d_JStringUTF16_putChar_32 : decode b_JStringUTF16_putChar 32 = .ok (.aload_n 0, 1) := by decide +kernel
theorem d_JStringUTF16_putChar_33 : decode b_JStringUTF16_putChar 33 = .ok (.iload_n 1, 1) := by decide +kernel
theorem d_JStringUTF16_putChar_34 : decode b_JStringUTF16_putChar 34 = .ok (.iinc 1 1, 3) := by decide +kernel
theorem d_JStringUTF16_putChar_37 : decode b_JStringUTF16_putChar 37 = .ok (.iload_n 2, 1) := by decide +kernel
theorem d_JStringUTF16_putChar_38 : decode b_JStringUTF16_putChar 38 = .ok (.getstatic 59, 3) := by decide +kernel
theorem d_JStringUTF16_putChar_41 : decode b_JStringUTF16_putChar 41 = .ok (.ishr, 1) := by decide +kernel
theorem d_JStringUTF16_putChar_42 : decode b_JStringUTF16_putChar 42 = .ok (.i2b, 1) := by decide +kernel
theorem d_JStringUTF16_putChar_43 : decode b_JStringUTF16_putChar 43 = .ok (.bastore, 1) := by decide +kernel
theorem d_JStringUTF16_putChar_44 : decode b_JStringUTF16_putChar 44 = .ok (.aload_n 0, 1) := by decide +kernel
theorem d_JStringUTF16_putChar_45 : decode b_JStringUTF16_putChar 45 = .ok (.iload_n 1, 1) := by decide +kernel
theorem d_JStringUTF16_putChar_46 : decode b_JStringUTF16_putChar 46 = .ok (.iload_n 2, 1) := by decide +kernel
theorem d_JStringUTF16_putChar_47 : decode b_JStringUTF16_putChar 47 = .ok (.getstatic 63, 3) := by decide +kernel
theorem d_JStringUTF16_putChar_50 : decode b_JStringUTF16_putChar 50 = .ok (.ishr, 1) := by decide +kernel
theorem d_JStringUTF16_putChar_51 : decode b_JStringUTF16_putChar 51 = .ok (.i2b, 1) := by decide +kernel
theorem d_JStringUTF16_putChar_52 : decode b_JStringUTF16_putChar 52 = .ok (.bastore, 1) := by decide +kernel
theorem d_JStringUTF16_putChar_53 : decode b_JStringUTF16_putChar 53 = .ok (.return_, 1) := by decide +kernel
theorem d_JStringLatin1_canEncode_0 : decode b_JStringLatin1_canEncode 0 = .ok (.iload_n 0, 1) := by decide +kernel
theorem d_JStringLatin1_canEncode_1 : decode b_JStringLatin1_canEncode 1 = .ok (.sipush 255, 3) := by decide +kernel
theorem d_JStringLatin1_canEncode_4 : decode b_JStringLatin1_canEncode 4 = .ok (.if_icmp .gt 7, 3) := by decide +kernel
theorem d_JStringLatin1_canEncode_7 : decode b_JStringLatin1_canEncode 7 = .ok (.iconst 1, 1) := by decide +kernel
theorem d_JStringLatin1_canEncode_8 : decode b_JStringLatin1_canEncode 8 = .ok (.goto 4, 3) := by decide +kernel
theorem d_JStringLatin1_canEncode_11 : decode b_JStringLatin1_canEncode 11 = .ok (.iconst 0, 1) := by decide +kernel
theorem d_JStringLatin1_canEncode_12 : decode b_JStringLatin1_canEncode 12 = .ok (.ireturn, 1) := by decide +kernel
theorem d_JStringLatin1_inflate_0 : decode b_JStringLatin1_inflate 0 = .ok (.aload_n 0, 1) := by decide +kernel
theorem d_JStringLatin1_inflate_1 : decode b_JStringLatin1_inflate 1 = .ok (.iload_n 1, 1) := by decide +kernel
theorem d_JStringLatin1_inflate_2 : decode b_JStringLatin1_inflate 2 = .ok (.aload_n 2, 1) := by decide +kernel
theorem d_JStringLatin1_inflate_3 : decode b_JStringLatin1_inflate 3 = .ok (.iload_n 3, 1) := by decide +kernel
theorem d_JStringLatin1_inflate_4 : decode b_JStringLatin1_inflate 4 = .ok (.iload 4, 2) := by decide +kernel
theorem d_JStringLatin1_inflate_6 : decode b_JStringLatin1_inflate 6 = .ok (.invokestatic 240, 3) := by decide +kernel
theorem d_JStringLatin1_inflate_9 : decode b_JStringLatin1_inflate 9 = .ok (.return_, 1) := by decide +kernel
theorem d_JStringUTF16_inflate_0 : decode b_JStringUTF16_inflate 0 = .ok (.iload_n 3, 1) := by decide +kernel
theorem d_JStringUTF16_inflate_1 : decode b_JStringUTF16_inflate 1 = .ok (.iload 4, 2) := by decide +kernel
theorem d_JStringUTF16_inflate_3 : decode b_JStringUTF16_inflate 3 = .ok (.aload_n 2, 1) := by decide +kernel
theorem d_JStringUTF16_inflate_4 : decode b_JStringUTF16_inflate 4 = .ok (.invokestatic 173, 3) := by decide +kernel
theorem d_JStringUTF16_inflate_7 : decode b_JStringUTF16_inflate 7 = .ok (.iconst 0, 1) := by decide +kernel
theorem d_JStringUTF16_inflate_8 : decode b_JStringUTF16_inflate 8 = .ok (.istore 5, 2) := by decide +kernel
theorem d_JStringUTF16_inflate_10 : decode b_JStringUTF16_inflate 10 = .ok (.iload 5, 2) := by decide +kernel
theorem d_JStringUTF16_inflate_12 : decode b_JStringUTF16_inflate 12 = .ok (.iload 4, 2) := by decide +kernel
theorem d_JStringUTF16_inflate_14 : decode b_JStringUTF16_inflate 14 = .ok (.if_icmp .ge 27, 3) := by decide +kernel
theorem d_JStringUTF16_inflate_17 : decode b_JStringUTF16_inflate 17 = .ok (.aload_n 2, 1) := by decide +kernel
theorem d_JStringUTF16_inflate_18 : decode b_JStringUTF16_inflate 18 = .ok (.iload_n 3, 1) := by decide +kernel
theorem d_JStringUTF16_inflate_19 : decode b_JStringUTF16_inflate 19 = .ok (.iinc 3 1, 3) := by decide +kernel
theorem d_JStringUTF16_inflate_22 : decode b_JStringUTF16_inflate 22 = .ok (.aload_n 0, 1) := by decide +kernel
theorem d_JStringUTF16_inflate_23 : decode b_JStringUTF16_inflate 23 = .ok (.iload_n 1, 1) := by decide +kernel
theorem d_JStringUTF16_inflate_24 : decode b_JStringUTF16_inflate 24 = .ok (.iinc 1 1, 3) := by decide +kernel
theorem d_JStringUTF16_inflate_27 : decode b_JStringUTF16_inflate 27 = .ok (.baload, 1) := by decide +kernel
theorem d_JStringUTF16_inflate_28 : decode b_JStringUTF16_inflate 28 = .ok (.sipush 255, 3) := by decide +kernel
theorem d_JStringUTF16_inflate_31 : decode b_JStringUTF16_inflate 31 = .ok (.iand, 1) := by decide +kernel
theorem d_JStringUTF16_inflate_32 : decode b_JStringUTF16_inflate 32 = .ok (.invokestatic 111, 3) := by decide +kernel
theorem d_JStringUTF16_inflate_35 : decode b_JStringUTF16_inflate 35 = .ok (.iinc 5 1, 3) := by decide +kernel
theorem d_JStringUTF16_inflate_38 : decode b_JStringUTF16_inflate 38 = .ok (.goto (-28), 3) := by decide +kernel
theorem d_JStringUTF16_inflate_41 : decode b_JStringUTF16_inflate 41 = .ok (.return_, 1) := by decide +kernel
theorem d_JStringUTF16_checkBoundsOffCount_0 : decode b_JStringUTF16_checkBoundsOffCount 0 = .ok (.iload_n 0, 1) := by decide +kernel
theorem d_JStringUTF16_checkBoundsOffCount_1 : decode b_JStringUTF16_checkBoundsOffCount 1 = .ok (.iload_n 1, 1) := by decide +kernel
theorem d_JStringUTF16_checkBoundsOffCount_2 : decode b_JStringUTF16_checkBoundsOffCount 2 = .ok (.aload_n 2, 1) := by decide +kernel
theorem d_JStringUTF16_checkBoundsOffCount_3 : decode b_JStringUTF16_checkBoundsOffCount 3 = .ok (.invokestatic 48, 3) := by decide +kernel
theorem d_JStringUTF16_checkBoundsOffCount_6 : decode b_JStringUTF16_checkBoundsOffCount 6 = .ok (.invokestatic 419, 3) := by decide +kernel
theorem d_JStringUTF16_checkBoundsOffCount_9 : decode b_JStringUTF16_checkBoundsOffCount 9 = .ok (.pop, 1) := by decide +kernel
theorem d_JStringUTF16_checkBoundsOffCount_10 : decode b_JStringUTF16_checkBoundsOffCount 10 = .ok (.return_, 1) := by decide +kernel
theorem d_JString_checkBoundsOffCount_0 : decode b_JString_checkBoundsOffCount 0 = .ok (.iload_n 0, 1) := by decide +kernel
theorem d_JString_checkBoundsOffCount_1 : decode b_JString_checkBoundsOffCount 1 = .ok (.iload_n 1, 1) := by decide +kernel
theorem d_JString_checkBoundsOffCount_2 : decode b_JString_checkBoundsOffCount 2 = .ok (.iload_n 2, 1) := by decide +kernel
theorem d_JString_checkBoundsOffCount_3 : decode b_JString_checkBoundsOffCount 3 = .ok (.getstatic 1053, 3) := by decide +kernel
theorem d_JString_checkBoundsOffCount_6 : decode b_JString_checkBoundsOffCount 6 = .ok (.invokestatic 1065, 3) := by decide +kernel
theorem d_JString_checkBoundsOffCount_9 : decode b_JString_checkBoundsOffCount 9 = .ok (.ireturn, 1) := by decide +kernel
theorem d_JPreconditions_checkFromIndexSize_0 : decode b_JPreconditions_checkFromIndexSize 0 = .ok (.iload_n 2, 1) := by decide +kernel
theorem d_JPreconditions_checkFromIndexSize_1 : decode b_JPreconditions_checkFromIndexSize 1 = .ok (.iload_n 0, 1) := by decide +kernel
theorem d_JPreconditions_checkFromIndexSize_2 : decode b_JPreconditions_checkFromIndexSize 2 = .ok (.ior, 1) := by decide +kernel
theorem d_JPreconditions_checkFromIndexSize_3 : decode b_JPreconditions_checkFromIndexSize 3 = .ok (.iload_n 1, 1) := by decide +kernel
theorem d_JPreconditions_checkFromIndexSize_4 : decode b_JPreconditions_checkFromIndexSize 4 = .ok (.ior, 1) := by decide +kernel
theorem d_JPreconditions_checkFromIndexSize_5 : decode b_JPreconditions_checkFromIndexSize 5 = .ok (.ifCond .lt 10, 3) := by decide +kernel
theorem d_JPreconditions_checkFromIndexSize_8 : decode b_JPreconditions_checkFromIndexSize 8 = .ok (.iload_n 1, 1) := by decide +kernel
theorem d_JPreconditions_checkFromIndexSize_9 : decode b_JPreconditions_checkFromIndexSize 9 = .ok (.iload_n 2, 1) := by decide +kernel
theorem d_JPreconditions_checkFromIndexSize_10 : decode b_JPreconditions_checkFromIndexSize 10 = .ok (.iload_n 0, 1) := by decide +kernel
theorem d_JPreconditions_checkFromIndexSize_11 : decode b_JPreconditions_checkFromIndexSize 11 = .ok (.isub, 1) := by decide +kernel
theorem d_JPreconditions_checkFromIndexSize_12 : decode b_JPreconditions_checkFromIndexSize 12 = .ok (.if_icmp .le 11, 3) := by decide +kernel
theorem d_JPreconditions_checkFromIndexSize_15 : decode b_JPreconditions_checkFromIndexSize 15 = .ok (.aload_n 3, 1) := by decide +kernel
theorem d_JPreconditions_checkFromIndexSize_16 : decode b_JPreconditions_checkFromIndexSize 16 = .ok (.iload_n 0, 1) := by decide +kernel
theorem d_JPreconditions_checkFromIndexSize_17 : decode b_JPreconditions_checkFromIndexSize 17 = .ok (.iload_n 1, 1) := by decide +kernel
theorem d_JPreconditions_checkFromIndexSize_18 : decode b_JPreconditions_checkFromIndexSize 18 = .ok (.iload_n 2, 1) := by decide +kernel
theorem d_JPreconditions_checkFromIndexSize_19 : decode b_JPreconditions_checkFromIndexSize 19 = .ok (.invokestatic 103, 3) := by decide +kernel
theorem d_JPreconditions_checkFromIndexSize_22 : decode b_JPreconditions_checkFromIndexSize 22 = .ok (.athrow, 1) := by decide +kernel
theorem d_JPreconditions_checkFromIndexSize_23 : decode b_JPreconditions_checkFromIndexSize 23 = .ok (.iload_n 0, 1) := by decide +kernel
theorem d_JPreconditions_checkFromIndexSize_24 : decode b_JPreconditions_checkFromIndexSize 24 = .ok (.ireturn, 1) := by decide +kernel
theorem d_JStringUTF16_putCharSB_0 : decode b_JStringUTF16_putCharSB 0 = .ok (.iload_n 1, 1) := by decide +kernel
theorem d_JStringUTF16_putCharSB_1 : decode b_JStringUTF16_putCharSB 1 = .ok (.aload_n 0, 1) := by decide +kernel
theorem d_JStringUTF16_putCharSB_2 : decode b_JStringUTF16_putCharSB 2 = .ok (.invokestatic 67, 3) := by decide +kernel
theorem d_JStringUTF16_putCharSB_5 : decode b_JStringUTF16_putCharSB 5 = .ok (.aload_n 0, 1) := by decide +kernel
theorem d_JStringUTF16_putCharSB_6 : decode b_JStringUTF16_putCharSB 6 = .ok (.iload_n 1, 1) := by decide +kernel
theorem d_JStringUTF16_putCharSB_7 : decode b_JStringUTF16_putCharSB 7 = .ok (.iload_n 2, 1) := by decide +kernel
theorem d_JStringUTF16_putCharSB_8 : decode b_JStringUTF16_putCharSB 8 = .ok (.invokestatic 111, 3) := by decide +kernel
theorem d_JStringUTF16_putCharSB_11 : decode b_JStringUTF16_putCharSB 11 = .ok (.return_, 1) := by decide +kernel
